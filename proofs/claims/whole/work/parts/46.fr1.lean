set_option maxHeartbeats 4000000 in
set_option maxRecDepth 100000 in
theorem s_Frames_isThere (l : Launch) (g : tw_G) (sz : Nat) (a : Int32) : Met l y_Frames_isThere [.code y_Frames_isThere b_Frames_isThere 1 (some .boolean)] ({ frames := 0, cells := 0, slots := 0, locals := 0 }) (tw_P g [.int a] [] sz) (vp_Si (fun r => r = 0 ∨ (r = 1 ∧ vp_in a 600))) 0 0 (fun _ => False) := by
  refine tw_met (l := l) (g := g) (y := y_Frames_isThere) (cc := b_Frames_isThere) (maxL := 1) (ret := (some .boolean)) (rm := { frames := 0, cells := 0, slots := 0, locals := 0 }) (mc := 0) (ms := 0) (av := [.int a]) (ws := []) (sz := sz) (Qc := fun _ => (vp_Si (fun r => r = 0 ∨ (r = 1 ∧ vp_in a 600)))) (free := fun _ _ => False) (by decide) (Nat.le_of_ble_eq_true rfl) ?_
  intro p e s m below meth c ls A E hB hK hZ hP hD hS hA hl
  obtain ⟨hx, hb, hml, hr, hown, hts, hlocks, hin⟩ := id E
  have hl : lv_has ls 1 [(0, .int a)] := hl
  refine lv_iload_n hx hb d_Frames_isThere_0 rfl (lv_at hl 0 rfl) ?_
  refine lv_if_lt (tgt := 15) hx hb d_Frames_isThere_1 (by decide) (fun h1 => ?_) (fun h1 => ?_)
  · refine lv_iconst (v := 0) hx hb d_Frames_isThere_15 (by decide) ?_
    exact tw_zsret E (by decide) (Or.inl rfl) d_Frames_isThere_16
  · refine lv_iload_n hx hb d_Frames_isThere_4 rfl (lv_at hl 0 rfl) ?_
    refine lv_sipush (v := 600) hx hb d_Frames_isThere_5 (by decide) ?_
    refine lv_icmp_ge (tgt := 15) hx hb d_Frames_isThere_8 (by decide) (fun h8 => ?_) (fun h8 => ?_)
    · refine lv_iconst (v := 0) hx hb d_Frames_isThere_15 (by decide) ?_
      exact tw_zsret E (by decide) (Or.inl rfl) d_Frames_isThere_16
    · refine lv_iconst (v := 1) hx hb d_Frames_isThere_11 (by decide) ?_
      refine lv_goto (tgt := 16) hx hb d_Frames_isThere_12 (by decide) ?_
      exact tw_zsret E (by decide) (Or.inr ⟨rfl, tn_in h1 (n := 600) h8 (Nat.le_refl _) (by decide)⟩) d_Frames_isThere_16
set_option maxHeartbeats 4000000 in
set_option maxRecDepth 100000 in
theorem s_Frames_isBegin (l : Launch) (g : tw_G) (sz : Nat) (f0 : Nat) (w : Nat → Nat) (lo : Nat) (rw : Nat → Int64) (bg wt dp : Nat → Int32) (a : Int32) (hF : FI lo rw wt dp) : Met l y_Frames_isBegin [.code y_Frames_isBegin b_Frames_isBegin 2 (some .boolean)] ({ frames := 1, cells := 0, slots := 0, locals := 20 }) (tw_P g [.ref f0, .int a] [(f0, .inr (1, [.ref (w 3), .ref (w 4), .ref (w 5), .ref (w 6), .int (nI lo)])), ((w 3), aJ g 4800 rw), ((w 4), aB g 600 bg), ((w 5), aB g 600 wt), ((w 6), aB g 600 dp)] sz) (vp_Si (fun r => r = 0 ∨ r = 1)) 0 0 (fun _ => False) := by
  refine tw_met (l := l) (g := g) (y := y_Frames_isBegin) (cc := b_Frames_isBegin) (maxL := 2) (ret := (some .boolean)) (rm := { frames := 1, cells := 0, slots := 0, locals := 20 }) (mc := 0) (ms := 0) (av := [.ref f0, .int a]) (ws := [(f0, .inr (1, [.ref (w 3), .ref (w 4), .ref (w 5), .ref (w 6), .int (nI lo)])), ((w 3), aJ g 4800 rw), ((w 4), aB g 600 bg), ((w 5), aB g 600 wt), ((w 6), aB g 600 dp)]) (sz := sz) (Qc := fun _ => (vp_Si (fun r => r = 0 ∨ r = 1))) (free := fun _ _ => False) (by decide) (Nat.le_of_ble_eq_true rfl) ?_
  intro p e s m below meth c ls A E hB hK hZ hP hD hS hA hl
  obtain ⟨hx, hb, hml, hr, hown, hts, hlocks, hin⟩ := id E
  have hl : lv_has ls 2 [(0, .ref f0), (1, .int a)] := hl
  refine lv_iload_n hx hb d_Frames_isBegin_0 rfl (lv_at hl 1 rfl) ?_
  refine tw_si (tw_runS (ws := [(f0, .inr (1, [.ref (w 3), .ref (w 4), .ref (w 5), .ref (w 6), .int (nI lo)])), ((w 3), aJ g 4800 rw), ((w 4), aB g 600 bg), ((w 5), aB g 600 wt), ((w 6), aB g 600 dp)]) (wc := []) (As := [.int a]) (rest := []) E hB hK hZ (s_Frames_isThere l g s.heap.size a) mc_Frames_isThere ms_Frames_isThere wd_733 hP hD hS hA [] rfl (by decide) rfl rfl (by decide) rfl hl.1 rfl (Nat.le_of_ble_eq_true rfl) (by decide) d_Frames_isBegin_1) (fun r1 hr1 => ?_)
  refine lv_if_eq (tgt := 21) hx hb d_Frames_isBegin_4 (by decide) (fun h4 => ?_) (fun h4 => ?_)
  · refine lv_iconst (v := 0) hx hb d_Frames_isBegin_21 (by decide) ?_
    exact tw_zsret E (by decide) (by decide) d_Frames_isBegin_22
  · refine lv_aload_n hx hb d_Frames_isBegin_7 rfl (lv_at hl 0 rfl) ?_
    refine va_get (D := g.1) (ci := 1) (v := .ref (w 4)) (C := R_Frames) (T := F_Frames) (N := 5) hx hb hts in_Frames hown hK hP 0 rfl rfl 1 (by decide) (hts _ wd_226) (fun _ h9 => h9) rfl d_Frames_isBegin_8 ?_
    refine lv_iload_n hx hb d_Frames_isBegin_11 rfl (lv_at hl 1 rfl) ?_
    refine va_bald hx hb hK hP 2 1 rfl rfl ((hr1.resolve_left h4).2) d_Frames_isBegin_12 ?_
    obtain ⟨x2, ex2⟩ : ∃ z : Int32, bg a.toNatClampNeg = z := ⟨_, rfl⟩
    refine tw_ri (e2 := x2) ex2 ?_
    refine lv_iconst (v := 1) hx hb d_Frames_isBegin_13 (by decide) ?_
    refine lv_icmp_ne (tgt := 21) hx hb d_Frames_isBegin_14 (by decide) (fun h14 => ?_) (fun h14 => ?_)
    · refine lv_iconst (v := 0) hx hb d_Frames_isBegin_21 (by decide) ?_
      exact tw_zsret E (by decide) (by decide) d_Frames_isBegin_22
    · refine lv_iconst (v := 1) hx hb d_Frames_isBegin_17 (by decide) ?_
      refine lv_goto (tgt := 22) hx hb d_Frames_isBegin_18 (by decide) ?_
      exact tw_zsret E (by decide) (by decide) d_Frames_isBegin_22
set_option maxHeartbeats 4000000 in
set_option maxRecDepth 100000 in
theorem s_Frames_deepAt (l : Launch) (g : tw_G) (sz : Nat) (f0 : Nat) (w : Nat → Nat) (lo : Nat) (rw : Nat → Int64) (bg wt dp : Nat → Int32) (a : Int32) (hF : FI lo rw wt dp) : Met l y_Frames_deepAt [.code y_Frames_deepAt b_Frames_deepAt 2 (some .int)] ({ frames := 1, cells := 0, slots := 0, locals := 20 }) (tw_P g [.ref f0, .int a] [(f0, .inr (1, [.ref (w 3), .ref (w 4), .ref (w 5), .ref (w 6), .int (nI lo)])), ((w 3), aJ g 4800 rw), ((w 4), aB g 600 bg), ((w 5), aB g 600 wt), ((w 6), aB g 600 dp)] sz) (vp_Si (fun r => r = -1 ∨ (vp_in a 600 ∧ r = dp a.toNatClampNeg))) 0 0 (fun _ => False) := by
  refine tw_met (l := l) (g := g) (y := y_Frames_deepAt) (cc := b_Frames_deepAt) (maxL := 2) (ret := (some .int)) (rm := { frames := 1, cells := 0, slots := 0, locals := 20 }) (mc := 0) (ms := 0) (av := [.ref f0, .int a]) (ws := [(f0, .inr (1, [.ref (w 3), .ref (w 4), .ref (w 5), .ref (w 6), .int (nI lo)])), ((w 3), aJ g 4800 rw), ((w 4), aB g 600 bg), ((w 5), aB g 600 wt), ((w 6), aB g 600 dp)]) (sz := sz) (Qc := fun _ => (vp_Si (fun r => r = -1 ∨ (vp_in a 600 ∧ r = dp a.toNatClampNeg)))) (free := fun _ _ => False) (by decide) (Nat.le_of_ble_eq_true rfl) ?_
  intro p e s m below meth c ls A E hB hK hZ hP hD hS hA hl
  obtain ⟨hx, hb, hml, hr, hown, hts, hlocks, hin⟩ := id E
  have hl : lv_has ls 2 [(0, .ref f0), (1, .int a)] := hl
  refine lv_iload_n hx hb d_Frames_deepAt_0 rfl (lv_at hl 1 rfl) ?_
  refine tw_si (tw_runS (ws := [(f0, .inr (1, [.ref (w 3), .ref (w 4), .ref (w 5), .ref (w 6), .int (nI lo)])), ((w 3), aJ g 4800 rw), ((w 4), aB g 600 bg), ((w 5), aB g 600 wt), ((w 6), aB g 600 dp)]) (wc := []) (As := [.int a]) (rest := []) E hB hK hZ (s_Frames_isThere l g s.heap.size a) mc_Frames_isThere ms_Frames_isThere wd_733 hP hD hS hA [] rfl (by decide) rfl rfl (by decide) rfl hl.1 rfl (Nat.le_of_ble_eq_true rfl) (by decide) d_Frames_deepAt_1) (fun r1 hr1 => ?_)
  refine lv_if_eq (tgt := 16) hx hb d_Frames_deepAt_4 (by decide) (fun h4 => ?_) (fun h4 => ?_)
  · refine lv_iconst (v := (-1)) hx hb d_Frames_deepAt_16 (by decide) ?_
    exact tw_isret E (Or.inl rfl) d_Frames_deepAt_17
  · refine lv_aload_n hx hb d_Frames_deepAt_7 rfl (lv_at hl 0 rfl) ?_
    refine va_get (D := g.1) (ci := 1) (v := .ref (w 6)) (C := R_Frames) (T := F_Frames) (N := 5) hx hb hts in_Frames hown hK hP 0 rfl rfl 3 (by decide) (hts _ wd_228) (fun _ h9 => h9) rfl d_Frames_deepAt_8 ?_
    refine lv_iload_n hx hb d_Frames_deepAt_11 rfl (lv_at hl 1 rfl) ?_
    refine va_bald hx hb hK hP 4 1 rfl rfl ((hr1.resolve_left h4).2) d_Frames_deepAt_12 ?_
    obtain ⟨x2, ex2⟩ : ∃ z : Int32, dp a.toNatClampNeg = z := ⟨_, rfl⟩
    refine tw_ri (e2 := x2) ex2 ?_
    refine lv_goto (tgt := 17) hx hb d_Frames_deepAt_13 (by decide) ?_
    exact tw_isret E (Or.inr ⟨(hr1.resolve_left h4).2, ex2.symm⟩) d_Frames_deepAt_17
set_option maxHeartbeats 4000000 in
set_option maxRecDepth 100000 in
theorem s_Frames_howMany (l : Launch) (g : tw_G) (sz : Nat) (f0 : Nat) (w : Nat → Nat) (lo : Nat) (rw : Nat → Int64) (bg wt dp : Nat → Int32) (hF : FI lo rw wt dp) : Met l y_Frames_howMany [.code y_Frames_howMany b_Frames_howMany 3 (some .int)] ({ frames := 0, cells := 0, slots := 0, locals := 0 }) (tw_P g [.ref f0] [(f0, .inr (1, [.ref (w 3), .ref (w 4), .ref (w 5), .ref (w 6), .int (nI lo)])), ((w 3), aJ g 4800 rw), ((w 4), aB g 600 bg), ((w 5), aB g 600 wt), ((w 6), aB g 600 dp)] sz) (vp_Si (fun _ => True)) 0 0 (fun _ => False) := by
  refine tw_met (l := l) (g := g) (y := y_Frames_howMany) (cc := b_Frames_howMany) (maxL := 3) (ret := (some .int)) (rm := { frames := 0, cells := 0, slots := 0, locals := 0 }) (mc := 0) (ms := 0) (av := [.ref f0]) (ws := [(f0, .inr (1, [.ref (w 3), .ref (w 4), .ref (w 5), .ref (w 6), .int (nI lo)])), ((w 3), aJ g 4800 rw), ((w 4), aB g 600 bg), ((w 5), aB g 600 wt), ((w 6), aB g 600 dp)]) (sz := sz) (Qc := fun _ => (vp_Si (fun _ => True))) (free := fun _ _ => False) (by decide) (Nat.le_of_ble_eq_true rfl) ?_
  intro p e s m below meth c ls A E hB hK hZ hP hD hS hA hl
  obtain ⟨hx, hb, hml, hr, hown, hts, hlocks, hin⟩ := id E
  have hl : lv_has ls 3 [(0, .ref f0)] := hl
  refine lv_iconst (v := 0) hx hb d_Frames_howMany_0 (by decide) ?_
  refine lv_istore_n hx hb d_Frames_howMany_1 rfl hl (by decide) rfl (fun ls hl => ?_)
  have hl : lv_has ls 3 [(1, .int 0), (0, .ref f0)] := hl
  refine lv_iconst (v := 0) hx hb d_Frames_howMany_2 (by decide) ?_
  refine lv_istore_n hx hb d_Frames_howMany_3 rfl hl (by decide) rfl (fun ls hl => ?_)
  have hl : lv_has ls 3 [(2, .int 0), (1, .int 0), (0, .ref f0)] := hl
  have loop4 : ∀ (kq : Nat) (m9 : Int32) (i : Nat) (ls : Array Slot) , 600 - i = kq → (hj : i ≤ 600) → lv_has ls 3 [(2, .int (nI i)), (1, .int m9), (0, .ref f0)] → W p l e ({ frames := 0, cells := 0, slots := 0, locals := 0 }) s m [.ref f0].toArray below meth c s.heap [] 0 0 (MQ below (vp_Si (fun _ => True)) [.ref f0].toArray s 0 0 (fun _ => False)) (F0 m 4 ls []) := by
    intro kq
    induction kq using Nat.strongRecOn with
    | _ kq ih =>
      intro m9 i ls hk hj hl 
      refine lv_iload_n hx hb d_Frames_howMany_4 rfl (lv_at hl 0 rfl) ?_
      refine lv_sipush (v := 600) hx hb d_Frames_howMany_5 (by decide) ?_
      refine lv_icmp_ge (tgt := 35) hx hb d_Frames_howMany_8 (by decide) (fun h8 => ?_) (fun h8 => ?_)
      · refine lv_iload_n hx hb d_Frames_howMany_35 rfl (lv_at hl 1 rfl) ?_
        exact tw_isret E trivial d_Frames_howMany_36
      · have h8 := tn_nle (a := 600) h8 (by decide) (by omega)
        refine lv_iload_n hx hb d_Frames_howMany_11 rfl (lv_at hl 1 rfl) ?_
        refine lv_aload_n hx hb d_Frames_howMany_12 rfl (lv_at hl 2 rfl) ?_
        refine va_get (D := g.1) (ci := 1) (v := .ref (w 6)) (C := R_Frames) (T := F_Frames) (N := 5) hx hb hts in_Frames hown hK hP 0 rfl rfl 3 (by decide) (hts _ wd_228) (fun _ h9 => h9) rfl d_Frames_howMany_13 ?_
        refine lv_iload_n hx hb d_Frames_howMany_16 rfl (lv_at hl 0 rfl) ?_
        refine va_bald hx hb hK hP 4 1 rfl rfl (vp_in_nI h8 (by decide)) d_Frames_howMany_17 ?_
        obtain ⟨x1, ex1⟩ : ∃ z : Int32, dp ((nI i).toNatClampNeg) = z := ⟨_, rfl⟩
        refine tw_ri (e2 := x1) ex1 ?_
        refine lv_iconst (v := (-1)) hx hb d_Frames_howMany_18 (by decide) ?_
        refine lv_icmp_ne (tgt := 26) hx hb d_Frames_howMany_19 (by decide) (fun h19 => ?_) (fun h19 => ?_)
        · refine lv_iconst (v := 1) hx hb d_Frames_howMany_26 (by decide) ?_
          refine lv_iadd hx hb d_Frames_howMany_27 ?_
          obtain ⟨x2, ex2⟩ : ∃ z : Int32, m9 + 1 = z := ⟨_, rfl⟩
          refine tw_ri (e2 := x2) ex2 ?_
          refine lv_istore_n hx hb d_Frames_howMany_28 rfl hl (by decide) rfl (fun ls hl => ?_)
          have hl : lv_has ls 3 [(1, .int x2), (2, .int (nI i)), (0, .ref f0)] := hl
          refine lv_iinc (k := 1) (v := nI (i + 1)) hx hb d_Frames_howMany_29 hl rfl ((nI_succ i).symm) (by decide) rfl (fun ls hl => ?_)
          have hl : lv_has ls 3 [(2, .int (nI (i + 1))), (1, .int x2), (0, .ref f0)] := hl
          refine lv_goto (tgt := 4) hx hb d_Frames_howMany_32 (by decide) ?_
          exact ih _ (by omega) x2 (i + 1) ls rfl (by omega) (lv_sub hl [0, 1, 2] rfl)
        · refine lv_iconst (v := 0) hx hb d_Frames_howMany_22 (by decide) ?_
          refine lv_goto (tgt := 27) hx hb d_Frames_howMany_23 (by decide) ?_
          refine lv_iadd hx hb d_Frames_howMany_27 ?_
          obtain ⟨x3, ex3⟩ : ∃ z : Int32, m9 + 0 = z := ⟨_, rfl⟩
          refine tw_ri (e2 := x3) ex3 ?_
          refine lv_istore_n hx hb d_Frames_howMany_28 rfl hl (by decide) rfl (fun ls hl => ?_)
          have hl : lv_has ls 3 [(1, .int x3), (2, .int (nI i)), (0, .ref f0)] := hl
          refine lv_iinc (k := 1) (v := nI (i + 1)) hx hb d_Frames_howMany_29 hl rfl ((nI_succ i).symm) (by decide) rfl (fun ls hl => ?_)
          have hl : lv_has ls 3 [(2, .int (nI (i + 1))), (1, .int x3), (0, .ref f0)] := hl
          refine lv_goto (tgt := 4) hx hb d_Frames_howMany_32 (by decide) ?_
          exact ih _ (by omega) x3 (i + 1) ls rfl (by omega) (lv_sub hl [0, 1, 2] rfl)
  exact loop4 _ 0 0 ls rfl (Nat.zero_le _) (hl)
set_option maxHeartbeats 4000000 in
set_option maxRecDepth 100000 in
theorem s_Frames_deepest (l : Launch) (g : tw_G) (sz : Nat) (f0 : Nat) (w : Nat → Nat) (lo : Nat) (rw : Nat → Int64) (bg wt dp : Nat → Int32) (hF : FI lo rw wt dp) : Met l y_Frames_deepest [.code y_Frames_deepest b_Frames_deepest 3 (some .int)] ({ frames := 1, cells := 0, slots := 0, locals := 21 }) (tw_P g [.ref f0] [(f0, .inr (1, [.ref (w 3), .ref (w 4), .ref (w 5), .ref (w 6), .int (nI lo)])), ((w 3), aJ g 4800 rw), ((w 4), aB g 600 bg), ((w 5), aB g 600 wt), ((w 6), aB g 600 dp)] sz) (vp_Si (fun _ => True)) 0 0 (fun _ => False) := by
  refine tw_met (l := l) (g := g) (y := y_Frames_deepest) (cc := b_Frames_deepest) (maxL := 3) (ret := (some .int)) (rm := { frames := 1, cells := 0, slots := 0, locals := 21 }) (mc := 0) (ms := 0) (av := [.ref f0]) (ws := [(f0, .inr (1, [.ref (w 3), .ref (w 4), .ref (w 5), .ref (w 6), .int (nI lo)])), ((w 3), aJ g 4800 rw), ((w 4), aB g 600 bg), ((w 5), aB g 600 wt), ((w 6), aB g 600 dp)]) (sz := sz) (Qc := fun _ => (vp_Si (fun _ => True))) (free := fun _ _ => False) (by decide) (Nat.le_of_ble_eq_true rfl) ?_
  intro p e s m below meth c ls A E hB hK hZ hP hD hS hA hl
  obtain ⟨hx, hb, hml, hr, hown, hts, hlocks, hin⟩ := id E
  have hl : lv_has ls 3 [(0, .ref f0)] := hl
  refine lv_iconst (v := 0) hx hb d_Frames_deepest_0 (by decide) ?_
  refine lv_istore_n hx hb d_Frames_deepest_1 rfl hl (by decide) rfl (fun ls hl => ?_)
  have hl : lv_has ls 3 [(1, .int 0), (0, .ref f0)] := hl
  refine lv_iconst (v := 0) hx hb d_Frames_deepest_2 (by decide) ?_
  refine lv_istore_n hx hb d_Frames_deepest_3 rfl hl (by decide) rfl (fun ls hl => ?_)
  have hl : lv_has ls 3 [(2, .int 0), (1, .int 0), (0, .ref f0)] := hl
  have loop4 : ∀ (kq : Nat) (m9 : Int32) (i : Nat) (ls : Array Slot) , 600 - i = kq → (hj : i ≤ 600) → lv_has ls 3 [(2, .int (nI i)), (1, .int m9), (0, .ref f0)] → W p l e ({ frames := 1, cells := 0, slots := 0, locals := 21 }) s m [.ref f0].toArray below meth c s.heap [] 0 0 (MQ below (vp_Si (fun _ => True)) [.ref f0].toArray s 0 0 (fun _ => False)) (F0 m 4 ls []) := by
    intro kq
    induction kq using Nat.strongRecOn with
    | _ kq ih =>
      intro m9 i ls hk hj hl 
      refine lv_iload_n hx hb d_Frames_deepest_4 rfl (lv_at hl 0 rfl) ?_
      refine lv_sipush (v := 600) hx hb d_Frames_deepest_5 (by decide) ?_
      refine lv_icmp_ge (tgt := 28) hx hb d_Frames_deepest_8 (by decide) (fun h8 => ?_) (fun h8 => ?_)
      · refine lv_iload_n hx hb d_Frames_deepest_28 rfl (lv_at hl 1 rfl) ?_
        exact tw_isret E trivial d_Frames_deepest_29
      · have h8 := tn_nle (a := 600) h8 (by decide) (by omega)
        refine lv_iload_n hx hb d_Frames_deepest_11 rfl (lv_at hl 1 rfl) ?_
        refine lv_aload_n hx hb d_Frames_deepest_12 rfl (lv_at hl 2 rfl) ?_
        refine va_get (D := g.1) (ci := 1) (v := .ref (w 6)) (C := R_Frames) (T := F_Frames) (N := 5) hx hb hts in_Frames hown hK hP 0 rfl rfl 3 (by decide) (hts _ wd_228) (fun _ h9 => h9) rfl d_Frames_deepest_13 ?_
        refine lv_iload_n hx hb d_Frames_deepest_16 rfl (lv_at hl 0 rfl) ?_
        refine va_bald hx hb hK hP 4 1 rfl rfl (vp_in_nI h8 (by decide)) d_Frames_deepest_17 ?_
        obtain ⟨x1, ex1⟩ : ∃ z : Int32, dp ((nI i).toNatClampNeg) = z := ⟨_, rfl⟩
        refine tw_ri (e2 := x1) ex1 ?_
        refine va_mmax (x := m9) (y := x1) hx hb (by rw [hml]; exact hl.1.symm) hown (hts _ wd_1194) (hts _ wd_956) (hts _ wd_26) (hts _ wd_957) (Nat.le_of_ble_eq_true rfl) (Nat.le_of_ble_eq_true rfl) (Nat.le_of_ble_eq_true rfl) (Nat.le_of_ble_eq_true rfl) d_Frames_deepest_18 ?_
        obtain ⟨x2, ex2⟩ : ∃ z : Int32, (if m9 < x1 then x1 else m9) = z := ⟨_, rfl⟩
        refine tw_ri (e2 := x2) ex2 ?_
        refine lv_istore_n hx hb d_Frames_deepest_21 rfl hl (by decide) rfl (fun ls hl => ?_)
        have hl : lv_has ls 3 [(1, .int x2), (2, .int (nI i)), (0, .ref f0)] := hl
        refine lv_iinc (k := 1) (v := nI (i + 1)) hx hb d_Frames_deepest_22 hl rfl ((nI_succ i).symm) (by decide) rfl (fun ls hl => ?_)
        have hl : lv_has ls 3 [(2, .int (nI (i + 1))), (1, .int x2), (0, .ref f0)] := hl
        refine lv_goto (tgt := 4) hx hb d_Frames_deepest_25 (by decide) ?_
        exact ih _ (by omega) x2 (i + 1) ls rfl (by omega) (lv_sub hl [0, 1, 2] rfl)
  exact loop4 _ 0 0 ls rfl (Nat.zero_le _) (hl)
set_option maxHeartbeats 4000000 in
set_option maxRecDepth 100000 in
theorem s_Frames_setBegin (l : Launch) (g : tw_G) (sz : Nat) (f0 : Nat) (w : Nat → Nat) (lo : Nat) (rw : Nat → Int64) (bg : Nat → Int32) (wt : Nat → Int32) (dp : Nat → Int32) (a : Int32) (hF : FI lo rw wt dp) : Met l y_Frames_setBegin [.code y_Frames_setBegin b_Frames_setBegin 2 none] ({ frames := 1, cells := 0, slots := 0, locals := 20 }) (tw_P g [.ref f0, .int a] [(f0, .inr (1, [.ref (w 3), .ref (w 4), .ref (w 5), .ref (w 6), .int (nI lo)])), ((w 3), aJ g 4800 rw), ((w 4), aB g 600 bg), ((w 5), aB g 600 wt), ((w 6), aB g 600 dp)] sz) (tw_Qv g (fun (u : Nat × (Nat → Int64) × (Nat → Int32) × (Nat → Int32) × (Nat → Int32)) => FI u.1 u.2.1 u.2.2.2.1 u.2.2.2.2) (fun u : Nat × (Nat → Int64) × (Nat → Int32) × (Nat → Int32) × (Nat → Int32) => [(f0, .inr (1, [.ref (w 3), .ref (w 4), .ref (w 5), .ref (w 6), .int (nI u.1)])), ((w 3), aJ g 4800 u.2.1), ((w 4), aB g 600 u.2.2.1), ((w 5), aB g 600 u.2.2.2.1), ((w 6), aB g 600 u.2.2.2.2)]) (va_A [(f0, .inr (1, [.ref (w 3), .ref (w 4), .ref (w 5), .ref (w 6), .int (nI lo)])), ((w 3), aJ g 4800 rw), ((w 4), aB g 600 bg), ((w 5), aB g 600 wt), ((w 6), aB g 600 dp)] sz)) 0 0 (va_A [(f0, .inr (1, [.ref (w 3), .ref (w 4), .ref (w 5), .ref (w 6), .int (nI lo)])), ((w 3), aJ g 4800 rw), ((w 4), aB g 600 bg), ((w 5), aB g 600 wt), ((w 6), aB g 600 dp)] sz) := by
  refine tw_metW (l := l) (g := g) (y := y_Frames_setBegin) (cc := b_Frames_setBegin) (maxL := 2) (ret := none) (rm := { frames := 1, cells := 0, slots := 0, locals := 20 }) (mc := 0) (ms := 0) (av := [.ref f0, .int a]) (ws := [(f0, .inr (1, [.ref (w 3), .ref (w 4), .ref (w 5), .ref (w 6), .int (nI lo)])), ((w 3), aJ g 4800 rw), ((w 4), aB g 600 bg), ((w 5), aB g 600 wt), ((w 6), aB g 600 dp)]) (sz := sz) (Qc := fun A => (tw_Qv g (fun (u : Nat × (Nat → Int64) × (Nat → Int32) × (Nat → Int32) × (Nat → Int32)) => FI u.1 u.2.1 u.2.2.2.1 u.2.2.2.2) (fun u : Nat × (Nat → Int64) × (Nat → Int32) × (Nat → Int32) × (Nat → Int32) => [(f0, .inr (1, [.ref (w 3), .ref (w 4), .ref (w 5), .ref (w 6), .int (nI u.1)])), ((w 3), aJ g 4800 u.2.1), ((w 4), aB g 600 u.2.2.1), ((w 5), aB g 600 u.2.2.2.1), ((w 6), aB g 600 u.2.2.2.2)]) A)) (by decide) (Nat.le_of_ble_eq_true rfl) ?_
  intro p e s m below meth c ls H A E hB hK hZ hP hD hS hA hl
  obtain ⟨hx, hb, hml, hr, hown, hts, hlocks, hin⟩ := id E
  have hl : lv_has ls 2 [(0, .ref f0), (1, .int a)] := hl
  refine lv_iload_n hx hb d_Frames_setBegin_0 rfl (lv_at hl 1 rfl) ?_
  refine tw_si (tw_runS (ws := [(f0, .inr (1, [.ref (w 3), .ref (w 4), .ref (w 5), .ref (w 6), .int (nI lo)])), ((w 3), aJ g 4800 rw), ((w 4), aB g 600 bg), ((w 5), aB g 600 wt), ((w 6), aB g 600 dp)]) (wc := []) (As := [.int a]) (rest := []) E hB hK hZ (s_Frames_isThere l g H.size a) mc_Frames_isThere ms_Frames_isThere wd_733 hP hD hS hA [] rfl (by decide) rfl rfl (by decide) rfl hl.1 rfl (Nat.le_of_ble_eq_true rfl) (by decide) d_Frames_setBegin_1) (fun r1 hr1 => ?_)
  refine lv_if_eq (tgt := 14) hx hb d_Frames_setBegin_4 (by decide) (fun h4 => ?_) (fun h4 => ?_)
  · exact tw_vret E hS (lo, rw, bg, wt, dp) hF hP hD d_Frames_setBegin_14
  · refine lv_aload_n hx hb d_Frames_setBegin_7 rfl (lv_at hl 0 rfl) ?_
    refine va_get (D := g.1) (ci := 1) (v := .ref (w 4)) (C := R_Frames) (T := F_Frames) (N := 5) hx hb hts in_Frames hown hK hP 0 rfl rfl 1 (by decide) (hts _ wd_226) (fun _ h9 => h9) rfl d_Frames_setBegin_8 ?_
    refine lv_iload_n hx hb d_Frames_setBegin_11 rfl (lv_at hl 1 rfl) ?_
    refine lv_iconst (v := 1) hx hb d_Frames_setBegin_12 (by decide) ?_
    refine va_bast hx hb hK hP hD hS 2 1 rfl rfl ((hr1.resolve_left h4).2) d_Frames_setBegin_13 (fun H locs hP hD hS => ?_)
    have hP : va_P g.1 classes [(f0, .inr (1, [.ref (w 3), .ref (w 4), .ref (w 5), .ref (w 6), .int (nI lo)])), ((w 3), aJ g 4800 rw), ((w 4), aB g 600 (upd bg a.toNatClampNeg (vp_nar .byte 1))), ((w 5), aB g 600 wt), ((w 6), aB g 600 dp)] H := hP
    have hD : va_D A [(f0, .inr (1, [.ref (w 3), .ref (w 4), .ref (w 5), .ref (w 6), .int (nI lo)])), ((w 3), aJ g 4800 rw), ((w 4), aB g 600 (upd bg a.toNatClampNeg (vp_nar .byte 1))), ((w 5), aB g 600 wt), ((w 6), aB g 600 dp)] := hD
    exact tw_vret E hS (lo, rw, upd bg a.toNatClampNeg (vp_nar .byte 1), wt, dp) hF hP hD d_Frames_setBegin_14
set_option maxHeartbeats 4000000 in
set_option maxRecDepth 100000 in
theorem s_Frames_firstWaiting (l : Launch) (g : tw_G) (sz : Nat) (f0 : Nat) (w : Nat → Nat) (lo : Nat) (rw : Nat → Int64) (bg : Nat → Int32) (wt : Nat → Int32) (dp : Nat → Int32) (hF : FI lo rw wt dp) : Met l y_Frames_firstWaiting [.code y_Frames_firstWaiting b_Frames_firstWaiting 2 (some .int)] ({ frames := 0, cells := 0, slots := 0, locals := 0 }) (tw_P g [.ref f0] [(f0, .inr (1, [.ref (w 3), .ref (w 4), .ref (w 5), .ref (w 6), .int (nI lo)])), ((w 3), aJ g 4800 rw), ((w 4), aB g 600 bg), ((w 5), aB g 600 wt), ((w 6), aB g 600 dp)] sz) (tw_Qi g (fun r (u : Nat × (Nat → Int64) × (Nat → Int32) × (Nat → Int32) × (Nat → Int32)) => (r = -1 ∨ ∃ j, j < 600 ∧ r = nI j ∧ u.2.2.2.1 j = 1) ∧ FI u.1 u.2.1 u.2.2.2.1 u.2.2.2.2) (fun u : Nat × (Nat → Int64) × (Nat → Int32) × (Nat → Int32) × (Nat → Int32) => [(f0, .inr (1, [.ref (w 3), .ref (w 4), .ref (w 5), .ref (w 6), .int (nI u.1)])), ((w 3), aJ g 4800 u.2.1), ((w 4), aB g 600 u.2.2.1), ((w 5), aB g 600 u.2.2.2.1), ((w 6), aB g 600 u.2.2.2.2)]) (va_A [(f0, .inr (1, [.ref (w 3), .ref (w 4), .ref (w 5), .ref (w 6), .int (nI lo)])), ((w 3), aJ g 4800 rw), ((w 4), aB g 600 bg), ((w 5), aB g 600 wt), ((w 6), aB g 600 dp)] sz)) 0 0 (va_A [(f0, .inr (1, [.ref (w 3), .ref (w 4), .ref (w 5), .ref (w 6), .int (nI lo)])), ((w 3), aJ g 4800 rw), ((w 4), aB g 600 bg), ((w 5), aB g 600 wt), ((w 6), aB g 600 dp)] sz) := by
  refine tw_metW (l := l) (g := g) (y := y_Frames_firstWaiting) (cc := b_Frames_firstWaiting) (maxL := 2) (ret := (some .int)) (rm := { frames := 0, cells := 0, slots := 0, locals := 0 }) (mc := 0) (ms := 0) (av := [.ref f0]) (ws := [(f0, .inr (1, [.ref (w 3), .ref (w 4), .ref (w 5), .ref (w 6), .int (nI lo)])), ((w 3), aJ g 4800 rw), ((w 4), aB g 600 bg), ((w 5), aB g 600 wt), ((w 6), aB g 600 dp)]) (sz := sz) (Qc := fun A => (tw_Qi g (fun r (u : Nat × (Nat → Int64) × (Nat → Int32) × (Nat → Int32) × (Nat → Int32)) => (r = -1 ∨ ∃ j, j < 600 ∧ r = nI j ∧ u.2.2.2.1 j = 1) ∧ FI u.1 u.2.1 u.2.2.2.1 u.2.2.2.2) (fun u : Nat × (Nat → Int64) × (Nat → Int32) × (Nat → Int32) × (Nat → Int32) => [(f0, .inr (1, [.ref (w 3), .ref (w 4), .ref (w 5), .ref (w 6), .int (nI u.1)])), ((w 3), aJ g 4800 u.2.1), ((w 4), aB g 600 u.2.2.1), ((w 5), aB g 600 u.2.2.2.1), ((w 6), aB g 600 u.2.2.2.2)]) A)) (by decide) (Nat.le_of_ble_eq_true rfl) ?_
  intro p e s m below meth c ls H A E hB hK hZ hP hD hS hA hl
  obtain ⟨hx, hb, hml, hr, hown, hts, hlocks, hin⟩ := id E
  have hl : lv_has ls 2 [(0, .ref f0)] := hl
  refine lv_aload_n hx hb d_Frames_firstWaiting_0 rfl (lv_at hl 0 rfl) ?_
  refine va_get (D := g.1) (ci := 1) (v := .int (nI lo)) (C := R_Frames) (T := F_Frames) (N := 5) hx hb hts in_Frames hown hK hP 0 rfl rfl 4 (by decide) (hts _ wd_229) (fun _ h9 => h9) rfl d_Frames_firstWaiting_1 ?_
  refine lv_istore_n hx hb d_Frames_firstWaiting_4 rfl hl (by decide) rfl (fun ls hl => ?_)
  have hl : lv_has ls 2 [(1, .int (nI lo)), (0, .ref f0)] := hl
  have loop5 : ∀ (kq : Nat) (i : Nat) (ls : Array Slot) (H : Heap) (locs : List Loc) , 600 - i = kq → (hj : i ≤ 600) → lv_has ls 2 [(1, .int (nI i)), (0, .ref f0)] → va_P g.1 classes [(f0, .inr (1, [.ref (w 3), .ref (w 4), .ref (w 5), .ref (w 6), .int (nI lo)])), ((w 3), aJ g 4800 rw), ((w 4), aB g 600 bg), ((w 5), aB g 600 wt), ((w 6), aB g 600 dp)] H → va_D A [(f0, .inr (1, [.ref (w 3), .ref (w 4), .ref (w 5), .ref (w 6), .int (nI lo)])), ((w 3), aJ g 4800 rw), ((w 4), aB g 600 bg), ((w 5), aB g 600 wt), ((w 6), aB g 600 dp)] → va_S A s.heap H locs → W p l e ({ frames := 0, cells := 0, slots := 0, locals := 0 }) s m [.ref f0].toArray below meth c H locs 0 0 (MQ below (tw_Qi g (fun r (u : Nat × (Nat → Int64) × (Nat → Int32) × (Nat → Int32) × (Nat → Int32)) => (r = -1 ∨ ∃ j, j < 600 ∧ r = nI j ∧ u.2.2.2.1 j = 1) ∧ FI u.1 u.2.1 u.2.2.2.1 u.2.2.2.2) (fun u : Nat × (Nat → Int64) × (Nat → Int32) × (Nat → Int32) × (Nat → Int32) => [(f0, .inr (1, [.ref (w 3), .ref (w 4), .ref (w 5), .ref (w 6), .int (nI u.1)])), ((w 3), aJ g 4800 u.2.1), ((w 4), aB g 600 u.2.2.1), ((w 5), aB g 600 u.2.2.2.1), ((w 6), aB g 600 u.2.2.2.2)]) A) [.ref f0].toArray s 0 0 A) (F0 m 5 ls []) := by
    intro kq
    induction kq using Nat.strongRecOn with
    | _ kq ih =>
      intro i ls H locs hk hj hl hP hD hS
      refine lv_iload_n hx hb d_Frames_firstWaiting_5 rfl (lv_at hl 0 rfl) ?_
      refine lv_sipush (v := 600) hx hb d_Frames_firstWaiting_6 (by decide) ?_
      refine lv_icmp_ge (tgt := 35) hx hb d_Frames_firstWaiting_9 (by decide) (fun h9 => ?_) (fun h9 => ?_)
      · have e600 : (600 : Int32) = nI 600 := rfl
        refine lv_aload_n hx hb d_Frames_firstWaiting_35 rfl (lv_at hl 1 rfl) ?_
        refine lv_sipush (v := 600) hx hb d_Frames_firstWaiting_36 (by decide) ?_
        refine va_put (D := g.1) (ci := 1) (v := .int 600) (ty := .int) (C := R_Frames) (T := F_Frames) (N := 5) hx hb hts in_Frames t_Frames t_Frames_ok n_Frames hown hK hP hD hS 0 rfl rfl 4 (by decide) (hts _ wd_229) (fun _ h9 => h9) rfl (t_Frames_ok 4 (by decide)) rfl rfl (Nat.le_of_ble_eq_true rfl) d_Frames_firstWaiting_39 (fun H locs hP hD hS => ?_)
        have hP : va_P g.1 classes [(f0, .inr (1, [.ref (w 3), .ref (w 4), .ref (w 5), .ref (w 6), .int 600])), ((w 3), aJ g 4800 rw), ((w 4), aB g 600 bg), ((w 5), aB g 600 wt), ((w 6), aB g 600 dp)] H := hP
        have hD : va_D A [(f0, .inr (1, [.ref (w 3), .ref (w 4), .ref (w 5), .ref (w 6), .int 600])), ((w 3), aJ g 4800 rw), ((w 4), aB g 600 bg), ((w 5), aB g 600 wt), ((w 6), aB g 600 dp)] := hD
        refine lv_iconst (v := (-1)) hx hb d_Frames_firstWaiting_42 (by decide) ?_
        exact tw_iret E hS (600, rw, bg, wt, dp) ⟨(Or.inl rfl), ⟨Nat.le_refl _, hF.2⟩⟩ hP hD d_Frames_firstWaiting_43
      · have h9 := tn_nle (a := 600) h9 (by decide) (by omega)
        refine lv_aload_n hx hb d_Frames_firstWaiting_12 rfl (lv_at hl 1 rfl) ?_
        refine va_get (D := g.1) (ci := 1) (v := .ref (w 5)) (C := R_Frames) (T := F_Frames) (N := 5) hx hb hts in_Frames hown hK hP 0 rfl rfl 2 (by decide) (hts _ wd_227) (fun _ h9 => h9) rfl d_Frames_firstWaiting_13 ?_
        refine lv_iload_n hx hb d_Frames_firstWaiting_16 rfl (lv_at hl 0 rfl) ?_
        refine va_bald hx hb hK hP 3 1 rfl rfl (vp_in_nI h9 (by decide)) d_Frames_firstWaiting_17 ?_
        refine tw_ri (e2 := wt i) (by rw [nI_clamp (by omega)]) ?_
        refine lv_iconst (v := 1) hx hb d_Frames_firstWaiting_18 (by decide) ?_
        refine lv_icmp_ne (tgt := 29) hx hb d_Frames_firstWaiting_19 (by decide) (fun h19 => ?_) (fun h19 => ?_)
        · refine lv_iinc (k := 0) (v := nI (i + 1)) hx hb d_Frames_firstWaiting_29 hl rfl ((nI_succ i).symm) (by decide) rfl (fun ls hl => ?_)
          have hl : lv_has ls 2 [(1, .int (nI (i + 1))), (0, .ref f0)] := hl
          refine lv_goto (tgt := 5) hx hb d_Frames_firstWaiting_32 (by decide) ?_
          exact ih _ (by omega) (i + 1) ls _ _ rfl (by omega) (lv_sub hl [0, 1] rfl) hP hD hS
        · refine lv_aload_n hx hb d_Frames_firstWaiting_22 rfl (lv_at hl 1 rfl) ?_
          refine lv_iload_n hx hb d_Frames_firstWaiting_23 rfl (lv_at hl 0 rfl) ?_
          refine va_put (D := g.1) (ci := 1) (v := .int (nI i)) (ty := .int) (C := R_Frames) (T := F_Frames) (N := 5) hx hb hts in_Frames t_Frames t_Frames_ok n_Frames hown hK hP hD hS 0 rfl rfl 4 (by decide) (hts _ wd_229) (fun _ h9 => h9) rfl (t_Frames_ok 4 (by decide)) rfl rfl (Nat.le_of_ble_eq_true rfl) d_Frames_firstWaiting_24 (fun H locs hP hD hS => ?_)
          have hP : va_P g.1 classes [(f0, .inr (1, [.ref (w 3), .ref (w 4), .ref (w 5), .ref (w 6), .int (nI i)])), ((w 3), aJ g 4800 rw), ((w 4), aB g 600 bg), ((w 5), aB g 600 wt), ((w 6), aB g 600 dp)] H := hP
          have hD : va_D A [(f0, .inr (1, [.ref (w 3), .ref (w 4), .ref (w 5), .ref (w 6), .int (nI i)])), ((w 3), aJ g 4800 rw), ((w 4), aB g 600 bg), ((w 5), aB g 600 wt), ((w 6), aB g 600 dp)] := hD
          refine lv_iload_n hx hb d_Frames_firstWaiting_27 rfl (lv_at hl 0 rfl) ?_
          exact tw_iret E hS (i, rw, bg, wt, dp) ⟨(Or.inr ⟨i, h9, rfl, h19⟩), ⟨by omega, hF.2⟩⟩ hP hD d_Frames_firstWaiting_28
  exact loop5 _ lo ls _ _ rfl hF.1 (hl) hP hD hS
