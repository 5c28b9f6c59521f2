set_option maxHeartbeats 4000000 in
set_option maxRecDepth 100000 in
theorem s_Machine_takeWord (l : Launch) (g : tw_G) (sz : Nat) (mh s0 l0 t0 : Nat) (lay : Value) (de : Nat) (ms : Nat) (ml : Nat) (mt : Nat) (an : Int32) (oa : Int32) (wd : Int32) (sk : Nat → Int32) (lc : Nat → Int32) (lt : Nat → Int32) (hM : MI de ms ml mt wd sk) : Met l y_Machine_takeWord [.code y_Machine_takeWord b_Machine_takeWord 1 (some .int)] ({ frames := 1, cells := 0, slots := 0, locals := 21 }) (tw_P g [.ref mh] [(mh, .inr (5, [.ref s0, .ref l0, .ref t0, lay, .int (nI de), .int (nI ms), .int (nI ml), .int (nI mt), .int an, .int oa, .int wd])), (s0, aI g 64 sk), (l0, aI g 64 lc), (t0, aI g 600 lt)] sz) (tw_Qi g (fun r (u : Nat × Nat × Nat × Nat × Int32 × Int32 × Int32 × (Nat → Int32) × (Nat → Int32) × (Nat → Int32)) => True ∧ MI u.1 u.2.1 u.2.2.1 u.2.2.2.1 u.2.2.2.2.2.2.1 u.2.2.2.2.2.2.2.1 ∧ (r = 0 → ¬ u.2.2.2.2.2.2.1 = 3)) (fun u : Nat × Nat × Nat × Nat × Int32 × Int32 × Int32 × (Nat → Int32) × (Nat → Int32) × (Nat → Int32) => [(mh, .inr (5, [.ref s0, .ref l0, .ref t0, lay, .int (nI u.1), .int (nI u.2.1), .int (nI u.2.2.1), .int (nI u.2.2.2.1), .int u.2.2.2.2.1, .int u.2.2.2.2.2.1, .int u.2.2.2.2.2.2.1])), (s0, aI g 64 u.2.2.2.2.2.2.2.1), (l0, aI g 64 u.2.2.2.2.2.2.2.2.1), (t0, aI g 600 u.2.2.2.2.2.2.2.2.2)]) (va_A [(mh, .inr (5, [.ref s0, .ref l0, .ref t0, lay, .int (nI de), .int (nI ms), .int (nI ml), .int (nI mt), .int an, .int oa, .int wd])), (s0, aI g 64 sk), (l0, aI g 64 lc), (t0, aI g 600 lt)] sz)) 0 0 (va_A [(mh, .inr (5, [.ref s0, .ref l0, .ref t0, lay, .int (nI de), .int (nI ms), .int (nI ml), .int (nI mt), .int an, .int oa, .int wd])), (s0, aI g 64 sk), (l0, aI g 64 lc), (t0, aI g 600 lt)] sz) := by
  refine tw_metW (l := l) (g := g) (y := y_Machine_takeWord) (cc := b_Machine_takeWord) (maxL := 1) (ret := (some .int)) (rm := { frames := 1, cells := 0, slots := 0, locals := 21 }) (mc := 0) (ms := 0) (av := [.ref mh]) (ws := [(mh, .inr (5, [.ref s0, .ref l0, .ref t0, lay, .int (nI de), .int (nI ms), .int (nI ml), .int (nI mt), .int an, .int oa, .int wd])), (s0, aI g 64 sk), (l0, aI g 64 lc), (t0, aI g 600 lt)]) (sz := sz) (Qc := fun A => (tw_Qi g (fun r (u : Nat × Nat × Nat × Nat × Int32 × Int32 × Int32 × (Nat → Int32) × (Nat → Int32) × (Nat → Int32)) => True ∧ MI u.1 u.2.1 u.2.2.1 u.2.2.2.1 u.2.2.2.2.2.2.1 u.2.2.2.2.2.2.2.1 ∧ (r = 0 → ¬ u.2.2.2.2.2.2.1 = 3)) (fun u : Nat × Nat × Nat × Nat × Int32 × Int32 × Int32 × (Nat → Int32) × (Nat → Int32) × (Nat → Int32) => [(mh, .inr (5, [.ref s0, .ref l0, .ref t0, lay, .int (nI u.1), .int (nI u.2.1), .int (nI u.2.2.1), .int (nI u.2.2.2.1), .int u.2.2.2.2.1, .int u.2.2.2.2.2.1, .int u.2.2.2.2.2.2.1])), (s0, aI g 64 u.2.2.2.2.2.2.2.1), (l0, aI g 64 u.2.2.2.2.2.2.2.2.1), (t0, aI g 600 u.2.2.2.2.2.2.2.2.2)]) A)) (by decide) (Nat.le_of_ble_eq_true rfl) ?_
  intro p e s m below meth c ls H A E hB hK hZ hP hD hS hA hl
  obtain ⟨hx, hb, hml, hr, hown, hts, hlocks, hin⟩ := id E
  have hl : lv_has ls 1 [(0, .ref mh)] := hl
  refine lv_aload_n hx hb d_Machine_takeWord_0 rfl (lv_at hl 0 rfl) ?_
  refine va_get (D := g.1) (ci := 5) (v := .int (nI de)) (C := R_Machine) (T := F_Machine) (N := 11) hx hb hts in_Machine hown hK hP 0 rfl rfl 4 (by decide) (hts _ wd_148) (fun _ h9 => h9) rfl d_Machine_takeWord_1 ?_
  refine lv_if_ne (tgt := 10) hx hb d_Machine_takeWord_4 (by decide) (fun h4 => ?_) (fun h4 => ?_)
  · have h4 := tn_ne (b := 0) h4
    have hM := hM.word (i := de - 1) (by have := hM.de; omega)
    refine lv_aload_n hx hb d_Machine_takeWord_10 rfl (lv_at hl 0 rfl) ?_
    refine lv_aload_n hx hb d_Machine_takeWord_11 rfl (lv_at hl 0 rfl) ?_
    refine va_get (D := g.1) (ci := 5) (v := .ref s0) (C := R_Machine) (T := F_Machine) (N := 11) hx hb hts in_Machine hown hK hP 0 rfl rfl 0 (by decide) (hts _ wd_142) (fun _ h9 => h9) rfl d_Machine_takeWord_12 ?_
    refine lv_aload_n hx hb d_Machine_takeWord_15 rfl (lv_at hl 0 rfl) ?_
    refine va_get (D := g.1) (ci := 5) (v := .int (nI de)) (C := R_Machine) (T := F_Machine) (N := 11) hx hb hts in_Machine hown hK hP 0 rfl rfl 4 (by decide) (hts _ wd_148) (fun _ h9 => h9) rfl d_Machine_takeWord_16 ?_
    refine lv_iconst (v := 1) hx hb d_Machine_takeWord_19 (by decide) ?_
    refine lv_isub hx hb d_Machine_takeWord_20 ?_
    refine tw_ri (e2 := nI (de - 1)) (pk_sub (b := 1) (by omega)) ?_
    refine va_iald hx hb hK hP 1 0 rfl rfl (vp_in_nI (by have := hM.de; omega) (by decide)) d_Machine_takeWord_21 ?_
    refine tw_ri (e2 := sk (de - 1)) (by rw [nI_clamp (by have := hM.de; omega)]) ?_
    refine va_put (D := g.1) (ci := 5) (v := .int (sk (de - 1))) (ty := .int) (C := R_Machine) (T := F_Machine) (N := 11) hx hb hts in_Machine t_Machine t_Machine_ok n_Machine hown hK hP hD hS 0 rfl rfl 10 (by decide) (hts _ wd_158) (fun _ h9 => h9) rfl (t_Machine_ok 10 (by decide)) rfl rfl (Nat.le_of_ble_eq_true rfl) d_Machine_takeWord_22 (fun H locs hP hD hS => ?_)
    have hP : va_P g.1 classes [(mh, .inr (5, [.ref s0, .ref l0, .ref t0, lay, .int (nI de), .int (nI ms), .int (nI ml), .int (nI mt), .int an, .int oa, .int (sk (de - 1))])), (s0, aI g 64 sk), (l0, aI g 64 lc), (t0, aI g 600 lt)] H := hP
    have hD : va_D A [(mh, .inr (5, [.ref s0, .ref l0, .ref t0, lay, .int (nI de), .int (nI ms), .int (nI ml), .int (nI mt), .int an, .int oa, .int (sk (de - 1))])), (s0, aI g 64 sk), (l0, aI g 64 lc), (t0, aI g 600 lt)] := hD
    refine lv_aload_n hx hb d_Machine_takeWord_25 rfl (lv_at hl 0 rfl) ?_
    refine lv_aload_n hx hb d_Machine_takeWord_26 rfl (lv_at hl 0 rfl) ?_
    refine va_get (D := g.1) (ci := 5) (v := .int (sk (de - 1))) (C := R_Machine) (T := F_Machine) (N := 11) hx hb hts in_Machine hown hK hP 0 rfl rfl 10 (by decide) (hts _ wd_158) (fun _ h9 => h9) rfl d_Machine_takeWord_27 ?_
    refine lv_iconst (v := 3) hx hb d_Machine_takeWord_30 (by decide) ?_
    refine lv_icmp_ne (tgt := 38) hx hb d_Machine_takeWord_31 (by decide) (fun h31 => ?_) (fun h31 => ?_)
    · refine lv_aload_n hx hb d_Machine_takeWord_38 rfl (lv_at hl 0 rfl) ?_
      refine va_get (D := g.1) (ci := 5) (v := .int (sk (de - 1))) (C := R_Machine) (T := F_Machine) (N := 11) hx hb hts in_Machine hown hK hP 0 rfl rfl 10 (by decide) (hts _ wd_158) (fun _ h9 => h9) rfl d_Machine_takeWord_39 ?_
      refine tw_wi (wr := []) (tw_runV (ws := [(mh, .inr (5, [.ref s0, .ref l0, .ref t0, lay, .int (nI de), .int (nI ms), .int (nI ml), .int (nI mt), .int an, .int oa, .int (sk (de - 1))])), (s0, aI g 64 sk), (l0, aI g 64 lc), (t0, aI g 600 lt)]) (wc := [(mh, .inr (5, [.ref s0, .ref l0, .ref t0, lay, .int (nI de), .int (nI ms), .int (nI ml), .int (nI mt), .int an, .int oa, .int (sk (de - 1))])), (s0, aI g 64 sk), (l0, aI g 64 lc), (t0, aI g 600 lt)]) (As := [.int (sk (de - 1))]) (rest := []) E hB hK hZ (s_Machine_take l g H.size mh s0 l0 t0 lay de ms ml mt an oa (sk (de - 1)) sk lc lt (sk (de - 1))  hM ) mc_Machine_take mi_Machine_take me_Machine_take wd_854 hP hD hS hA [0, 1, 2, 3] rfl (by decide) 0 rfl rfl rfl rfl rfl (by decide) rfl hl.1 rfl (Nat.le_of_ble_eq_true rfl) (by decide) d_Machine_takeWord_42) hP hD hS hA [0, 1, 2, 3] [] rfl rfl (by decide) (by decide) (fun r1 u2 H locs hr1 hP hD hS => ?_)
      try dsimp only at hr1
      have hP : va_P g.1 classes [(mh, .inr (5, [.ref s0, .ref l0, .ref t0, lay, .int (nI u2.1), .int (nI u2.2.1), .int (nI u2.2.2.1), .int (nI u2.2.2.2.1), .int u2.2.2.2.2.1, .int u2.2.2.2.2.2.1, .int u2.2.2.2.2.2.2.1])), (s0, aI g 64 u2.2.2.2.2.2.2.2.1), (l0, aI g 64 u2.2.2.2.2.2.2.2.2.1), (t0, aI g 600 u2.2.2.2.2.2.2.2.2.2)] H := hP
      have hD : va_D A [(mh, .inr (5, [.ref s0, .ref l0, .ref t0, lay, .int (nI u2.1), .int (nI u2.2.1), .int (nI u2.2.2.1), .int (nI u2.2.2.2.1), .int u2.2.2.2.2.1, .int u2.2.2.2.2.2.1, .int u2.2.2.2.2.2.2.1])), (s0, aI g 64 u2.2.2.2.2.2.2.2.1), (l0, aI g 64 u2.2.2.2.2.2.2.2.2.1), (t0, aI g 600 u2.2.2.2.2.2.2.2.2.2)] := hD
      have hP : va_P g.1 classes [(mh, .inr (5, [.ref s0, .ref l0, .ref t0, lay, .int (nI u2.1), .int (nI u2.2.1), .int (nI u2.2.2.1), .int (nI u2.2.2.2.1), .int u2.2.2.2.2.1, .int u2.2.2.2.2.2.1, .int u2.2.2.2.2.2.2.1])), (s0, aI g 64 u2.2.2.2.2.2.2.2.1), (l0, aI g 64 u2.2.2.2.2.2.2.2.2.1), (t0, aI g 600 u2.2.2.2.2.2.2.2.2.2)] H := hP.sub [0, 1, 2, 3] rfl
      have hD : va_D A [(mh, .inr (5, [.ref s0, .ref l0, .ref t0, lay, .int (nI u2.1), .int (nI u2.2.1), .int (nI u2.2.2.1), .int (nI u2.2.2.2.1), .int u2.2.2.2.2.1, .int u2.2.2.2.2.2.1, .int u2.2.2.2.2.2.2.1])), (s0, aI g 64 u2.2.2.2.2.2.2.2.1), (l0, aI g 64 u2.2.2.2.2.2.2.2.2.1), (t0, aI g 600 u2.2.2.2.2.2.2.2.2.2)] := hD.sub [0, 1, 2, 3] (by decide) rfl
      obtain ⟨_, hV2_0, hX2_0, hX2_1⟩ := hr1
      exact tw_iret E hS (u2.1, u2.2.1, u2.2.2.1, u2.2.2.2.1, u2.2.2.2.2.1, u2.2.2.2.2.2.1, u2.2.2.2.2.2.2.1, u2.2.2.2.2.2.2.2.1, u2.2.2.2.2.2.2.2.2.1, u2.2.2.2.2.2.2.2.2.2) ⟨trivial, hV2_0, (fun _ => by rw [hX2_0]; exact h31)⟩ hP hD d_Machine_takeWord_45
    · refine lv_iconst (v := 0) hx hb d_Machine_takeWord_34 (by decide) ?_
      refine lv_goto (tgt := 42) hx hb d_Machine_takeWord_35 (by decide) ?_
      refine tw_wi (wr := []) (tw_runV (ws := [(mh, .inr (5, [.ref s0, .ref l0, .ref t0, lay, .int (nI de), .int (nI ms), .int (nI ml), .int (nI mt), .int an, .int oa, .int (sk (de - 1))])), (s0, aI g 64 sk), (l0, aI g 64 lc), (t0, aI g 600 lt)]) (wc := [(mh, .inr (5, [.ref s0, .ref l0, .ref t0, lay, .int (nI de), .int (nI ms), .int (nI ml), .int (nI mt), .int an, .int oa, .int (sk (de - 1))])), (s0, aI g 64 sk), (l0, aI g 64 lc), (t0, aI g 600 lt)]) (As := [.int 0]) (rest := []) E hB hK hZ (s_Machine_take l g H.size mh s0 l0 t0 lay de ms ml mt an oa (sk (de - 1)) sk lc lt 0  hM ) mc_Machine_take mi_Machine_take me_Machine_take wd_854 hP hD hS hA [0, 1, 2, 3] rfl (by decide) 0 rfl rfl rfl rfl rfl (by decide) rfl hl.1 rfl (Nat.le_of_ble_eq_true rfl) (by decide) d_Machine_takeWord_42) hP hD hS hA [0, 1, 2, 3] [] rfl rfl (by decide) (by decide) (fun r3 u4 H locs hr3 hP hD hS => ?_)
      try dsimp only at hr3
      have hP : va_P g.1 classes [(mh, .inr (5, [.ref s0, .ref l0, .ref t0, lay, .int (nI u4.1), .int (nI u4.2.1), .int (nI u4.2.2.1), .int (nI u4.2.2.2.1), .int u4.2.2.2.2.1, .int u4.2.2.2.2.2.1, .int u4.2.2.2.2.2.2.1])), (s0, aI g 64 u4.2.2.2.2.2.2.2.1), (l0, aI g 64 u4.2.2.2.2.2.2.2.2.1), (t0, aI g 600 u4.2.2.2.2.2.2.2.2.2)] H := hP
      have hD : va_D A [(mh, .inr (5, [.ref s0, .ref l0, .ref t0, lay, .int (nI u4.1), .int (nI u4.2.1), .int (nI u4.2.2.1), .int (nI u4.2.2.2.1), .int u4.2.2.2.2.1, .int u4.2.2.2.2.2.1, .int u4.2.2.2.2.2.2.1])), (s0, aI g 64 u4.2.2.2.2.2.2.2.1), (l0, aI g 64 u4.2.2.2.2.2.2.2.2.1), (t0, aI g 600 u4.2.2.2.2.2.2.2.2.2)] := hD
      have hP : va_P g.1 classes [(mh, .inr (5, [.ref s0, .ref l0, .ref t0, lay, .int (nI u4.1), .int (nI u4.2.1), .int (nI u4.2.2.1), .int (nI u4.2.2.2.1), .int u4.2.2.2.2.1, .int u4.2.2.2.2.2.1, .int u4.2.2.2.2.2.2.1])), (s0, aI g 64 u4.2.2.2.2.2.2.2.1), (l0, aI g 64 u4.2.2.2.2.2.2.2.2.1), (t0, aI g 600 u4.2.2.2.2.2.2.2.2.2)] H := hP.sub [0, 1, 2, 3] rfl
      have hD : va_D A [(mh, .inr (5, [.ref s0, .ref l0, .ref t0, lay, .int (nI u4.1), .int (nI u4.2.1), .int (nI u4.2.2.1), .int (nI u4.2.2.2.1), .int u4.2.2.2.2.1, .int u4.2.2.2.2.2.1, .int u4.2.2.2.2.2.2.1])), (s0, aI g 64 u4.2.2.2.2.2.2.2.1), (l0, aI g 64 u4.2.2.2.2.2.2.2.2.1), (t0, aI g 600 u4.2.2.2.2.2.2.2.2.2)] := hD.sub [0, 1, 2, 3] (by decide) rfl
      obtain ⟨_, hV4_0, hX4_0, hX4_1⟩ := hr3
      exact tw_iret E hS (u4.1, u4.2.1, u4.2.2.1, u4.2.2.2.1, u4.2.2.2.2.1, u4.2.2.2.2.2.1, u4.2.2.2.2.2.2.1, u4.2.2.2.2.2.2.2.1, u4.2.2.2.2.2.2.2.2.1, u4.2.2.2.2.2.2.2.2.2) ⟨trivial, hV4_0, (fun h => absurd rfl (hX4_1 h))⟩ hP hD d_Machine_takeWord_45
  · refine lv_bipush (v := 22) hx hb d_Machine_takeWord_7 (by decide) ?_
    exact tw_iret E hS (de, ms, ml, mt, an, oa, wd, sk, lc, lt) ⟨trivial, hM, (fun h => absurd h (by decide))⟩ hP hD d_Machine_takeWord_9
set_option maxHeartbeats 4000000 in
set_option maxRecDepth 100000 in
theorem s_Machine_pushAll (l : Launch) (g : tw_G) (sz : Nat) (mh s0 l0 t0 : Nat) (lay : Value) (de : Nat) (ms : Nat) (ml : Nat) (mt : Nat) (an : Int32) (oa : Int32) (wd : Int32) (sk : Nat → Int32) (lc : Nat → Int32) (lt : Nat → Int32) (a : Int32) (b : Int32) (d : Int32) (hM : MI de ms ml mt wd sk) (ha : ∃ k, k < 16 ∧ a = nI k) (ha3 : ¬ a = 3) (hb1 : ∃ k, k < 16 ∧ b = nI k) (hb3 : ¬ b = 3) : Met l y_Machine_pushAll [.code y_Machine_pushAll b_Machine_pushAll 6 (some .int)] ({ frames := 1, cells := 0, slots := 0, locals := 22 }) (tw_P g [.ref mh, .int a, .int b, .int d] [(mh, .inr (5, [.ref s0, .ref l0, .ref t0, lay, .int (nI de), .int (nI ms), .int (nI ml), .int (nI mt), .int an, .int oa, .int wd])), (s0, aI g 64 sk), (l0, aI g 64 lc), (t0, aI g 600 lt)] sz) (tw_Qi g (fun r (u : Nat × Nat × Nat × Nat × Int32 × Int32 × Int32 × (Nat → Int32) × (Nat → Int32) × (Nat → Int32)) => True ∧ MI u.1 u.2.1 u.2.2.1 u.2.2.2.1 u.2.2.2.2.2.2.1 u.2.2.2.2.2.2.2.1) (fun u : Nat × Nat × Nat × Nat × Int32 × Int32 × Int32 × (Nat → Int32) × (Nat → Int32) × (Nat → Int32) => [(mh, .inr (5, [.ref s0, .ref l0, .ref t0, lay, .int (nI u.1), .int (nI u.2.1), .int (nI u.2.2.1), .int (nI u.2.2.2.1), .int u.2.2.2.2.1, .int u.2.2.2.2.2.1, .int u.2.2.2.2.2.2.1])), (s0, aI g 64 u.2.2.2.2.2.2.2.1), (l0, aI g 64 u.2.2.2.2.2.2.2.2.1), (t0, aI g 600 u.2.2.2.2.2.2.2.2.2)]) (va_A [(mh, .inr (5, [.ref s0, .ref l0, .ref t0, lay, .int (nI de), .int (nI ms), .int (nI ml), .int (nI mt), .int an, .int oa, .int wd])), (s0, aI g 64 sk), (l0, aI g 64 lc), (t0, aI g 600 lt)] sz)) 0 0 (va_A [(mh, .inr (5, [.ref s0, .ref l0, .ref t0, lay, .int (nI de), .int (nI ms), .int (nI ml), .int (nI mt), .int an, .int oa, .int wd])), (s0, aI g 64 sk), (l0, aI g 64 lc), (t0, aI g 600 lt)] sz) := by
  refine tw_metW (l := l) (g := g) (y := y_Machine_pushAll) (cc := b_Machine_pushAll) (maxL := 6) (ret := (some .int)) (rm := { frames := 1, cells := 0, slots := 0, locals := 22 }) (mc := 0) (ms := 0) (av := [.ref mh, .int a, .int b, .int d]) (ws := [(mh, .inr (5, [.ref s0, .ref l0, .ref t0, lay, .int (nI de), .int (nI ms), .int (nI ml), .int (nI mt), .int an, .int oa, .int wd])), (s0, aI g 64 sk), (l0, aI g 64 lc), (t0, aI g 600 lt)]) (sz := sz) (Qc := fun A => (tw_Qi g (fun r (u : Nat × Nat × Nat × Nat × Int32 × Int32 × Int32 × (Nat → Int32) × (Nat → Int32) × (Nat → Int32)) => True ∧ MI u.1 u.2.1 u.2.2.1 u.2.2.2.1 u.2.2.2.2.2.2.1 u.2.2.2.2.2.2.2.1) (fun u : Nat × Nat × Nat × Nat × Int32 × Int32 × Int32 × (Nat → Int32) × (Nat → Int32) × (Nat → Int32) => [(mh, .inr (5, [.ref s0, .ref l0, .ref t0, lay, .int (nI u.1), .int (nI u.2.1), .int (nI u.2.2.1), .int (nI u.2.2.2.1), .int u.2.2.2.2.1, .int u.2.2.2.2.2.1, .int u.2.2.2.2.2.2.1])), (s0, aI g 64 u.2.2.2.2.2.2.2.1), (l0, aI g 64 u.2.2.2.2.2.2.2.2.1), (t0, aI g 600 u.2.2.2.2.2.2.2.2.2)]) A)) (by decide) (Nat.le_of_ble_eq_true rfl) ?_
  intro p e s m below meth c ls H A E hB hK hZ hP hD hS hA hl
  obtain ⟨hx, hb, hml, hr, hown, hts, hlocks, hin⟩ := id E
  have hl : lv_has ls 6 [(0, .ref mh), (1, .int a), (2, .int b), (3, .int d)] := hl
  refine lv_iconst (v := 0) hx hb d_Machine_pushAll_0 (by decide) ?_
  refine lv_istore hx hb d_Machine_pushAll_1 hl (by decide) rfl (fun ls hl => ?_)
  have hl : lv_has ls 6 [(4, .int 0), (0, .ref mh), (1, .int a), (2, .int b), (3, .int d)] := hl
  refine lv_iconst (v := 0) hx hb d_Machine_pushAll_3 (by decide) ?_
  refine lv_istore hx hb d_Machine_pushAll_4 hl (by decide) rfl (fun ls hl => ?_)
  have hl : lv_has ls 6 [(5, .int 0), (4, .int 0), (0, .ref mh), (1, .int a), (2, .int b), (3, .int d)] := hl
  have loop6 : ∀ (kq : Nat) (f9 : Int32) (j : Int32) (de9 : Nat) (ms9 : Nat) (ml9 : Nat) (mt9 : Nat) (an9 : Int32) (oa9 : Int32) (wd9 : Int32) (sk9 : Nat → Int32) (lc9 : Nat → Int32) (lt9 : Nat → Int32) (ls : Array Slot) (H : Heap) (locs : List Loc) , ims j d = kq → (hM9 : MI de9 ms9 ml9 mt9 wd9 sk9) → lv_has ls 6 [(5, .int j), (4, .int f9), (0, .ref mh), (1, .int a), (2, .int b), (3, .int d)] → va_P g.1 classes [(mh, .inr (5, [.ref s0, .ref l0, .ref t0, lay, .int (nI de9), .int (nI ms9), .int (nI ml9), .int (nI mt9), .int an9, .int oa9, .int wd9])), (s0, aI g 64 sk9), (l0, aI g 64 lc9), (t0, aI g 600 lt9)] H → va_D A [(mh, .inr (5, [.ref s0, .ref l0, .ref t0, lay, .int (nI de9), .int (nI ms9), .int (nI ml9), .int (nI mt9), .int an9, .int oa9, .int wd9])), (s0, aI g 64 sk9), (l0, aI g 64 lc9), (t0, aI g 600 lt9)] → va_S A s.heap H locs → W p l e ({ frames := 1, cells := 0, slots := 0, locals := 22 }) s m [.ref mh, .int a, .int b, .int d].toArray below meth c H locs 0 0 (MQ below (tw_Qi g (fun r (u : Nat × Nat × Nat × Nat × Int32 × Int32 × Int32 × (Nat → Int32) × (Nat → Int32) × (Nat → Int32)) => True ∧ MI u.1 u.2.1 u.2.2.1 u.2.2.2.1 u.2.2.2.2.2.2.1 u.2.2.2.2.2.2.2.1) (fun u : Nat × Nat × Nat × Nat × Int32 × Int32 × Int32 × (Nat → Int32) × (Nat → Int32) × (Nat → Int32) => [(mh, .inr (5, [.ref s0, .ref l0, .ref t0, lay, .int (nI u.1), .int (nI u.2.1), .int (nI u.2.2.1), .int (nI u.2.2.2.1), .int u.2.2.2.2.1, .int u.2.2.2.2.2.1, .int u.2.2.2.2.2.2.1])), (s0, aI g 64 u.2.2.2.2.2.2.2.1), (l0, aI g 64 u.2.2.2.2.2.2.2.2.1), (t0, aI g 600 u.2.2.2.2.2.2.2.2.2)]) A) [.ref mh, .int a, .int b, .int d].toArray s 0 0 A) (F0 m 6 ls []) := by
    intro kq
    induction kq using Nat.strongRecOn with
    | _ kq ih =>
      intro f9 j de9 ms9 ml9 mt9 an9 oa9 wd9 sk9 lc9 lt9 ls H locs hk hM9 hl hP hD hS
      refine lv_iload hx hb d_Machine_pushAll_6 (lv_at hl 0 rfl) ?_
      refine lv_iload_n hx hb d_Machine_pushAll_8 rfl (lv_at hl 5 rfl) ?_
      refine lv_icmp_ge (tgt := 41) hx hb d_Machine_pushAll_9 (by decide) (fun h9 => ?_) (fun h9 => ?_)
      · refine lv_iload hx hb d_Machine_pushAll_41 (lv_at hl 1 rfl) ?_
        exact tw_iret E hS (de9, ms9, ml9, mt9, an9, oa9, wd9, sk9, lc9, lt9) ⟨trivial, hM9⟩ hP hD d_Machine_pushAll_43
      · refine lv_iload hx hb d_Machine_pushAll_12 (lv_at hl 1 rfl) ?_
        refine lv_if_ne (tgt := 41) hx hb d_Machine_pushAll_14 (by decide) (fun h14 => ?_) (fun h14 => ?_)
        · refine lv_iload hx hb d_Machine_pushAll_41 (lv_at hl 1 rfl) ?_
          exact tw_iret E hS (de9, ms9, ml9, mt9, an9, oa9, wd9, sk9, lc9, lt9) ⟨trivial, hM9⟩ hP hD d_Machine_pushAll_43
        · refine lv_aload_n hx hb d_Machine_pushAll_17 rfl (lv_at hl 2 rfl) ?_
          refine lv_iload hx hb d_Machine_pushAll_18 (lv_at hl 0 rfl) ?_
          refine lv_iconst (v := 1) hx hb d_Machine_pushAll_20 (by decide) ?_
          refine lv_iand hx hb d_Machine_pushAll_21 ?_
          obtain ⟨x1, ex1⟩ : ∃ z : Int32, j &&& 1 = z := ⟨_, rfl⟩
          refine tw_ri (e2 := x1) ex1 ?_
          refine lv_if_ne (tgt := 29) hx hb d_Machine_pushAll_22 (by decide) (fun h22 => ?_) (fun h22 => ?_)
          · refine lv_iload_n hx hb d_Machine_pushAll_29 rfl (lv_at hl 4 rfl) ?_
            refine tw_wi (wr := []) (tw_runV (ws := [(mh, .inr (5, [.ref s0, .ref l0, .ref t0, lay, .int (nI de9), .int (nI ms9), .int (nI ml9), .int (nI mt9), .int an9, .int oa9, .int wd9])), (s0, aI g 64 sk9), (l0, aI g 64 lc9), (t0, aI g 600 lt9)]) (wc := [(mh, .inr (5, [.ref s0, .ref l0, .ref t0, lay, .int (nI de9), .int (nI ms9), .int (nI ml9), .int (nI mt9), .int an9, .int oa9, .int wd9])), (s0, aI g 64 sk9), (l0, aI g 64 lc9), (t0, aI g 600 lt9)]) (As := [.int b]) (rest := []) E hB hK hZ (s_Machine_push l g H.size mh s0 l0 t0 lay de9 ms9 ml9 mt9 an9 oa9 wd9 sk9 lc9 lt9 b  hM9 hb1 hb3) mc_Machine_push mi_Machine_push me_Machine_push wd_858 hP hD hS hA [0, 1, 2, 3] rfl (by decide) 0 rfl rfl rfl rfl rfl (by decide) rfl hl.1 rfl (Nat.le_of_ble_eq_true rfl) (by decide) d_Machine_pushAll_30) hP hD hS hA [0, 1, 2, 3] [] rfl rfl (by decide) (by decide) (fun r2 u3 H locs hr2 hP hD hS => ?_)
            try dsimp only at hr2
            have hP : va_P g.1 classes [(mh, .inr (5, [.ref s0, .ref l0, .ref t0, lay, .int (nI u3.1), .int (nI u3.2.1), .int (nI u3.2.2.1), .int (nI u3.2.2.2.1), .int u3.2.2.2.2.1, .int u3.2.2.2.2.2.1, .int u3.2.2.2.2.2.2.1])), (s0, aI g 64 u3.2.2.2.2.2.2.2.1), (l0, aI g 64 u3.2.2.2.2.2.2.2.2.1), (t0, aI g 600 u3.2.2.2.2.2.2.2.2.2)] H := hP
            have hD : va_D A [(mh, .inr (5, [.ref s0, .ref l0, .ref t0, lay, .int (nI u3.1), .int (nI u3.2.1), .int (nI u3.2.2.1), .int (nI u3.2.2.2.1), .int u3.2.2.2.2.1, .int u3.2.2.2.2.2.1, .int u3.2.2.2.2.2.2.1])), (s0, aI g 64 u3.2.2.2.2.2.2.2.1), (l0, aI g 64 u3.2.2.2.2.2.2.2.2.1), (t0, aI g 600 u3.2.2.2.2.2.2.2.2.2)] := hD
            have hP : va_P g.1 classes [(mh, .inr (5, [.ref s0, .ref l0, .ref t0, lay, .int (nI u3.1), .int (nI u3.2.1), .int (nI u3.2.2.1), .int (nI u3.2.2.2.1), .int u3.2.2.2.2.1, .int u3.2.2.2.2.2.1, .int u3.2.2.2.2.2.2.1])), (s0, aI g 64 u3.2.2.2.2.2.2.2.1), (l0, aI g 64 u3.2.2.2.2.2.2.2.2.1), (t0, aI g 600 u3.2.2.2.2.2.2.2.2.2)] H := hP.sub [0, 1, 2, 3] rfl
            have hD : va_D A [(mh, .inr (5, [.ref s0, .ref l0, .ref t0, lay, .int (nI u3.1), .int (nI u3.2.1), .int (nI u3.2.2.1), .int (nI u3.2.2.2.1), .int u3.2.2.2.2.1, .int u3.2.2.2.2.2.1, .int u3.2.2.2.2.2.2.1])), (s0, aI g 64 u3.2.2.2.2.2.2.2.1), (l0, aI g 64 u3.2.2.2.2.2.2.2.2.1), (t0, aI g 600 u3.2.2.2.2.2.2.2.2.2)] := hD.sub [0, 1, 2, 3] (by decide) rfl
            obtain ⟨_, hV3_0⟩ := hr2
            refine lv_istore hx hb d_Machine_pushAll_33 hl (by decide) rfl (fun ls hl => ?_)
            have hl : lv_has ls 6 [(4, .int r2), (5, .int j), (0, .ref mh), (1, .int a), (2, .int b), (3, .int d)] := hl
            refine lv_iinc (k := 1) (v := j + 1) hx hb d_Machine_pushAll_35 hl rfl rfl (by decide) rfl (fun ls hl => ?_)
            have hl : lv_has ls 6 [(5, .int (j + 1)), (4, .int r2), (0, .ref mh), (1, .int a), (2, .int b), (3, .int d)] := hl
            refine lv_goto (tgt := 6) hx hb d_Machine_pushAll_38 (by decide) ?_
            have hP : va_P g.1 classes [(mh, .inr (5, [.ref s0, .ref l0, .ref t0, lay, .int (nI u3.1), .int (nI u3.2.1), .int (nI u3.2.2.1), .int (nI u3.2.2.2.1), .int u3.2.2.2.2.1, .int u3.2.2.2.2.2.1, .int u3.2.2.2.2.2.2.1])), (s0, aI g 64 u3.2.2.2.2.2.2.2.1), (l0, aI g 64 u3.2.2.2.2.2.2.2.2.1), (t0, aI g 600 u3.2.2.2.2.2.2.2.2.2)] H := hP.sub [0, 1, 2, 3] rfl
            have hD : va_D A [(mh, .inr (5, [.ref s0, .ref l0, .ref t0, lay, .int (nI u3.1), .int (nI u3.2.1), .int (nI u3.2.2.1), .int (nI u3.2.2.2.1), .int u3.2.2.2.2.1, .int u3.2.2.2.2.2.1, .int u3.2.2.2.2.2.2.1])), (s0, aI g 64 u3.2.2.2.2.2.2.2.1), (l0, aI g 64 u3.2.2.2.2.2.2.2.2.1), (t0, aI g 600 u3.2.2.2.2.2.2.2.2.2)] := hD.sub [0, 1, 2, 3] (by decide) rfl
            exact ih _ (hk ▸ ims_dec h9) r2 (j + 1) u3.1 u3.2.1 u3.2.2.1 u3.2.2.2.1 u3.2.2.2.2.1 u3.2.2.2.2.2.1 u3.2.2.2.2.2.2.1 u3.2.2.2.2.2.2.2.1 u3.2.2.2.2.2.2.2.2.1 u3.2.2.2.2.2.2.2.2.2 ls _ _ rfl hV3_0 (lv_sub hl [0, 1, 2, 3, 4, 5] rfl) hP hD hS
          · refine lv_iload_n hx hb d_Machine_pushAll_25 rfl (lv_at hl 3 rfl) ?_
            refine lv_goto (tgt := 30) hx hb d_Machine_pushAll_26 (by decide) ?_
            refine tw_wi (wr := []) (tw_runV (ws := [(mh, .inr (5, [.ref s0, .ref l0, .ref t0, lay, .int (nI de9), .int (nI ms9), .int (nI ml9), .int (nI mt9), .int an9, .int oa9, .int wd9])), (s0, aI g 64 sk9), (l0, aI g 64 lc9), (t0, aI g 600 lt9)]) (wc := [(mh, .inr (5, [.ref s0, .ref l0, .ref t0, lay, .int (nI de9), .int (nI ms9), .int (nI ml9), .int (nI mt9), .int an9, .int oa9, .int wd9])), (s0, aI g 64 sk9), (l0, aI g 64 lc9), (t0, aI g 600 lt9)]) (As := [.int a]) (rest := []) E hB hK hZ (s_Machine_push l g H.size mh s0 l0 t0 lay de9 ms9 ml9 mt9 an9 oa9 wd9 sk9 lc9 lt9 a  hM9 ha ha3) mc_Machine_push mi_Machine_push me_Machine_push wd_858 hP hD hS hA [0, 1, 2, 3] rfl (by decide) 0 rfl rfl rfl rfl rfl (by decide) rfl hl.1 rfl (Nat.le_of_ble_eq_true rfl) (by decide) d_Machine_pushAll_30) hP hD hS hA [0, 1, 2, 3] [] rfl rfl (by decide) (by decide) (fun r4 u5 H locs hr4 hP hD hS => ?_)
            try dsimp only at hr4
            have hP : va_P g.1 classes [(mh, .inr (5, [.ref s0, .ref l0, .ref t0, lay, .int (nI u5.1), .int (nI u5.2.1), .int (nI u5.2.2.1), .int (nI u5.2.2.2.1), .int u5.2.2.2.2.1, .int u5.2.2.2.2.2.1, .int u5.2.2.2.2.2.2.1])), (s0, aI g 64 u5.2.2.2.2.2.2.2.1), (l0, aI g 64 u5.2.2.2.2.2.2.2.2.1), (t0, aI g 600 u5.2.2.2.2.2.2.2.2.2)] H := hP
            have hD : va_D A [(mh, .inr (5, [.ref s0, .ref l0, .ref t0, lay, .int (nI u5.1), .int (nI u5.2.1), .int (nI u5.2.2.1), .int (nI u5.2.2.2.1), .int u5.2.2.2.2.1, .int u5.2.2.2.2.2.1, .int u5.2.2.2.2.2.2.1])), (s0, aI g 64 u5.2.2.2.2.2.2.2.1), (l0, aI g 64 u5.2.2.2.2.2.2.2.2.1), (t0, aI g 600 u5.2.2.2.2.2.2.2.2.2)] := hD
            have hP : va_P g.1 classes [(mh, .inr (5, [.ref s0, .ref l0, .ref t0, lay, .int (nI u5.1), .int (nI u5.2.1), .int (nI u5.2.2.1), .int (nI u5.2.2.2.1), .int u5.2.2.2.2.1, .int u5.2.2.2.2.2.1, .int u5.2.2.2.2.2.2.1])), (s0, aI g 64 u5.2.2.2.2.2.2.2.1), (l0, aI g 64 u5.2.2.2.2.2.2.2.2.1), (t0, aI g 600 u5.2.2.2.2.2.2.2.2.2)] H := hP.sub [0, 1, 2, 3] rfl
            have hD : va_D A [(mh, .inr (5, [.ref s0, .ref l0, .ref t0, lay, .int (nI u5.1), .int (nI u5.2.1), .int (nI u5.2.2.1), .int (nI u5.2.2.2.1), .int u5.2.2.2.2.1, .int u5.2.2.2.2.2.1, .int u5.2.2.2.2.2.2.1])), (s0, aI g 64 u5.2.2.2.2.2.2.2.1), (l0, aI g 64 u5.2.2.2.2.2.2.2.2.1), (t0, aI g 600 u5.2.2.2.2.2.2.2.2.2)] := hD.sub [0, 1, 2, 3] (by decide) rfl
            obtain ⟨_, hV5_0⟩ := hr4
            refine lv_istore hx hb d_Machine_pushAll_33 hl (by decide) rfl (fun ls hl => ?_)
            have hl : lv_has ls 6 [(4, .int r4), (5, .int j), (0, .ref mh), (1, .int a), (2, .int b), (3, .int d)] := hl
            refine lv_iinc (k := 1) (v := j + 1) hx hb d_Machine_pushAll_35 hl rfl rfl (by decide) rfl (fun ls hl => ?_)
            have hl : lv_has ls 6 [(5, .int (j + 1)), (4, .int r4), (0, .ref mh), (1, .int a), (2, .int b), (3, .int d)] := hl
            refine lv_goto (tgt := 6) hx hb d_Machine_pushAll_38 (by decide) ?_
            have hP : va_P g.1 classes [(mh, .inr (5, [.ref s0, .ref l0, .ref t0, lay, .int (nI u5.1), .int (nI u5.2.1), .int (nI u5.2.2.1), .int (nI u5.2.2.2.1), .int u5.2.2.2.2.1, .int u5.2.2.2.2.2.1, .int u5.2.2.2.2.2.2.1])), (s0, aI g 64 u5.2.2.2.2.2.2.2.1), (l0, aI g 64 u5.2.2.2.2.2.2.2.2.1), (t0, aI g 600 u5.2.2.2.2.2.2.2.2.2)] H := hP.sub [0, 1, 2, 3] rfl
            have hD : va_D A [(mh, .inr (5, [.ref s0, .ref l0, .ref t0, lay, .int (nI u5.1), .int (nI u5.2.1), .int (nI u5.2.2.1), .int (nI u5.2.2.2.1), .int u5.2.2.2.2.1, .int u5.2.2.2.2.2.1, .int u5.2.2.2.2.2.2.1])), (s0, aI g 64 u5.2.2.2.2.2.2.2.1), (l0, aI g 64 u5.2.2.2.2.2.2.2.2.1), (t0, aI g 600 u5.2.2.2.2.2.2.2.2.2)] := hD.sub [0, 1, 2, 3] (by decide) rfl
            exact ih _ (hk ▸ ims_dec h9) r4 (j + 1) u5.1 u5.2.1 u5.2.2.1 u5.2.2.2.1 u5.2.2.2.2.1 u5.2.2.2.2.2.1 u5.2.2.2.2.2.2.1 u5.2.2.2.2.2.2.2.1 u5.2.2.2.2.2.2.2.2.1 u5.2.2.2.2.2.2.2.2.2 ls _ _ rfl hV5_0 (lv_sub hl [0, 1, 2, 3, 4, 5] rfl) hP hD hS
  exact loop6 _ 0 0 de ms ml mt an oa wd sk lc lt ls _ _ rfl hM (hl) hP hD hS
set_option maxHeartbeats 4000000 in
set_option maxRecDepth 100000 in
theorem s_Machine_freeOtherHalf (l : Launch) (g : tw_G) (sz : Nat) (mh s0 l0 t0 : Nat) (lay : Value) (de : Nat) (ms : Nat) (ml : Nat) (mt : Nat) (an : Int32) (oa : Int32) (wd : Int32) (sk : Nat → Int32) (lc : Nat → Int32) (lt : Nat → Int32) (i : Nat) (hM : MI de ms ml mt wd sk) (hi : i < 64) : Met l y_Machine_freeOtherHalf [.code y_Machine_freeOtherHalf b_Machine_freeOtherHalf 2 none] ({ frames := 0, cells := 0, slots := 0, locals := 0 }) (tw_P g [.ref mh, .int (nI i)] [(mh, .inr (5, [.ref s0, .ref l0, .ref t0, lay, .int (nI de), .int (nI ms), .int (nI ml), .int (nI mt), .int an, .int oa, .int wd])), (s0, aI g 64 sk), (l0, aI g 64 lc), (t0, aI g 600 lt)] sz) (tw_Qv g (fun (u : Nat × Nat × Nat × Nat × Int32 × Int32 × Int32 × (Nat → Int32) × (Nat → Int32) × (Nat → Int32)) => MI u.1 u.2.1 u.2.2.1 u.2.2.2.1 u.2.2.2.2.2.2.1 u.2.2.2.2.2.2.2.1) (fun u : Nat × Nat × Nat × Nat × Int32 × Int32 × Int32 × (Nat → Int32) × (Nat → Int32) × (Nat → Int32) => [(mh, .inr (5, [.ref s0, .ref l0, .ref t0, lay, .int (nI u.1), .int (nI u.2.1), .int (nI u.2.2.1), .int (nI u.2.2.2.1), .int u.2.2.2.2.1, .int u.2.2.2.2.2.1, .int u.2.2.2.2.2.2.1])), (s0, aI g 64 u.2.2.2.2.2.2.2.1), (l0, aI g 64 u.2.2.2.2.2.2.2.2.1), (t0, aI g 600 u.2.2.2.2.2.2.2.2.2)]) (va_A [(mh, .inr (5, [.ref s0, .ref l0, .ref t0, lay, .int (nI de), .int (nI ms), .int (nI ml), .int (nI mt), .int an, .int oa, .int wd])), (s0, aI g 64 sk), (l0, aI g 64 lc), (t0, aI g 600 lt)] sz)) 0 0 (va_A [(mh, .inr (5, [.ref s0, .ref l0, .ref t0, lay, .int (nI de), .int (nI ms), .int (nI ml), .int (nI mt), .int an, .int oa, .int wd])), (s0, aI g 64 sk), (l0, aI g 64 lc), (t0, aI g 600 lt)] sz) := by
  refine tw_metW (l := l) (g := g) (y := y_Machine_freeOtherHalf) (cc := b_Machine_freeOtherHalf) (maxL := 2) (ret := none) (rm := { frames := 0, cells := 0, slots := 0, locals := 0 }) (mc := 0) (ms := 0) (av := [.ref mh, .int (nI i)]) (ws := [(mh, .inr (5, [.ref s0, .ref l0, .ref t0, lay, .int (nI de), .int (nI ms), .int (nI ml), .int (nI mt), .int an, .int oa, .int wd])), (s0, aI g 64 sk), (l0, aI g 64 lc), (t0, aI g 600 lt)]) (sz := sz) (Qc := fun A => (tw_Qv g (fun (u : Nat × Nat × Nat × Nat × Int32 × Int32 × Int32 × (Nat → Int32) × (Nat → Int32) × (Nat → Int32)) => MI u.1 u.2.1 u.2.2.1 u.2.2.2.1 u.2.2.2.2.2.2.1 u.2.2.2.2.2.2.2.1) (fun u : Nat × Nat × Nat × Nat × Int32 × Int32 × Int32 × (Nat → Int32) × (Nat → Int32) × (Nat → Int32) => [(mh, .inr (5, [.ref s0, .ref l0, .ref t0, lay, .int (nI u.1), .int (nI u.2.1), .int (nI u.2.2.1), .int (nI u.2.2.2.1), .int u.2.2.2.2.1, .int u.2.2.2.2.2.1, .int u.2.2.2.2.2.2.1])), (s0, aI g 64 u.2.2.2.2.2.2.2.1), (l0, aI g 64 u.2.2.2.2.2.2.2.2.1), (t0, aI g 600 u.2.2.2.2.2.2.2.2.2)]) A)) (by decide) (Nat.le_of_ble_eq_true rfl) ?_
  intro p e s m below meth c ls H A E hB hK hZ hP hD hS hA hl
  obtain ⟨hx, hb, hml, hr, hown, hts, hlocks, hin⟩ := id E
  have hl : lv_has ls 2 [(0, .ref mh), (1, .int (nI i))] := hl
  refine lv_aload_n hx hb d_Machine_freeOtherHalf_0 rfl (lv_at hl 0 rfl) ?_
  refine va_get (D := g.1) (ci := 5) (v := .ref l0) (C := R_Machine) (T := F_Machine) (N := 11) hx hb hts in_Machine hown hK hP 0 rfl rfl 1 (by decide) (hts _ wd_144) (fun _ h9 => h9) rfl d_Machine_freeOtherHalf_1 ?_
  refine lv_iload_n hx hb d_Machine_freeOtherHalf_4 rfl (lv_at hl 1 rfl) ?_
  refine va_iald hx hb hK hP 2 0 rfl rfl (vp_in_nI hi (by decide)) d_Machine_freeOtherHalf_5 ?_
  obtain ⟨x1, ex1⟩ : ∃ z : Int32, lc ((nI i).toNatClampNeg) = z := ⟨_, rfl⟩
  refine tw_ri (e2 := x1) ex1 ?_
  refine lv_iconst (v := 2) hx hb d_Machine_freeOtherHalf_6 (by decide) ?_
  refine lv_icmp_ne (tgt := 30) hx hb d_Machine_freeOtherHalf_7 (by decide) (fun h7 => ?_) (fun h7 => ?_)
  · refine lv_aload_n hx hb d_Machine_freeOtherHalf_30 rfl (lv_at hl 0 rfl) ?_
    refine va_get (D := g.1) (ci := 5) (v := .ref l0) (C := R_Machine) (T := F_Machine) (N := 11) hx hb hts in_Machine hown hK hP 0 rfl rfl 1 (by decide) (hts _ wd_144) (fun _ h9 => h9) rfl d_Machine_freeOtherHalf_31 ?_
    refine lv_iload_n hx hb d_Machine_freeOtherHalf_34 rfl (lv_at hl 1 rfl) ?_
    refine va_iald hx hb hK hP 2 0 rfl rfl (vp_in_nI hi (by decide)) d_Machine_freeOtherHalf_35 ?_
    obtain ⟨x2, ex2⟩ : ∃ z : Int32, lc ((nI i).toNatClampNeg) = z := ⟨_, rfl⟩
    refine tw_ri (e2 := x2) ex2 ?_
    refine lv_iconst (v := 3) hx hb d_Machine_freeOtherHalf_36 (by decide) ?_
    refine lv_icmp_ne (tgt := 53) hx hb d_Machine_freeOtherHalf_37 (by decide) (fun h37 => ?_) (fun h37 => ?_)
    · exact tw_vret E hS (de, ms, ml, mt, an, oa, wd, sk, lc, lt) hM hP hD d_Machine_freeOtherHalf_53
    · refine lv_iload_n hx hb d_Machine_freeOtherHalf_40 rfl (lv_at hl 1 rfl) ?_
      refine lv_if_le (tgt := 53) hx hb d_Machine_freeOtherHalf_41 (by decide) (fun h41 => ?_) (fun h41 => ?_)
      · exact tw_vret E hS (de, ms, ml, mt, an, oa, wd, sk, lc, lt) hM hP hD d_Machine_freeOtherHalf_53
      · have h41 := tn_nle (b := 0) h41 (by omega) (by decide)
        refine lv_aload_n hx hb d_Machine_freeOtherHalf_44 rfl (lv_at hl 0 rfl) ?_
        refine va_get (D := g.1) (ci := 5) (v := .ref l0) (C := R_Machine) (T := F_Machine) (N := 11) hx hb hts in_Machine hown hK hP 0 rfl rfl 1 (by decide) (hts _ wd_144) (fun _ h9 => h9) rfl d_Machine_freeOtherHalf_45 ?_
        refine lv_iload_n hx hb d_Machine_freeOtherHalf_48 rfl (lv_at hl 1 rfl) ?_
        refine lv_iconst (v := 1) hx hb d_Machine_freeOtherHalf_49 (by decide) ?_
        refine lv_isub hx hb d_Machine_freeOtherHalf_50 ?_
        refine tw_ri (e2 := nI (i - 1)) (pk_sub (b := 1) (by omega)) ?_
        refine lv_iconst (v := 0) hx hb d_Machine_freeOtherHalf_51 (by decide) ?_
        refine va_iast hx hb hK hP hD hS 2 0 rfl rfl (vp_in_nI (by omega) (by decide)) d_Machine_freeOtherHalf_52 (fun H locs hP hD hS => ?_)
        have hP : va_P g.1 classes [(mh, .inr (5, [.ref s0, .ref l0, .ref t0, lay, .int (nI de), .int (nI ms), .int (nI ml), .int (nI mt), .int an, .int oa, .int wd])), (s0, aI g 64 sk), (l0, aI g 64 (upd lc (nI (i - 1)).toNatClampNeg 0)), (t0, aI g 600 lt)] H := hP
        have hD : va_D A [(mh, .inr (5, [.ref s0, .ref l0, .ref t0, lay, .int (nI de), .int (nI ms), .int (nI ml), .int (nI mt), .int an, .int oa, .int wd])), (s0, aI g 64 sk), (l0, aI g 64 (upd lc (nI (i - 1)).toNatClampNeg 0)), (t0, aI g 600 lt)] := hD
        exact tw_vret E hS (de, ms, ml, mt, an, oa, wd, sk, upd lc (nI (i - 1)).toNatClampNeg 0, lt) hM hP hD d_Machine_freeOtherHalf_53
  · refine lv_iload_n hx hb d_Machine_freeOtherHalf_10 rfl (lv_at hl 1 rfl) ?_
    refine lv_iconst (v := 1) hx hb d_Machine_freeOtherHalf_11 (by decide) ?_
    refine lv_iadd hx hb d_Machine_freeOtherHalf_12 ?_
    refine tw_ri (e2 := nI (i + 1)) (nI_add i 1) ?_
    refine lv_bipush (v := 64) hx hb d_Machine_freeOtherHalf_13 (by decide) ?_
    refine lv_icmp_ge (tgt := 30) hx hb d_Machine_freeOtherHalf_15 (by decide) (fun h15 => ?_) (fun h15 => ?_)
    · refine lv_aload_n hx hb d_Machine_freeOtherHalf_30 rfl (lv_at hl 0 rfl) ?_
      refine va_get (D := g.1) (ci := 5) (v := .ref l0) (C := R_Machine) (T := F_Machine) (N := 11) hx hb hts in_Machine hown hK hP 0 rfl rfl 1 (by decide) (hts _ wd_144) (fun _ h9 => h9) rfl d_Machine_freeOtherHalf_31 ?_
      refine lv_iload_n hx hb d_Machine_freeOtherHalf_34 rfl (lv_at hl 1 rfl) ?_
      refine va_iald hx hb hK hP 2 0 rfl rfl (vp_in_nI hi (by decide)) d_Machine_freeOtherHalf_35 ?_
      obtain ⟨x3, ex3⟩ : ∃ z : Int32, lc ((nI i).toNatClampNeg) = z := ⟨_, rfl⟩
      refine tw_ri (e2 := x3) ex3 ?_
      refine lv_iconst (v := 3) hx hb d_Machine_freeOtherHalf_36 (by decide) ?_
      refine lv_icmp_ne (tgt := 53) hx hb d_Machine_freeOtherHalf_37 (by decide) (fun h37 => ?_) (fun h37 => ?_)
      · exact tw_vret E hS (de, ms, ml, mt, an, oa, wd, sk, lc, lt) hM hP hD d_Machine_freeOtherHalf_53
      · refine lv_iload_n hx hb d_Machine_freeOtherHalf_40 rfl (lv_at hl 1 rfl) ?_
        refine lv_if_le (tgt := 53) hx hb d_Machine_freeOtherHalf_41 (by decide) (fun h41 => ?_) (fun h41 => ?_)
        · exact tw_vret E hS (de, ms, ml, mt, an, oa, wd, sk, lc, lt) hM hP hD d_Machine_freeOtherHalf_53
        · have h41 := tn_nle (b := 0) h41 (by omega) (by decide)
          refine lv_aload_n hx hb d_Machine_freeOtherHalf_44 rfl (lv_at hl 0 rfl) ?_
          refine va_get (D := g.1) (ci := 5) (v := .ref l0) (C := R_Machine) (T := F_Machine) (N := 11) hx hb hts in_Machine hown hK hP 0 rfl rfl 1 (by decide) (hts _ wd_144) (fun _ h9 => h9) rfl d_Machine_freeOtherHalf_45 ?_
          refine lv_iload_n hx hb d_Machine_freeOtherHalf_48 rfl (lv_at hl 1 rfl) ?_
          refine lv_iconst (v := 1) hx hb d_Machine_freeOtherHalf_49 (by decide) ?_
          refine lv_isub hx hb d_Machine_freeOtherHalf_50 ?_
          refine tw_ri (e2 := nI (i - 1)) (pk_sub (b := 1) (by omega)) ?_
          refine lv_iconst (v := 0) hx hb d_Machine_freeOtherHalf_51 (by decide) ?_
          refine va_iast hx hb hK hP hD hS 2 0 rfl rfl (vp_in_nI (by omega) (by decide)) d_Machine_freeOtherHalf_52 (fun H locs hP hD hS => ?_)
          have hP : va_P g.1 classes [(mh, .inr (5, [.ref s0, .ref l0, .ref t0, lay, .int (nI de), .int (nI ms), .int (nI ml), .int (nI mt), .int an, .int oa, .int wd])), (s0, aI g 64 sk), (l0, aI g 64 (upd lc (nI (i - 1)).toNatClampNeg 0)), (t0, aI g 600 lt)] H := hP
          have hD : va_D A [(mh, .inr (5, [.ref s0, .ref l0, .ref t0, lay, .int (nI de), .int (nI ms), .int (nI ml), .int (nI mt), .int an, .int oa, .int wd])), (s0, aI g 64 sk), (l0, aI g 64 (upd lc (nI (i - 1)).toNatClampNeg 0)), (t0, aI g 600 lt)] := hD
          exact tw_vret E hS (de, ms, ml, mt, an, oa, wd, sk, upd lc (nI (i - 1)).toNatClampNeg 0, lt) hM hP hD d_Machine_freeOtherHalf_53
    · have h15 := tn_nle (a := 64) h15 (by decide) (by omega)
      refine lv_aload_n hx hb d_Machine_freeOtherHalf_18 rfl (lv_at hl 0 rfl) ?_
      refine va_get (D := g.1) (ci := 5) (v := .ref l0) (C := R_Machine) (T := F_Machine) (N := 11) hx hb hts in_Machine hown hK hP 0 rfl rfl 1 (by decide) (hts _ wd_144) (fun _ h9 => h9) rfl d_Machine_freeOtherHalf_19 ?_
      refine lv_iload_n hx hb d_Machine_freeOtherHalf_22 rfl (lv_at hl 1 rfl) ?_
      refine lv_iconst (v := 1) hx hb d_Machine_freeOtherHalf_23 (by decide) ?_
      refine lv_iadd hx hb d_Machine_freeOtherHalf_24 ?_
      refine tw_ri (e2 := nI (i + 1)) (nI_add i 1) ?_
      refine lv_iconst (v := 0) hx hb d_Machine_freeOtherHalf_25 (by decide) ?_
      refine va_iast hx hb hK hP hD hS 2 0 rfl rfl (vp_in_nI h15 (by decide)) d_Machine_freeOtherHalf_26 (fun H locs hP hD hS => ?_)
      have hP : va_P g.1 classes [(mh, .inr (5, [.ref s0, .ref l0, .ref t0, lay, .int (nI de), .int (nI ms), .int (nI ml), .int (nI mt), .int an, .int oa, .int wd])), (s0, aI g 64 sk), (l0, aI g 64 (upd lc (nI (i + 1)).toNatClampNeg 0)), (t0, aI g 600 lt)] H := hP
      have hD : va_D A [(mh, .inr (5, [.ref s0, .ref l0, .ref t0, lay, .int (nI de), .int (nI ms), .int (nI ml), .int (nI mt), .int an, .int oa, .int wd])), (s0, aI g 64 sk), (l0, aI g 64 (upd lc (nI (i + 1)).toNatClampNeg 0)), (t0, aI g 600 lt)] := hD
      refine lv_goto (tgt := 53) hx hb d_Machine_freeOtherHalf_27 (by decide) ?_
      exact tw_vret E hS (de, ms, ml, mt, an, oa, wd, sk, upd lc (nI (i + 1)).toNatClampNeg 0, lt) hM hP hD d_Machine_freeOtherHalf_53
