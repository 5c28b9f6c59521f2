set_option maxHeartbeats 4000000 in
set_option maxRecDepth 100000 in
theorem c_fillJ (l : Launch) (g : tw_G) (sz : Nat) (a N : Nat) (f : Nat → Int64) (v : Int64) (hN : N < 2 ^ 31) : Met l y_Arrays_fill_aJJV [.code y_Arrays_fill_aJJV b_Arrays_fill_aJJV 5 none] ({ frames := 0, cells := 0, slots := 0, locals := 0 }) (tw_P g [.ref a, .long v] [(a, aJ g N f)] sz) (tw_Qv g (fun u => ∀ j, j < N → u j = v) (fun u : Nat → Int64 => [(a, aJ g N u)]) (va_A [(a, aJ g N f)] sz)) 0 0 (va_A [(a, aJ g N f)] sz) := by
  refine tw_metW (l := l) (g := g) (y := y_Arrays_fill_aJJV) (cc := b_Arrays_fill_aJJV) (maxL := 5) (ret := none) (rm := { frames := 0, cells := 0, slots := 0, locals := 0 }) (mc := 0) (ms := 0) (av := [.ref a, .long v]) (ws := [(a, aJ g N f)]) (sz := sz) (Qc := fun A => (tw_Qv g (fun u => ∀ j, j < N → u j = v) (fun u : Nat → Int64 => [(a, aJ g N u)]) A)) (by decide) (Nat.le_of_ble_eq_true rfl) ?_
  intro p e s m below meth c ls H A E hB hK hZ hP hD hS hA hl
  obtain ⟨hx, hb, hml, hr, hown, hts, hlocks, hin⟩ := id E
  have hl : lv_has ls 5 [(0, .ref a), (1, .long v)] := hl
  refine lv_iconst (v := 0) hx hb d_Arrays_fill_aJJV_0 (by decide) ?_
  refine lv_istore_n hx hb d_Arrays_fill_aJJV_1 rfl hl (by decide) rfl (fun ls hl => ?_)
  have hl : lv_has ls 5 [(3, .int 0), (0, .ref a), (1, .long v)] := hl
  refine lv_aload_n hx hb d_Arrays_fill_aJJV_2 rfl (lv_at hl 1 rfl) ?_
  refine va_alen (v := nI N) hx hb hK hP 0 2 rfl rfl rfl d_Arrays_fill_aJJV_3 ?_
  refine lv_istore hx hb d_Arrays_fill_aJJV_4 hl (by decide) rfl (fun ls hl => ?_)
  have hl : lv_has ls 5 [(4, .int (nI N)), (3, .int 0), (0, .ref a), (1, .long v)] := hl
  have loop6 : ∀ (kq : Nat) (i : Nat) (f9 : Nat → Int64) (ls : Array Slot) (H : Heap) (locs : List Loc) , N - i = kq → (hi : i ≤ N) → (hf9 : ∀ j, j < i → f9 j = v) → lv_has ls 5 [(4, .int (nI N)), (3, .int (nI i)), (0, .ref a), (1, .long v)] → va_P g.1 classes [(a, aJ g N f9)] H → va_D A [(a, aJ g N f9)] → va_S A s.heap H locs → W p l e ({ frames := 0, cells := 0, slots := 0, locals := 0 }) s m [.ref a, .long v].toArray below meth c H locs 0 0 (MQ below (tw_Qv g (fun u => ∀ j, j < N → u j = v) (fun u : Nat → Int64 => [(a, aJ g N u)]) A) [.ref a, .long v].toArray s 0 0 A) (F0 m 6 ls []) := by
    intro kq
    induction kq using Nat.strongRecOn with
    | _ kq ih =>
      intro i f9 ls H locs hk hi hf9 hl hP hD hS
      refine lv_iload_n hx hb d_Arrays_fill_aJJV_6 rfl (lv_at hl 1 rfl) ?_
      refine lv_iload hx hb d_Arrays_fill_aJJV_7 (lv_at hl 0 rfl) ?_
      refine lv_icmp_ge (tgt := 22) hx hb d_Arrays_fill_aJJV_9 (by decide) (fun h9 => ?_) (fun h9 => ?_)
      · have h9 := tn_le h9 (by omega) (by omega)
        exact tw_vret E hS f9 (fun j hj => hf9 j (by omega)) hP hD d_Arrays_fill_aJJV_22
      · have h9 := tn_nle h9 (by omega) (by omega)
        refine lv_aload_n hx hb d_Arrays_fill_aJJV_12 rfl (lv_at hl 2 rfl) ?_
        refine lv_iload_n hx hb d_Arrays_fill_aJJV_13 rfl (lv_at hl 1 rfl) ?_
        refine lv_lload_n hx hb d_Arrays_fill_aJJV_14 rfl (lv_at hl 3 rfl) ?_
        refine va_last hx hb hK hP hD hS 0 2 rfl rfl (vp_in_nI h9 hN) d_Arrays_fill_aJJV_15 (fun H locs hP hD hS => ?_)
        have hP : va_P g.1 classes [(a, aJ g N (vp_updL f9 (nI i).toNatClampNeg v))] H := hP
        have hD : va_D A [(a, aJ g N (vp_updL f9 (nI i).toNatClampNeg v))] := hD
        have e9 : vp_updL f9 (nI i).toNatClampNeg v = vp_updL f9 i v := by rw [nI_clamp (by omega)]
        rw [e9] at hP hD
        refine lv_iinc (k := 1) (v := nI (i + 1)) hx hb d_Arrays_fill_aJJV_16 hl rfl ((nI_succ i).symm) (by decide) rfl (fun ls hl => ?_)
        have hl : lv_has ls 5 [(3, .int (nI (i + 1))), (4, .int (nI N)), (0, .ref a), (1, .long v)] := hl
        refine lv_goto (tgt := 6) hx hb d_Arrays_fill_aJJV_19 (by decide) ?_
        exact ih _ (by omega) (i + 1) (vp_updL f9 i v) ls _ _ rfl (by omega) (sf_fl hf9) (lv_sub hl [1, 0, 2, 3] rfl) hP hD hS
  exact loop6 _ 0 f ls _ _ rfl (Nat.zero_le _) (fun j h => absurd h (Nat.not_lt_zero j)) (hl) hP hD hS
set_option maxHeartbeats 4000000 in
set_option maxRecDepth 100000 in
theorem s_Frames_copyCaught (l : Launch) (g : tw_G) (sz : Nat) (f0 ra : Nat) (w : Nat → Nat) (lo : Nat) (rw : Nat → Int64) (bg wt dp : Nat → Int32) (rf : Nat → Int64) (tq : Int32) (hr0 : ¬ rf 0 &&& 15 = 3) : Met l y_Frames_copyCaught [.code y_Frames_copyCaught b_Frames_copyCaught 3 none] ({ frames := 1, cells := 0, slots := 0, locals := 60 }) (tw_P g [.ref f0, .int tq, .ref ra] [(f0, .inr (1, [.ref (w 3), .ref (w 4), .ref (w 5), .ref (w 6), .int (nI lo)])), ((w 3), aJ g 4800 rw), ((w 4), aB g 600 bg), ((w 5), aB g 600 wt), ((w 6), aB g 600 dp), (ra, aJ g 8 rf)] sz) (tw_Qv g (fun (u : (Nat → Int64)) => ¬ u 0 &&& 15 = 3) (fun u : (Nat → Int64) => [(f0, .inr (1, [.ref (w 3), .ref (w 4), .ref (w 5), .ref (w 6), .int (nI lo)])), ((w 3), aJ g 4800 rw), ((w 4), aB g 600 bg), ((w 5), aB g 600 wt), ((w 6), aB g 600 dp), (ra, aJ g 8 u)]) (va_A [(f0, .inr (1, [.ref (w 3), .ref (w 4), .ref (w 5), .ref (w 6), .int (nI lo)])), ((w 3), aJ g 4800 rw), ((w 4), aB g 600 bg), ((w 5), aB g 600 wt), ((w 6), aB g 600 dp), (ra, aJ g 8 rf)] sz)) 0 0 (va_A [(f0, .inr (1, [.ref (w 3), .ref (w 4), .ref (w 5), .ref (w 6), .int (nI lo)])), ((w 3), aJ g 4800 rw), ((w 4), aB g 600 bg), ((w 5), aB g 600 wt), ((w 6), aB g 600 dp), (ra, aJ g 8 rf)] sz) := by
  refine tw_metW (l := l) (g := g) (y := y_Frames_copyCaught) (cc := b_Frames_copyCaught) (maxL := 3) (ret := none) (rm := { frames := 1, cells := 0, slots := 0, locals := 60 }) (mc := 0) (ms := 0) (av := [.ref f0, .int tq, .ref ra]) (ws := [(f0, .inr (1, [.ref (w 3), .ref (w 4), .ref (w 5), .ref (w 6), .int (nI lo)])), ((w 3), aJ g 4800 rw), ((w 4), aB g 600 bg), ((w 5), aB g 600 wt), ((w 6), aB g 600 dp), (ra, aJ g 8 rf)]) (sz := sz) (Qc := fun A => (tw_Qv g (fun (u : (Nat → Int64)) => ¬ u 0 &&& 15 = 3) (fun u : (Nat → Int64) => [(f0, .inr (1, [.ref (w 3), .ref (w 4), .ref (w 5), .ref (w 6), .int (nI lo)])), ((w 3), aJ g 4800 rw), ((w 4), aB g 600 bg), ((w 5), aB g 600 wt), ((w 6), aB g 600 dp), (ra, aJ g 8 u)]) A)) (by decide) (Nat.le_of_ble_eq_true rfl) ?_
  intro p e s m below meth c ls H A E hB hK hZ hP hD hS hA hl
  obtain ⟨hx, hb, hml, hr, hown, hts, hlocks, hin⟩ := id E
  have hl : lv_has ls 3 [(0, .ref f0), (1, .int tq), (2, .ref ra)] := hl
  refine lv_iload_n hx hb d_Frames_copyCaught_0 rfl (lv_at hl 1 rfl) ?_
  refine tw_si (tw_runS (ws := [(f0, .inr (1, [.ref (w 3), .ref (w 4), .ref (w 5), .ref (w 6), .int (nI lo)])), ((w 3), aJ g 4800 rw), ((w 4), aB g 600 bg), ((w 5), aB g 600 wt), ((w 6), aB g 600 dp), (ra, aJ g 8 rf)]) (wc := []) (As := [.int tq]) (rest := []) E hB hK hZ (s_Frames_isThere l g H.size tq) mc_Frames_isThere ms_Frames_isThere wd_733 hP hD hS hA [] rfl (by decide) rfl rfl (by decide) rfl hl.1 rfl (Nat.le_of_ble_eq_true rfl) (by decide) d_Frames_copyCaught_1) (fun r1 hr1 => ?_)
  refine lv_if_eq (tgt := 35) hx hb d_Frames_copyCaught_4 (by decide) (fun h4 => ?_) (fun h4 => ?_)
  · exact tw_vret E hS rf hr0 hP hD d_Frames_copyCaught_35
  · obtain ⟨p1, hp1, rfl⟩ := sf_ix (hr1.resolve_left h4).2
    refine lv_aload_n hx hb d_Frames_copyCaught_7 rfl (lv_at hl 2 rfl) ?_
    refine lv_lconst (v := 0) hx hb d_Frames_copyCaught_8 (by decide) ?_
    refine tw_wv (wr := [(f0, .inr (1, [.ref (w 3), .ref (w 4), .ref (w 5), .ref (w 6), .int (nI lo)])), ((w 3), aJ g 4800 rw), ((w 4), aB g 600 bg), ((w 5), aB g 600 wt), ((w 6), aB g 600 dp)]) (tw_runS (ws := [(f0, .inr (1, [.ref (w 3), .ref (w 4), .ref (w 5), .ref (w 6), .int (nI lo)])), ((w 3), aJ g 4800 rw), ((w 4), aB g 600 bg), ((w 5), aB g 600 wt), ((w 6), aB g 600 dp), (ra, aJ g 8 rf)]) (wc := [(ra, aJ g 8 rf)]) (As := [.ref ra, .long 0]) (rest := []) E hB hK hZ (c_fillJ l g H.size ra 8 rf 0 (by decide)) mc_Arrays_fill_aJJV ms_Arrays_fill_aJJV wd_791 hP hD hS hA [5] rfl (by decide) rfl rfl (by decide) rfl hl.1 rfl (Nat.le_of_ble_eq_true rfl) (by decide) d_Frames_copyCaught_9) hP hD hS hA [5] [0, 1, 2, 3, 4] rfl rfl (by decide) (by decide) (fun u3 H locs hr2 hP hD hS => ?_)
    try dsimp only at hr2
    have hP : va_P g.1 classes [(f0, .inr (1, [.ref (w 3), .ref (w 4), .ref (w 5), .ref (w 6), .int (nI lo)])), ((w 3), aJ g 4800 rw), ((w 4), aB g 600 bg), ((w 5), aB g 600 wt), ((w 6), aB g 600 dp), (ra, aJ g 8 u3)] H := hP
    have hD : va_D A [(f0, .inr (1, [.ref (w 3), .ref (w 4), .ref (w 5), .ref (w 6), .int (nI lo)])), ((w 3), aJ g 4800 rw), ((w 4), aB g 600 bg), ((w 5), aB g 600 wt), ((w 6), aB g 600 dp), (ra, aJ g 8 u3)] := hD
    have hP : va_P g.1 classes [(f0, .inr (1, [.ref (w 3), .ref (w 4), .ref (w 5), .ref (w 6), .int (nI lo)])), ((w 3), aJ g 4800 rw), ((w 4), aB g 600 bg), ((w 5), aB g 600 wt), ((w 6), aB g 600 dp), (ra, aJ g 8 u3)] H := hP.sub [0, 1, 2, 3, 4, 5] rfl
    have hD : va_D A [(f0, .inr (1, [.ref (w 3), .ref (w 4), .ref (w 5), .ref (w 6), .int (nI lo)])), ((w 3), aJ g 4800 rw), ((w 4), aB g 600 bg), ((w 5), aB g 600 wt), ((w 6), aB g 600 dp), (ra, aJ g 8 u3)] := hD.sub [0, 1, 2, 3, 4, 5] (by decide) rfl
    refine lv_aload_n hx hb d_Frames_copyCaught_12 rfl (lv_at hl 2 rfl) ?_
    refine lv_iconst (v := 0) hx hb d_Frames_copyCaught_13 (by decide) ?_
    refine lv_iconst (v := 0) hx hb d_Frames_copyCaught_14 (by decide) ?_
    refine lv_iconst (v := 4) hx hb d_Frames_copyCaught_15 (by decide) ?_
    refine tw_wv (wr := [(f0, .inr (1, [.ref (w 3), .ref (w 4), .ref (w 5), .ref (w 6), .int (nI lo)])), ((w 3), aJ g 4800 rw), ((w 4), aB g 600 bg), ((w 5), aB g 600 wt), ((w 6), aB g 600 dp)]) (tw_runS (ws := [(f0, .inr (1, [.ref (w 3), .ref (w 4), .ref (w 5), .ref (w 6), .int (nI lo)])), ((w 3), aJ g 4800 rw), ((w 4), aB g 600 bg), ((w 5), aB g 600 wt), ((w 6), aB g 600 dp), (ra, aJ g 8 u3)]) (wc := [(ra, aJ g 8 u3)]) (As := [.ref ra, .int 0, .int 0, .int 4]) (rest := []) E hB hK hZ (s_Frames_setKindIn l g H.size ra 8 u3 0 0 4 (by omega) (by omega) (by decide) (by decide)) mc_Frames_setKindIn ms_Frames_setKindIn wd_794 hP hD hS hA [5] rfl (by decide) rfl rfl (by decide) rfl hl.1 rfl (Nat.le_of_ble_eq_true rfl) (by decide) d_Frames_copyCaught_16) hP hD hS hA [5] [0, 1, 2, 3, 4] rfl rfl (by decide) (by decide) (fun u5 H locs hr4 hP hD hS => ?_)
    try dsimp only at hr4
    have hP : va_P g.1 classes [(f0, .inr (1, [.ref (w 3), .ref (w 4), .ref (w 5), .ref (w 6), .int (nI lo)])), ((w 3), aJ g 4800 rw), ((w 4), aB g 600 bg), ((w 5), aB g 600 wt), ((w 6), aB g 600 dp), (ra, aJ g 8 u5)] H := hP
    have hD : va_D A [(f0, .inr (1, [.ref (w 3), .ref (w 4), .ref (w 5), .ref (w 6), .int (nI lo)])), ((w 3), aJ g 4800 rw), ((w 4), aB g 600 bg), ((w 5), aB g 600 wt), ((w 6), aB g 600 dp), (ra, aJ g 8 u5)] := hD
    have hP : va_P g.1 classes [(f0, .inr (1, [.ref (w 3), .ref (w 4), .ref (w 5), .ref (w 6), .int (nI lo)])), ((w 3), aJ g 4800 rw), ((w 4), aB g 600 bg), ((w 5), aB g 600 wt), ((w 6), aB g 600 dp), (ra, aJ g 8 u5)] H := hP.sub [0, 1, 2, 3, 4, 5] rfl
    have hD : va_D A [(f0, .inr (1, [.ref (w 3), .ref (w 4), .ref (w 5), .ref (w 6), .int (nI lo)])), ((w 3), aJ g 4800 rw), ((w 4), aB g 600 bg), ((w 5), aB g 600 wt), ((w 6), aB g 600 dp), (ra, aJ g 8 u5)] := hD.sub [0, 1, 2, 3, 4, 5] (by decide) rfl
    refine lv_aload_n hx hb d_Frames_copyCaught_19 rfl (lv_at hl 0 rfl) ?_
    refine va_get (D := g.1) (ci := 1) (v := .ref (w 3)) (C := R_Frames) (T := F_Frames) (N := 5) hx hb hts in_Frames hown hK hP 0 rfl rfl 0 (by decide) (hts _ wd_225) (fun _ h9 => h9) rfl d_Frames_copyCaught_20 ?_
    refine lv_iload_n hx hb d_Frames_copyCaught_23 rfl (lv_at hl 1 rfl) ?_
    refine lv_bipush (v := 8) hx hb d_Frames_copyCaught_24 (by decide) ?_
    refine lv_imul hx hb d_Frames_copyCaught_26 ?_
    refine tw_ri (e2 := nI (p1 * 8)) (pk_mul p1 8) ?_
    refine lv_iconst (v := 4) hx hb d_Frames_copyCaught_27 (by decide) ?_
    refine lv_iadd hx hb d_Frames_copyCaught_28 ?_
    refine tw_ri (e2 := nI (p1 * 8 + 4)) (nI_add _ 4) ?_
    refine lv_aload_n hx hb d_Frames_copyCaught_29 rfl (lv_at hl 2 rfl) ?_
    refine lv_iconst (v := 4) hx hb d_Frames_copyCaught_30 (by decide) ?_
    refine lv_iconst (v := 4) hx hb d_Frames_copyCaught_31 (by decide) ?_
    refine va_copyl (ty := .long) hx hb (by rw [hml]; exact hl.1.symm) hown (hts _ wd_803) (hts _ wd_354) (hts _ wd_353) (hts _ wd_18) hK hP hD hS 1 5 2 2 rfl rfl rfl rfl rfl (nI_pos (by omega)) (by decide) (by decide) (sf_c4 hp1) (by decide) (fun _ _ => rfl) (by decide) (by decide) d_Frames_copyCaught_32 (fun H locs hP hD hS => ?_)
    have hP : va_P g.1 classes [(f0, .inr (1, [.ref (w 3), .ref (w 4), .ref (w 5), .ref (w 6), .int (nI lo)])), ((w 3), aJ g 4800 rw), ((w 4), aB g 600 bg), ((w 5), aB g 600 wt), ((w 6), aB g 600 dp), (ra, aJ g 8 (va_cpy rw u5 (nI (p1 * 8 + 4)).toNatClampNeg (4 : Int32).toNatClampNeg (4 : Int32).toNatClampNeg))] H := hP
    have hD : va_D A [(f0, .inr (1, [.ref (w 3), .ref (w 4), .ref (w 5), .ref (w 6), .int (nI lo)])), ((w 3), aJ g 4800 rw), ((w 4), aB g 600 bg), ((w 5), aB g 600 wt), ((w 6), aB g 600 dp), (ra, aJ g 8 (va_cpy rw u5 (nI (p1 * 8 + 4)).toNatClampNeg (4 : Int32).toNatClampNeg (4 : Int32).toNatClampNeg))] := hD
    exact tw_vret E hS (va_cpy rw u5 (nI (p1 * 8 + 4)).toNatClampNeg (4 : Int32).toNatClampNeg (4 : Int32).toNatClampNeg) (sf_cpy4 (hr4.2.2 rfl (by decide))) hP hD d_Frames_copyCaught_35
