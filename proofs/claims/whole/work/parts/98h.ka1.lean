set_option maxHeartbeats 4000000 in
set_option maxRecDepth 100000 in
theorem s_Frames_kindAt (l : Launch) (g : tw_G) (sz : Nat) (f0 : Nat) (w : Nat → Nat) (lo : Nat) (rw : Nat → Int64) (bg wt dp : Nat → Int32) (tq : Int32) (sn : Nat) (hsn : sn < 128) : Met l y_Frames_kindAt [.code y_Frames_kindAt b_Frames_kindAt 3 (some .int)] ({ frames := 1, cells := 0, slots := 0, locals := 22 }) (tw_P g [.ref f0, .int tq, .int (nI sn)] [(f0, .inr (1, [.ref (w 3), .ref (w 4), .ref (w 5), .ref (w 6), .int (nI lo)])), ((w 3), aJ g 4800 rw), ((w 4), aB g 600 bg), ((w 5), aB g 600 wt), ((w 6), aB g 600 dp)] sz) (vp_Si (fun _ => True)) 0 0 (fun _ => False) := by
  refine tw_met (l := l) (g := g) (y := y_Frames_kindAt) (cc := b_Frames_kindAt) (maxL := 3) (ret := (some .int)) (rm := { frames := 1, cells := 0, slots := 0, locals := 22 }) (mc := 0) (ms := 0) (av := [.ref f0, .int tq, .int (nI sn)]) (ws := [(f0, .inr (1, [.ref (w 3), .ref (w 4), .ref (w 5), .ref (w 6), .int (nI lo)])), ((w 3), aJ g 4800 rw), ((w 4), aB g 600 bg), ((w 5), aB g 600 wt), ((w 6), aB g 600 dp)]) (sz := sz) (Qc := fun _ => (vp_Si (fun _ => True))) (free := fun _ _ => False) (by decide) (Nat.le_of_ble_eq_true rfl) ?_
  intro p e s m below meth c ls A E hB hK hZ hP hD hS hA hl
  obtain ⟨hx, hb, hml, hr, hown, hts, hlocks, hin⟩ := id E
  have hl : lv_has ls 3 [(0, .ref f0), (1, .int tq), (2, .int (nI sn))] := hl
  refine lv_iload_n hx hb d_Frames_kindAt_0 rfl (lv_at hl 1 rfl) ?_
  refine tw_si (tw_runS (ws := [(f0, .inr (1, [.ref (w 3), .ref (w 4), .ref (w 5), .ref (w 6), .int (nI lo)])), ((w 3), aJ g 4800 rw), ((w 4), aB g 600 bg), ((w 5), aB g 600 wt), ((w 6), aB g 600 dp)]) (wc := []) (As := [.int tq]) (rest := []) E hB hK hZ (s_Frames_isThere l g s.heap.size tq) mc_Frames_isThere ms_Frames_isThere wd_733 hP hD hS hA [] rfl (by decide) rfl rfl (by decide) rfl hl.1 rfl (Nat.le_of_ble_eq_true rfl) (by decide) d_Frames_kindAt_1) (fun r1 hr1 => ?_)
  refine lv_if_eq (tgt := 22) hx hb d_Frames_kindAt_4 (by decide) (fun h4 => ?_) (fun h4 => ?_)
  · refine lv_iconst (v := (-1)) hx hb d_Frames_kindAt_22 (by decide) ?_
    exact tw_isret E trivial d_Frames_kindAt_23
  · obtain ⟨p1, hp1, rfl⟩ := sf_ix (hr1.resolve_left h4).2
    refine lv_aload_n hx hb d_Frames_kindAt_7 rfl (lv_at hl 0 rfl) ?_
    refine va_get (D := g.1) (ci := 1) (v := .ref (w 3)) (C := R_Frames) (T := F_Frames) (N := 5) hx hb hts in_Frames hown hK hP 0 rfl rfl 0 (by decide) (hts _ wd_225) (fun _ h9 => h9) rfl d_Frames_kindAt_8 ?_
    refine lv_iload_n hx hb d_Frames_kindAt_11 rfl (lv_at hl 1 rfl) ?_
    refine lv_bipush (v := 8) hx hb d_Frames_kindAt_12 (by decide) ?_
    refine lv_imul hx hb d_Frames_kindAt_14 ?_
    refine tw_ri (e2 := nI (p1 * 8)) (pk_mul p1 8) ?_
    refine lv_iload_n hx hb d_Frames_kindAt_15 rfl (lv_at hl 2 rfl) ?_
    refine tw_si (tw_runS (ws := [(f0, .inr (1, [.ref (w 3), .ref (w 4), .ref (w 5), .ref (w 6), .int (nI lo)])), ((w 3), aJ g 4800 rw), ((w 4), aB g 600 bg), ((w 5), aB g 600 wt), ((w 6), aB g 600 dp)]) (wc := [((w 3), aJ g 4800 rw)]) (As := [.ref (w 3), .int (nI (p1 * 8)), .int (nI sn)]) (rest := []) E hB hK hZ (s_Frames_kindIn l g s.heap.size (w 3) 4800 rw (p1 * 8) sn (by omega) (by omega) (by decide)) mc_Frames_kindIn ms_Frames_kindIn wd_813 hP hD hS hA [1] rfl (by decide) rfl rfl (by decide) rfl hl.1 rfl (Nat.le_of_ble_eq_true rfl) (by decide) d_Frames_kindAt_16) (fun r2 hr2 => ?_)
    refine lv_goto (tgt := 23) hx hb d_Frames_kindAt_19 (by decide) ?_
    exact tw_isret E trivial d_Frames_kindAt_23
