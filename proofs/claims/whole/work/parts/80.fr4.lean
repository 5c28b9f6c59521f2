set_option maxHeartbeats 4000000 in
set_option maxRecDepth 100000 in
theorem s_Frames_makeWait (l : Launch) (g : tw_G) (sz : Nat) (f0 : Nat) (w : Nat → Nat) (rw : Nat → Int64) (bg dp : Nat → Int32) (lo : Nat) (wt : Nat → Int32) (p1 : Nat) (hF : FI lo rw wt dp) (hp : p1 < 600) (hd : ¬ dp p1 = -1) : Met l y_Frames_makeWait [.code y_Frames_makeWait b_Frames_makeWait 2 none] ({ frames := 1, cells := 0, slots := 0, locals := 21 }) (tw_P g [.ref f0, .int (nI p1)] [(f0, .inr (1, [.ref (w 3), .ref (w 4), .ref (w 5), .ref (w 6), .int (nI lo)])), ((w 3), aJ g 4800 rw), ((w 4), aB g 600 bg), ((w 5), aB g 600 wt), ((w 6), aB g 600 dp)] sz) (tw_Qv g (fun (u : Nat × (Nat → Int32)) => FI u.1 rw u.2 dp) (fun u : Nat × (Nat → Int32) => [(f0, .inr (1, [.ref (w 3), .ref (w 4), .ref (w 5), .ref (w 6), .int (nI u.1)])), ((w 3), aJ g 4800 rw), ((w 4), aB g 600 bg), ((w 5), aB g 600 u.2), ((w 6), aB g 600 dp)]) (va_A [(f0, .inr (1, [.ref (w 3), .ref (w 4), .ref (w 5), .ref (w 6), .int (nI lo)])), ((w 3), aJ g 4800 rw), ((w 4), aB g 600 bg), ((w 5), aB g 600 wt), ((w 6), aB g 600 dp)] sz)) 0 0 (va_A [(f0, .inr (1, [.ref (w 3), .ref (w 4), .ref (w 5), .ref (w 6), .int (nI lo)])), ((w 3), aJ g 4800 rw), ((w 4), aB g 600 bg), ((w 5), aB g 600 wt), ((w 6), aB g 600 dp)] sz) := by
  refine tw_metW (l := l) (g := g) (y := y_Frames_makeWait) (cc := b_Frames_makeWait) (maxL := 2) (ret := none) (rm := { frames := 1, cells := 0, slots := 0, locals := 21 }) (mc := 0) (ms := 0) (av := [.ref f0, .int (nI p1)]) (ws := [(f0, .inr (1, [.ref (w 3), .ref (w 4), .ref (w 5), .ref (w 6), .int (nI lo)])), ((w 3), aJ g 4800 rw), ((w 4), aB g 600 bg), ((w 5), aB g 600 wt), ((w 6), aB g 600 dp)]) (sz := sz) (Qc := fun A => (tw_Qv g (fun (u : Nat × (Nat → Int32)) => FI u.1 rw u.2 dp) (fun u : Nat × (Nat → Int32) => [(f0, .inr (1, [.ref (w 3), .ref (w 4), .ref (w 5), .ref (w 6), .int (nI u.1)])), ((w 3), aJ g 4800 rw), ((w 4), aB g 600 bg), ((w 5), aB g 600 u.2), ((w 6), aB g 600 dp)]) A)) (by decide) (Nat.le_of_ble_eq_true rfl) ?_
  intro p e s m below meth c ls H A E hB hK hZ hP hD hS hA hl
  obtain ⟨hx, hb, hml, hr, hown, hts, hlocks, hin⟩ := id E
  have hl : lv_has ls 2 [(0, .ref f0), (1, .int (nI p1))] := hl
  refine lv_aload_n hx hb d_Frames_makeWait_0 rfl (lv_at hl 0 rfl) ?_
  refine va_get (D := g.1) (ci := 1) (v := .ref (w 5)) (C := R_Frames) (T := F_Frames) (N := 5) hx hb hts in_Frames hown hK hP 0 rfl rfl 2 (by decide) (hts _ wd_227) (fun _ h9 => h9) rfl d_Frames_makeWait_1 ?_
  refine lv_iload_n hx hb d_Frames_makeWait_4 rfl (lv_at hl 1 rfl) ?_
  refine lv_iconst (v := 1) hx hb d_Frames_makeWait_5 (by decide) ?_
  refine va_bast hx hb hK hP hD hS 3 1 rfl rfl (vp_in_nI hp (by decide)) d_Frames_makeWait_6 (fun H locs hP hD hS => ?_)
  have hP : va_P g.1 classes [(f0, .inr (1, [.ref (w 3), .ref (w 4), .ref (w 5), .ref (w 6), .int (nI lo)])), ((w 3), aJ g 4800 rw), ((w 4), aB g 600 bg), ((w 5), aB g 600 (upd wt (nI p1).toNatClampNeg (vp_nar .byte 1))), ((w 6), aB g 600 dp)] H := hP
  have hD : va_D A [(f0, .inr (1, [.ref (w 3), .ref (w 4), .ref (w 5), .ref (w 6), .int (nI lo)])), ((w 3), aJ g 4800 rw), ((w 4), aB g 600 bg), ((w 5), aB g 600 (upd wt (nI p1).toNatClampNeg (vp_nar .byte 1))), ((w 6), aB g 600 dp)] := hD
  have e9 : upd wt (nI p1).toNatClampNeg (vp_nar .byte 1) = upd wt p1 1 := by rw [nI_clamp (by omega), sf_n1]
  rw [e9] at hP hD
  refine lv_aload_n hx hb d_Frames_makeWait_7 rfl (lv_at hl 0 rfl) ?_
  refine lv_aload_n hx hb d_Frames_makeWait_8 rfl (lv_at hl 0 rfl) ?_
  refine va_get (D := g.1) (ci := 1) (v := .int (nI lo)) (C := R_Frames) (T := F_Frames) (N := 5) hx hb hts in_Frames hown hK hP 0 rfl rfl 4 (by decide) (hts _ wd_229) (fun _ h9 => h9) rfl d_Frames_makeWait_9 ?_
  refine lv_iload_n hx hb d_Frames_makeWait_12 rfl (lv_at hl 1 rfl) ?_
  refine va_mmin (x := (nI lo)) (y := (nI p1)) hx hb (by rw [hml]; exact hl.1.symm) hown (hts _ wd_808) (hts _ wd_764) (hts _ wd_26) (hts _ wd_765) (Nat.le_of_ble_eq_true rfl) (Nat.le_of_ble_eq_true rfl) (Nat.le_of_ble_eq_true rfl) (Nat.le_of_ble_eq_true rfl) d_Frames_makeWait_13 ?_
  refine tw_ri (e2 := nI (min lo p1)) (sf_minL (by have := hF.1; omega) (by omega)) ?_
  refine va_put (D := g.1) (ci := 1) (v := .int (nI (min lo p1))) (ty := .int) (C := R_Frames) (T := F_Frames) (N := 5) hx hb hts in_Frames t_Frames t_Frames_ok n_Frames hown hK hP hD hS 0 rfl rfl 4 (by decide) (hts _ wd_229) (fun _ h9 => h9) rfl (t_Frames_ok 4 (by decide)) rfl rfl (Nat.le_of_ble_eq_true rfl) d_Frames_makeWait_16 (fun H locs hP hD hS => ?_)
  have hP : va_P g.1 classes [(f0, .inr (1, [.ref (w 3), .ref (w 4), .ref (w 5), .ref (w 6), .int (nI (min lo p1))])), ((w 3), aJ g 4800 rw), ((w 4), aB g 600 bg), ((w 5), aB g 600 (upd wt p1 1)), ((w 6), aB g 600 dp)] H := hP
  have hD : va_D A [(f0, .inr (1, [.ref (w 3), .ref (w 4), .ref (w 5), .ref (w 6), .int (nI (min lo p1))])), ((w 3), aJ g 4800 rw), ((w 4), aB g 600 bg), ((w 5), aB g 600 (upd wt p1 1)), ((w 6), aB g 600 dp)] := hD
  exact tw_vret E hS (min lo p1, upd wt p1 1) ((hF.wait hd).low (Nat.le_trans (Nat.min_le_left _ _) hF.1)) hP hD d_Frames_makeWait_19
