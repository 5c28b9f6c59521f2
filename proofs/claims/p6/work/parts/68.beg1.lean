section
set_option maxHeartbeats 4000000 in
set_option maxRecDepth 100000 in
theorem s_Machine_begin (l : Launch) (g : tw_G) (sz : Nat) (mh s0 l0 t0 h0 : Nat) (w : Nat → Nat) (v : LY) (de : Nat) (ms : Nat) (ml : Nat) (mt : Nat) (an : Int32) (oa : Int32) (wd : Int32) (sk : Nat → Int32) (lc : Nat → Int32) (lt : Nat → Int32) (x0 : Value) (k : Int32) (hM : MI de ms ml mt wd sk) (hI : LI v) : Met l y_Machine_begin [.code y_Machine_begin b_Machine_begin 9 (some .int)] ({ frames := 3, cells := 0, slots := 0, locals := 65 }) (tw_P g [.ref mh, .ref h0, .int k] [(mh, .inr (5, [.ref s0, .ref l0, .ref t0, x0, .int (nI de), .int (nI ms), .int (nI ml), .int (nI mt), .int an, .int oa, .int wd])), (s0, aI g 64 sk), (l0, aI g 64 lc), (t0, aI g 600 lt), (h0, .inr (3, [.ref (w 0), .ref (w 2), .ref (w 7), .ref (w 8), .ref (w 9), .ref (w 10), .ref (w 11), .ref (w 12), .ref (w 13), .int v.nu, .int v.th, .int v.it, .int (nI v.fi), .int (nI v.me), .int v.mp])), ((w 0), .inr (2, [.ref (w 1), .int (nI v.n)])), ((w 1), aB g 600 v.b), ((w 2), .inr (1, [.ref (w 3), .ref (w 4), .ref (w 5), .ref (w 6), .int (nI v.lo)])), ((w 3), aJ g 4800 v.rw), ((w 4), aB g 600 v.bg), ((w 5), aB g 600 v.wt), ((w 6), aB g 600 v.dp), ((w 7), aI g 200 v.tg), ((w 8), aI g 200 v.ca), ((w 9), aI g 200 v.fs), ((w 10), aI g 200 v.sc), ((w 11), aI g 75 v.fa), ((w 12), aI g 75 v.ma), ((w 13), aI g 75 v.co)] sz) (tw_Qi g (fun r (u : Nat × Nat × Nat × Nat × Int32 × Int32 × Int32 × (Nat → Int32) × (Nat → Int32) × (Nat → Int32)) => True ∧ MI u.1 u.2.1 u.2.2.1 u.2.2.2.1 u.2.2.2.2.2.2.1 u.2.2.2.2.2.2.2.1) (fun u : Nat × Nat × Nat × Nat × Int32 × Int32 × Int32 × (Nat → Int32) × (Nat → Int32) × (Nat → Int32) => [(mh, .inr (5, [.ref s0, .ref l0, .ref t0, .ref h0, .int (nI u.1), .int (nI u.2.1), .int (nI u.2.2.1), .int (nI u.2.2.2.1), .int u.2.2.2.2.1, .int u.2.2.2.2.2.1, .int u.2.2.2.2.2.2.1])), (s0, aI g 64 u.2.2.2.2.2.2.2.1), (l0, aI g 64 u.2.2.2.2.2.2.2.2.1), (t0, aI g 600 u.2.2.2.2.2.2.2.2.2), (h0, .inr (3, [.ref (w 0), .ref (w 2), .ref (w 7), .ref (w 8), .ref (w 9), .ref (w 10), .ref (w 11), .ref (w 12), .ref (w 13), .int v.nu, .int v.th, .int v.it, .int (nI v.fi), .int (nI v.me), .int v.mp])), ((w 0), .inr (2, [.ref (w 1), .int (nI v.n)])), ((w 1), aB g 600 v.b), ((w 2), .inr (1, [.ref (w 3), .ref (w 4), .ref (w 5), .ref (w 6), .int (nI v.lo)])), ((w 3), aJ g 4800 v.rw), ((w 4), aB g 600 v.bg), ((w 5), aB g 600 v.wt), ((w 6), aB g 600 v.dp), ((w 7), aI g 200 v.tg), ((w 8), aI g 200 v.ca), ((w 9), aI g 200 v.fs), ((w 10), aI g 200 v.sc), ((w 11), aI g 75 v.fa), ((w 12), aI g 75 v.ma), ((w 13), aI g 75 v.co)]) (va_A [(mh, .inr (5, [.ref s0, .ref l0, .ref t0, x0, .int (nI de), .int (nI ms), .int (nI ml), .int (nI mt), .int an, .int oa, .int wd])), (s0, aI g 64 sk), (l0, aI g 64 lc), (t0, aI g 600 lt), (h0, .inr (3, [.ref (w 0), .ref (w 2), .ref (w 7), .ref (w 8), .ref (w 9), .ref (w 10), .ref (w 11), .ref (w 12), .ref (w 13), .int v.nu, .int v.th, .int v.it, .int (nI v.fi), .int (nI v.me), .int v.mp])), ((w 0), .inr (2, [.ref (w 1), .int (nI v.n)])), ((w 1), aB g 600 v.b), ((w 2), .inr (1, [.ref (w 3), .ref (w 4), .ref (w 5), .ref (w 6), .int (nI v.lo)])), ((w 3), aJ g 4800 v.rw), ((w 4), aB g 600 v.bg), ((w 5), aB g 600 v.wt), ((w 6), aB g 600 v.dp), ((w 7), aI g 200 v.tg), ((w 8), aI g 200 v.ca), ((w 9), aI g 200 v.fs), ((w 10), aI g 200 v.sc), ((w 11), aI g 75 v.fa), ((w 12), aI g 75 v.ma), ((w 13), aI g 75 v.co)] sz)) 0 0 (va_A [(mh, .inr (5, [.ref s0, .ref l0, .ref t0, x0, .int (nI de), .int (nI ms), .int (nI ml), .int (nI mt), .int an, .int oa, .int wd])), (s0, aI g 64 sk), (l0, aI g 64 lc), (t0, aI g 600 lt), (h0, .inr (3, [.ref (w 0), .ref (w 2), .ref (w 7), .ref (w 8), .ref (w 9), .ref (w 10), .ref (w 11), .ref (w 12), .ref (w 13), .int v.nu, .int v.th, .int v.it, .int (nI v.fi), .int (nI v.me), .int v.mp])), ((w 0), .inr (2, [.ref (w 1), .int (nI v.n)])), ((w 1), aB g 600 v.b), ((w 2), .inr (1, [.ref (w 3), .ref (w 4), .ref (w 5), .ref (w 6), .int (nI v.lo)])), ((w 3), aJ g 4800 v.rw), ((w 4), aB g 600 v.bg), ((w 5), aB g 600 v.wt), ((w 6), aB g 600 v.dp), ((w 7), aI g 200 v.tg), ((w 8), aI g 200 v.ca), ((w 9), aI g 200 v.fs), ((w 10), aI g 200 v.sc), ((w 11), aI g 75 v.fa), ((w 12), aI g 75 v.ma), ((w 13), aI g 75 v.co)] sz) := by
  refine tw_metW (l := l) (g := g) (y := y_Machine_begin) (cc := b_Machine_begin) (maxL := 9) (ret := (some .int)) (rm := { frames := 3, cells := 0, slots := 0, locals := 65 }) (mc := 0) (ms := 0) (av := [.ref mh, .ref h0, .int k]) (ws := [(mh, .inr (5, [.ref s0, .ref l0, .ref t0, x0, .int (nI de), .int (nI ms), .int (nI ml), .int (nI mt), .int an, .int oa, .int wd])), (s0, aI g 64 sk), (l0, aI g 64 lc), (t0, aI g 600 lt), (h0, .inr (3, [.ref (w 0), .ref (w 2), .ref (w 7), .ref (w 8), .ref (w 9), .ref (w 10), .ref (w 11), .ref (w 12), .ref (w 13), .int v.nu, .int v.th, .int v.it, .int (nI v.fi), .int (nI v.me), .int v.mp])), ((w 0), .inr (2, [.ref (w 1), .int (nI v.n)])), ((w 1), aB g 600 v.b), ((w 2), .inr (1, [.ref (w 3), .ref (w 4), .ref (w 5), .ref (w 6), .int (nI v.lo)])), ((w 3), aJ g 4800 v.rw), ((w 4), aB g 600 v.bg), ((w 5), aB g 600 v.wt), ((w 6), aB g 600 v.dp), ((w 7), aI g 200 v.tg), ((w 8), aI g 200 v.ca), ((w 9), aI g 200 v.fs), ((w 10), aI g 200 v.sc), ((w 11), aI g 75 v.fa), ((w 12), aI g 75 v.ma), ((w 13), aI g 75 v.co)]) (sz := sz) (Qc := fun A => (tw_Qi g (fun r (u : Nat × Nat × Nat × Nat × Int32 × Int32 × Int32 × (Nat → Int32) × (Nat → Int32) × (Nat → Int32)) => True ∧ MI u.1 u.2.1 u.2.2.1 u.2.2.2.1 u.2.2.2.2.2.2.1 u.2.2.2.2.2.2.2.1) (fun u : Nat × Nat × Nat × Nat × Int32 × Int32 × Int32 × (Nat → Int32) × (Nat → Int32) × (Nat → Int32) => [(mh, .inr (5, [.ref s0, .ref l0, .ref t0, .ref h0, .int (nI u.1), .int (nI u.2.1), .int (nI u.2.2.1), .int (nI u.2.2.2.1), .int u.2.2.2.2.1, .int u.2.2.2.2.2.1, .int u.2.2.2.2.2.2.1])), (s0, aI g 64 u.2.2.2.2.2.2.2.1), (l0, aI g 64 u.2.2.2.2.2.2.2.2.1), (t0, aI g 600 u.2.2.2.2.2.2.2.2.2), (h0, .inr (3, [.ref (w 0), .ref (w 2), .ref (w 7), .ref (w 8), .ref (w 9), .ref (w 10), .ref (w 11), .ref (w 12), .ref (w 13), .int v.nu, .int v.th, .int v.it, .int (nI v.fi), .int (nI v.me), .int v.mp])), ((w 0), .inr (2, [.ref (w 1), .int (nI v.n)])), ((w 1), aB g 600 v.b), ((w 2), .inr (1, [.ref (w 3), .ref (w 4), .ref (w 5), .ref (w 6), .int (nI v.lo)])), ((w 3), aJ g 4800 v.rw), ((w 4), aB g 600 v.bg), ((w 5), aB g 600 v.wt), ((w 6), aB g 600 v.dp), ((w 7), aI g 200 v.tg), ((w 8), aI g 200 v.ca), ((w 9), aI g 200 v.fs), ((w 10), aI g 200 v.sc), ((w 11), aI g 75 v.fa), ((w 12), aI g 75 v.ma), ((w 13), aI g 75 v.co)]) A)) (by decide) (Nat.le_of_ble_eq_true rfl) ?_
  intro p e s m below meth c ls H A E hB hK hZ hP hD hS hA hl
  obtain ⟨hx, hb, hml, hr, hown, hts, hlocks, hin⟩ := id E
  have hl : lv_has ls 9 [(0, .ref mh), (1, .ref h0), (2, .int k)] := hl
  refine lv_aload_n hx hb d_Machine_begin_0 rfl (lv_at hl 0 rfl) ?_
  refine lv_aload_n hx hb d_Machine_begin_1 rfl (lv_at hl 1 rfl) ?_
  refine va_put (D := g.1) (ci := 5) (v := .ref h0) (ty := .object "ShippedClass$Layout") (C := R_Machine) (T := F_Machine) (N := 11) hx hb hts in_Machine t_Machine t_Machine_ok n_Machine hown hK hP hD hS 0 rfl rfl 3 (by decide) (hts _ wd_147) (fun _ h9 => h9) rfl (t_Machine_ok 3 (by decide)) rfl rfl (Nat.le_of_ble_eq_true rfl) d_Machine_begin_2 (fun H locs hP hD hS => ?_)
  have hP : va_P g.1 classes [(mh, .inr (5, [.ref s0, .ref l0, .ref t0, .ref h0, .int (nI de), .int (nI ms), .int (nI ml), .int (nI mt), .int an, .int oa, .int wd])), (s0, aI g 64 sk), (l0, aI g 64 lc), (t0, aI g 600 lt), (h0, .inr (3, [.ref (w 0), .ref (w 2), .ref (w 7), .ref (w 8), .ref (w 9), .ref (w 10), .ref (w 11), .ref (w 12), .ref (w 13), .int v.nu, .int v.th, .int v.it, .int (nI v.fi), .int (nI v.me), .int v.mp])), ((w 0), .inr (2, [.ref (w 1), .int (nI v.n)])), ((w 1), aB g 600 v.b), ((w 2), .inr (1, [.ref (w 3), .ref (w 4), .ref (w 5), .ref (w 6), .int (nI v.lo)])), ((w 3), aJ g 4800 v.rw), ((w 4), aB g 600 v.bg), ((w 5), aB g 600 v.wt), ((w 6), aB g 600 v.dp), ((w 7), aI g 200 v.tg), ((w 8), aI g 200 v.ca), ((w 9), aI g 200 v.fs), ((w 10), aI g 200 v.sc), ((w 11), aI g 75 v.fa), ((w 12), aI g 75 v.ma), ((w 13), aI g 75 v.co)] H := hP
  have hD : va_D A [(mh, .inr (5, [.ref s0, .ref l0, .ref t0, .ref h0, .int (nI de), .int (nI ms), .int (nI ml), .int (nI mt), .int an, .int oa, .int wd])), (s0, aI g 64 sk), (l0, aI g 64 lc), (t0, aI g 600 lt), (h0, .inr (3, [.ref (w 0), .ref (w 2), .ref (w 7), .ref (w 8), .ref (w 9), .ref (w 10), .ref (w 11), .ref (w 12), .ref (w 13), .int v.nu, .int v.th, .int v.it, .int (nI v.fi), .int (nI v.me), .int v.mp])), ((w 0), .inr (2, [.ref (w 1), .int (nI v.n)])), ((w 1), aB g 600 v.b), ((w 2), .inr (1, [.ref (w 3), .ref (w 4), .ref (w 5), .ref (w 6), .int (nI v.lo)])), ((w 3), aJ g 4800 v.rw), ((w 4), aB g 600 v.bg), ((w 5), aB g 600 v.wt), ((w 6), aB g 600 v.dp), ((w 7), aI g 200 v.tg), ((w 8), aI g 200 v.ca), ((w 9), aI g 200 v.fs), ((w 10), aI g 200 v.sc), ((w 11), aI g 75 v.fa), ((w 12), aI g 75 v.ma), ((w 13), aI g 75 v.co)] := hD
  refine lv_aload_n hx hb d_Machine_begin_5 rfl (lv_at hl 0 rfl) ?_
  refine lv_aload_n hx hb d_Machine_begin_6 rfl (lv_at hl 0 rfl) ?_
  refine va_get (D := g.1) (ci := 5) (v := .ref h0) (C := R_Machine) (T := F_Machine) (N := 11) hx hb hts in_Machine hown hK hP 0 rfl rfl 3 (by decide) (hts _ wd_147) (fun _ h9 => h9) rfl d_Machine_begin_7 ?_
  refine lv_iload_n hx hb d_Machine_begin_10 rfl (lv_at hl 2 rfl) ?_
  refine tw_si (tw_runV (ws := [(mh, .inr (5, [.ref s0, .ref l0, .ref t0, .ref h0, .int (nI de), .int (nI ms), .int (nI ml), .int (nI mt), .int an, .int oa, .int wd])), (s0, aI g 64 sk), (l0, aI g 64 lc), (t0, aI g 600 lt), (h0, .inr (3, [.ref (w 0), .ref (w 2), .ref (w 7), .ref (w 8), .ref (w 9), .ref (w 10), .ref (w 11), .ref (w 12), .ref (w 13), .int v.nu, .int v.th, .int v.it, .int (nI v.fi), .int (nI v.me), .int v.mp])), ((w 0), .inr (2, [.ref (w 1), .int (nI v.n)])), ((w 1), aB g 600 v.b), ((w 2), .inr (1, [.ref (w 3), .ref (w 4), .ref (w 5), .ref (w 6), .int (nI v.lo)])), ((w 3), aJ g 4800 v.rw), ((w 4), aB g 600 v.bg), ((w 5), aB g 600 v.wt), ((w 6), aB g 600 v.dp), ((w 7), aI g 200 v.tg), ((w 8), aI g 200 v.ca), ((w 9), aI g 200 v.fs), ((w 10), aI g 200 v.sc), ((w 11), aI g 75 v.fa), ((w 12), aI g 75 v.ma), ((w 13), aI g 75 v.co)]) (wc := [(h0, .inr (3, [.ref (w 0), .ref (w 2), .ref (w 7), .ref (w 8), .ref (w 9), .ref (w 10), .ref (w 11), .ref (w 12), .ref (w 13), .int v.nu, .int v.th, .int v.it, .int (nI v.fi), .int (nI v.me), .int v.mp])), ((w 0), .inr (2, [.ref (w 1), .int (nI v.n)])), ((w 1), aB g 600 v.b), ((w 2), .inr (1, [.ref (w 3), .ref (w 4), .ref (w 5), .ref (w 6), .int (nI v.lo)])), ((w 3), aJ g 4800 v.rw), ((w 4), aB g 600 v.bg), ((w 5), aB g 600 v.wt), ((w 6), aB g 600 v.dp), ((w 7), aI g 200 v.tg), ((w 8), aI g 200 v.ca), ((w 9), aI g 200 v.fs), ((w 10), aI g 200 v.sc), ((w 11), aI g 75 v.fa), ((w 12), aI g 75 v.ma), ((w 13), aI g 75 v.co)]) (As := [.int k]) (rest := [.ref mh]) E hB hK hZ (s_Layout_stackOf l g H.size h0 w v k hI) mc_Layout_stackOf mi_Layout_stackOf me_Layout_stackOf wd_762 hP hD hS hA [4, 5, 6, 7, 8, 9, 10, 11, 12, 13, 14, 15, 16, 17, 18] rfl (by decide) 0 rfl rfl rfl rfl rfl (by decide) rfl hl.1 rfl (Nat.le_of_ble_eq_true rfl) (by decide) d_Machine_begin_11) (fun r1 hr1 => ?_)
  obtain ⟨jS, hjS, rfl⟩ := hr1
  refine lv_bipush (v := 64) hx hb d_Machine_begin_14 (by decide) ?_
  refine va_mmin (x := (nI jS)) (y := (64 : Int32)) hx hb (by rw [hml]; exact hl.1.symm) hown (hts _ wd_763) (hts _ wd_764) (hts _ wd_26) (hts _ wd_765) (Nat.le_of_ble_eq_true rfl) (Nat.le_of_ble_eq_true rfl) (Nat.le_of_ble_eq_true rfl) (Nat.le_of_ble_eq_true rfl) d_Machine_begin_16 ?_
  refine tw_ri (e2 := nI (min jS 64)) (sf_min hjS) ?_
  refine va_put (D := g.1) (ci := 5) (v := .int (nI (min jS 64))) (ty := .int) (C := R_Machine) (T := F_Machine) (N := 11) hx hb hts in_Machine t_Machine t_Machine_ok n_Machine hown hK hP hD hS 0 rfl rfl 5 (by decide) (hts _ wd_151) (fun _ h9 => h9) rfl (t_Machine_ok 5 (by decide)) rfl rfl (Nat.le_of_ble_eq_true rfl) d_Machine_begin_19 (fun H locs hP hD hS => ?_)
  have hP : va_P g.1 classes [(mh, .inr (5, [.ref s0, .ref l0, .ref t0, .ref h0, .int (nI de), .int (nI (min jS 64)), .int (nI ml), .int (nI mt), .int an, .int oa, .int wd])), (s0, aI g 64 sk), (l0, aI g 64 lc), (t0, aI g 600 lt), (h0, .inr (3, [.ref (w 0), .ref (w 2), .ref (w 7), .ref (w 8), .ref (w 9), .ref (w 10), .ref (w 11), .ref (w 12), .ref (w 13), .int v.nu, .int v.th, .int v.it, .int (nI v.fi), .int (nI v.me), .int v.mp])), ((w 0), .inr (2, [.ref (w 1), .int (nI v.n)])), ((w 1), aB g 600 v.b), ((w 2), .inr (1, [.ref (w 3), .ref (w 4), .ref (w 5), .ref (w 6), .int (nI v.lo)])), ((w 3), aJ g 4800 v.rw), ((w 4), aB g 600 v.bg), ((w 5), aB g 600 v.wt), ((w 6), aB g 600 v.dp), ((w 7), aI g 200 v.tg), ((w 8), aI g 200 v.ca), ((w 9), aI g 200 v.fs), ((w 10), aI g 200 v.sc), ((w 11), aI g 75 v.fa), ((w 12), aI g 75 v.ma), ((w 13), aI g 75 v.co)] H := hP
  have hD : va_D A [(mh, .inr (5, [.ref s0, .ref l0, .ref t0, .ref h0, .int (nI de), .int (nI (min jS 64)), .int (nI ml), .int (nI mt), .int an, .int oa, .int wd])), (s0, aI g 64 sk), (l0, aI g 64 lc), (t0, aI g 600 lt), (h0, .inr (3, [.ref (w 0), .ref (w 2), .ref (w 7), .ref (w 8), .ref (w 9), .ref (w 10), .ref (w 11), .ref (w 12), .ref (w 13), .int v.nu, .int v.th, .int v.it, .int (nI v.fi), .int (nI v.me), .int v.mp])), ((w 0), .inr (2, [.ref (w 1), .int (nI v.n)])), ((w 1), aB g 600 v.b), ((w 2), .inr (1, [.ref (w 3), .ref (w 4), .ref (w 5), .ref (w 6), .int (nI v.lo)])), ((w 3), aJ g 4800 v.rw), ((w 4), aB g 600 v.bg), ((w 5), aB g 600 v.wt), ((w 6), aB g 600 v.dp), ((w 7), aI g 200 v.tg), ((w 8), aI g 200 v.ca), ((w 9), aI g 200 v.fs), ((w 10), aI g 200 v.sc), ((w 11), aI g 75 v.fa), ((w 12), aI g 75 v.ma), ((w 13), aI g 75 v.co)] := hD
  refine lv_aload_n hx hb d_Machine_begin_22 rfl (lv_at hl 0 rfl) ?_
  refine lv_aload_n hx hb d_Machine_begin_23 rfl (lv_at hl 0 rfl) ?_
  refine va_get (D := g.1) (ci := 5) (v := .ref h0) (C := R_Machine) (T := F_Machine) (N := 11) hx hb hts in_Machine hown hK hP 0 rfl rfl 3 (by decide) (hts _ wd_147) (fun _ h9 => h9) rfl d_Machine_begin_24 ?_
  refine lv_iload_n hx hb d_Machine_begin_27 rfl (lv_at hl 2 rfl) ?_
  refine tw_si (tw_runV (ws := [(mh, .inr (5, [.ref s0, .ref l0, .ref t0, .ref h0, .int (nI de), .int (nI (min jS 64)), .int (nI ml), .int (nI mt), .int an, .int oa, .int wd])), (s0, aI g 64 sk), (l0, aI g 64 lc), (t0, aI g 600 lt), (h0, .inr (3, [.ref (w 0), .ref (w 2), .ref (w 7), .ref (w 8), .ref (w 9), .ref (w 10), .ref (w 11), .ref (w 12), .ref (w 13), .int v.nu, .int v.th, .int v.it, .int (nI v.fi), .int (nI v.me), .int v.mp])), ((w 0), .inr (2, [.ref (w 1), .int (nI v.n)])), ((w 1), aB g 600 v.b), ((w 2), .inr (1, [.ref (w 3), .ref (w 4), .ref (w 5), .ref (w 6), .int (nI v.lo)])), ((w 3), aJ g 4800 v.rw), ((w 4), aB g 600 v.bg), ((w 5), aB g 600 v.wt), ((w 6), aB g 600 v.dp), ((w 7), aI g 200 v.tg), ((w 8), aI g 200 v.ca), ((w 9), aI g 200 v.fs), ((w 10), aI g 200 v.sc), ((w 11), aI g 75 v.fa), ((w 12), aI g 75 v.ma), ((w 13), aI g 75 v.co)]) (wc := [(h0, .inr (3, [.ref (w 0), .ref (w 2), .ref (w 7), .ref (w 8), .ref (w 9), .ref (w 10), .ref (w 11), .ref (w 12), .ref (w 13), .int v.nu, .int v.th, .int v.it, .int (nI v.fi), .int (nI v.me), .int v.mp])), ((w 0), .inr (2, [.ref (w 1), .int (nI v.n)])), ((w 1), aB g 600 v.b), ((w 2), .inr (1, [.ref (w 3), .ref (w 4), .ref (w 5), .ref (w 6), .int (nI v.lo)])), ((w 3), aJ g 4800 v.rw), ((w 4), aB g 600 v.bg), ((w 5), aB g 600 v.wt), ((w 6), aB g 600 v.dp), ((w 7), aI g 200 v.tg), ((w 8), aI g 200 v.ca), ((w 9), aI g 200 v.fs), ((w 10), aI g 200 v.sc), ((w 11), aI g 75 v.fa), ((w 12), aI g 75 v.ma), ((w 13), aI g 75 v.co)]) (As := [.int k]) (rest := [.ref mh]) E hB hK hZ (s_Layout_localsOf l g H.size h0 w v k hI) mc_Layout_localsOf mi_Layout_localsOf me_Layout_localsOf wd_766 hP hD hS hA [4, 5, 6, 7, 8, 9, 10, 11, 12, 13, 14, 15, 16, 17, 18] rfl (by decide) 0 rfl rfl rfl rfl rfl (by decide) rfl hl.1 rfl (Nat.le_of_ble_eq_true rfl) (by decide) d_Machine_begin_28) (fun r2 hr2 => ?_)
  obtain ⟨jL, hjL, rfl⟩ := hr2
  refine lv_bipush (v := 64) hx hb d_Machine_begin_31 (by decide) ?_
  refine va_mmin (x := (nI jL)) (y := (64 : Int32)) hx hb (by rw [hml]; exact hl.1.symm) hown (hts _ wd_763) (hts _ wd_764) (hts _ wd_26) (hts _ wd_765) (Nat.le_of_ble_eq_true rfl) (Nat.le_of_ble_eq_true rfl) (Nat.le_of_ble_eq_true rfl) (Nat.le_of_ble_eq_true rfl) d_Machine_begin_33 ?_
  refine tw_ri (e2 := nI (min jL 64)) (sf_min hjL) ?_
  refine va_put (D := g.1) (ci := 5) (v := .int (nI (min jL 64))) (ty := .int) (C := R_Machine) (T := F_Machine) (N := 11) hx hb hts in_Machine t_Machine t_Machine_ok n_Machine hown hK hP hD hS 0 rfl rfl 6 (by decide) (hts _ wd_153) (fun _ h9 => h9) rfl (t_Machine_ok 6 (by decide)) rfl rfl (Nat.le_of_ble_eq_true rfl) d_Machine_begin_36 (fun H locs hP hD hS => ?_)
  have hP : va_P g.1 classes [(mh, .inr (5, [.ref s0, .ref l0, .ref t0, .ref h0, .int (nI de), .int (nI (min jS 64)), .int (nI (min jL 64)), .int (nI mt), .int an, .int oa, .int wd])), (s0, aI g 64 sk), (l0, aI g 64 lc), (t0, aI g 600 lt), (h0, .inr (3, [.ref (w 0), .ref (w 2), .ref (w 7), .ref (w 8), .ref (w 9), .ref (w 10), .ref (w 11), .ref (w 12), .ref (w 13), .int v.nu, .int v.th, .int v.it, .int (nI v.fi), .int (nI v.me), .int v.mp])), ((w 0), .inr (2, [.ref (w 1), .int (nI v.n)])), ((w 1), aB g 600 v.b), ((w 2), .inr (1, [.ref (w 3), .ref (w 4), .ref (w 5), .ref (w 6), .int (nI v.lo)])), ((w 3), aJ g 4800 v.rw), ((w 4), aB g 600 v.bg), ((w 5), aB g 600 v.wt), ((w 6), aB g 600 v.dp), ((w 7), aI g 200 v.tg), ((w 8), aI g 200 v.ca), ((w 9), aI g 200 v.fs), ((w 10), aI g 200 v.sc), ((w 11), aI g 75 v.fa), ((w 12), aI g 75 v.ma), ((w 13), aI g 75 v.co)] H := hP
  have hD : va_D A [(mh, .inr (5, [.ref s0, .ref l0, .ref t0, .ref h0, .int (nI de), .int (nI (min jS 64)), .int (nI (min jL 64)), .int (nI mt), .int an, .int oa, .int wd])), (s0, aI g 64 sk), (l0, aI g 64 lc), (t0, aI g 600 lt), (h0, .inr (3, [.ref (w 0), .ref (w 2), .ref (w 7), .ref (w 8), .ref (w 9), .ref (w 10), .ref (w 11), .ref (w 12), .ref (w 13), .int v.nu, .int v.th, .int v.it, .int (nI v.fi), .int (nI v.me), .int v.mp])), ((w 0), .inr (2, [.ref (w 1), .int (nI v.n)])), ((w 1), aB g 600 v.b), ((w 2), .inr (1, [.ref (w 3), .ref (w 4), .ref (w 5), .ref (w 6), .int (nI v.lo)])), ((w 3), aJ g 4800 v.rw), ((w 4), aB g 600 v.bg), ((w 5), aB g 600 v.wt), ((w 6), aB g 600 v.dp), ((w 7), aI g 200 v.tg), ((w 8), aI g 200 v.ca), ((w 9), aI g 200 v.fs), ((w 10), aI g 200 v.sc), ((w 11), aI g 75 v.fa), ((w 12), aI g 75 v.ma), ((w 13), aI g 75 v.co)] := hD
  refine lv_aload_n hx hb d_Machine_begin_39 rfl (lv_at hl 0 rfl) ?_
  refine lv_iconst (v := 0) hx hb d_Machine_begin_40 (by decide) ?_
  refine va_put (D := g.1) (ci := 5) (v := .int 0) (ty := .int) (C := R_Machine) (T := F_Machine) (N := 11) hx hb hts in_Machine t_Machine t_Machine_ok n_Machine hown hK hP hD hS 0 rfl rfl 4 (by decide) (hts _ wd_148) (fun _ h9 => h9) rfl (t_Machine_ok 4 (by decide)) rfl rfl (Nat.le_of_ble_eq_true rfl) d_Machine_begin_41 (fun H locs hP hD hS => ?_)
  have hP : va_P g.1 classes [(mh, .inr (5, [.ref s0, .ref l0, .ref t0, .ref h0, .int 0, .int (nI (min jS 64)), .int (nI (min jL 64)), .int (nI mt), .int an, .int oa, .int wd])), (s0, aI g 64 sk), (l0, aI g 64 lc), (t0, aI g 600 lt), (h0, .inr (3, [.ref (w 0), .ref (w 2), .ref (w 7), .ref (w 8), .ref (w 9), .ref (w 10), .ref (w 11), .ref (w 12), .ref (w 13), .int v.nu, .int v.th, .int v.it, .int (nI v.fi), .int (nI v.me), .int v.mp])), ((w 0), .inr (2, [.ref (w 1), .int (nI v.n)])), ((w 1), aB g 600 v.b), ((w 2), .inr (1, [.ref (w 3), .ref (w 4), .ref (w 5), .ref (w 6), .int (nI v.lo)])), ((w 3), aJ g 4800 v.rw), ((w 4), aB g 600 v.bg), ((w 5), aB g 600 v.wt), ((w 6), aB g 600 v.dp), ((w 7), aI g 200 v.tg), ((w 8), aI g 200 v.ca), ((w 9), aI g 200 v.fs), ((w 10), aI g 200 v.sc), ((w 11), aI g 75 v.fa), ((w 12), aI g 75 v.ma), ((w 13), aI g 75 v.co)] H := hP
  have hD : va_D A [(mh, .inr (5, [.ref s0, .ref l0, .ref t0, .ref h0, .int 0, .int (nI (min jS 64)), .int (nI (min jL 64)), .int (nI mt), .int an, .int oa, .int wd])), (s0, aI g 64 sk), (l0, aI g 64 lc), (t0, aI g 600 lt), (h0, .inr (3, [.ref (w 0), .ref (w 2), .ref (w 7), .ref (w 8), .ref (w 9), .ref (w 10), .ref (w 11), .ref (w 12), .ref (w 13), .int v.nu, .int v.th, .int v.it, .int (nI v.fi), .int (nI v.me), .int v.mp])), ((w 0), .inr (2, [.ref (w 1), .int (nI v.n)])), ((w 1), aB g 600 v.b), ((w 2), .inr (1, [.ref (w 3), .ref (w 4), .ref (w 5), .ref (w 6), .int (nI v.lo)])), ((w 3), aJ g 4800 v.rw), ((w 4), aB g 600 v.bg), ((w 5), aB g 600 v.wt), ((w 6), aB g 600 v.dp), ((w 7), aI g 200 v.tg), ((w 8), aI g 200 v.ca), ((w 9), aI g 200 v.fs), ((w 10), aI g 200 v.sc), ((w 11), aI g 75 v.fa), ((w 12), aI g 75 v.ma), ((w 13), aI g 75 v.co)] := hD
  refine lv_aload_n hx hb d_Machine_begin_44 rfl (lv_at hl 0 rfl) ?_
  refine va_get (D := g.1) (ci := 5) (v := .ref l0) (C := R_Machine) (T := F_Machine) (N := 11) hx hb hts in_Machine hown hK hP 0 rfl rfl 1 (by decide) (hts _ wd_144) (fun _ h9 => h9) rfl d_Machine_begin_45 ?_
  refine lv_iconst (v := 0) hx hb d_Machine_begin_48 (by decide) ?_
  refine tw_wv (wr := [(mh, .inr (5, [.ref s0, .ref l0, .ref t0, .ref h0, .int 0, .int (nI (min jS 64)), .int (nI (min jL 64)), .int (nI mt), .int an, .int oa, .int wd])), (s0, aI g 64 sk), (t0, aI g 600 lt), (h0, .inr (3, [.ref (w 0), .ref (w 2), .ref (w 7), .ref (w 8), .ref (w 9), .ref (w 10), .ref (w 11), .ref (w 12), .ref (w 13), .int v.nu, .int v.th, .int v.it, .int (nI v.fi), .int (nI v.me), .int v.mp])), ((w 0), .inr (2, [.ref (w 1), .int (nI v.n)])), ((w 1), aB g 600 v.b), ((w 2), .inr (1, [.ref (w 3), .ref (w 4), .ref (w 5), .ref (w 6), .int (nI v.lo)])), ((w 3), aJ g 4800 v.rw), ((w 4), aB g 600 v.bg), ((w 5), aB g 600 v.wt), ((w 6), aB g 600 v.dp), ((w 7), aI g 200 v.tg), ((w 8), aI g 200 v.ca), ((w 9), aI g 200 v.fs), ((w 10), aI g 200 v.sc), ((w 11), aI g 75 v.fa), ((w 12), aI g 75 v.ma), ((w 13), aI g 75 v.co)]) (tw_runS (ws := [(mh, .inr (5, [.ref s0, .ref l0, .ref t0, .ref h0, .int 0, .int (nI (min jS 64)), .int (nI (min jL 64)), .int (nI mt), .int an, .int oa, .int wd])), (s0, aI g 64 sk), (l0, aI g 64 lc), (t0, aI g 600 lt), (h0, .inr (3, [.ref (w 0), .ref (w 2), .ref (w 7), .ref (w 8), .ref (w 9), .ref (w 10), .ref (w 11), .ref (w 12), .ref (w 13), .int v.nu, .int v.th, .int v.it, .int (nI v.fi), .int (nI v.me), .int v.mp])), ((w 0), .inr (2, [.ref (w 1), .int (nI v.n)])), ((w 1), aB g 600 v.b), ((w 2), .inr (1, [.ref (w 3), .ref (w 4), .ref (w 5), .ref (w 6), .int (nI v.lo)])), ((w 3), aJ g 4800 v.rw), ((w 4), aB g 600 v.bg), ((w 5), aB g 600 v.wt), ((w 6), aB g 600 v.dp), ((w 7), aI g 200 v.tg), ((w 8), aI g 200 v.ca), ((w 9), aI g 200 v.fs), ((w 10), aI g 200 v.sc), ((w 11), aI g 75 v.fa), ((w 12), aI g 75 v.ma), ((w 13), aI g 75 v.co)]) (wc := [(l0, aI g 64 lc)]) (As := [.ref l0, .int 0]) (rest := []) E hB hK hZ (c_fillI l g H.size l0 64 lc 0 (by decide)) mc_Arrays_fill_aIIV ms_Arrays_fill_aIIV wd_767 hP hD hS hA [2] rfl (by decide) rfl rfl (by decide) rfl hl.1 rfl (Nat.le_of_ble_eq_true rfl) (by decide) d_Machine_begin_49) hP hD hS hA [2] [0, 1, 3, 4, 5, 6, 7, 8, 9, 10, 11, 12, 13, 14, 15, 16, 17, 18] rfl rfl (by decide) (by decide) (fun u4 H locs hr3 hP hD hS => ?_)
  try dsimp only at hr3
  have hP : va_P g.1 classes [(mh, .inr (5, [.ref s0, .ref l0, .ref t0, .ref h0, .int 0, .int (nI (min jS 64)), .int (nI (min jL 64)), .int (nI mt), .int an, .int oa, .int wd])), (s0, aI g 64 sk), (t0, aI g 600 lt), (h0, .inr (3, [.ref (w 0), .ref (w 2), .ref (w 7), .ref (w 8), .ref (w 9), .ref (w 10), .ref (w 11), .ref (w 12), .ref (w 13), .int v.nu, .int v.th, .int v.it, .int (nI v.fi), .int (nI v.me), .int v.mp])), ((w 0), .inr (2, [.ref (w 1), .int (nI v.n)])), ((w 1), aB g 600 v.b), ((w 2), .inr (1, [.ref (w 3), .ref (w 4), .ref (w 5), .ref (w 6), .int (nI v.lo)])), ((w 3), aJ g 4800 v.rw), ((w 4), aB g 600 v.bg), ((w 5), aB g 600 v.wt), ((w 6), aB g 600 v.dp), ((w 7), aI g 200 v.tg), ((w 8), aI g 200 v.ca), ((w 9), aI g 200 v.fs), ((w 10), aI g 200 v.sc), ((w 11), aI g 75 v.fa), ((w 12), aI g 75 v.ma), ((w 13), aI g 75 v.co), (l0, aI g 64 (fun _ => 0))] H := hP
  have hD : va_D A [(mh, .inr (5, [.ref s0, .ref l0, .ref t0, .ref h0, .int 0, .int (nI (min jS 64)), .int (nI (min jL 64)), .int (nI mt), .int an, .int oa, .int wd])), (s0, aI g 64 sk), (t0, aI g 600 lt), (h0, .inr (3, [.ref (w 0), .ref (w 2), .ref (w 7), .ref (w 8), .ref (w 9), .ref (w 10), .ref (w 11), .ref (w 12), .ref (w 13), .int v.nu, .int v.th, .int v.it, .int (nI v.fi), .int (nI v.me), .int v.mp])), ((w 0), .inr (2, [.ref (w 1), .int (nI v.n)])), ((w 1), aB g 600 v.b), ((w 2), .inr (1, [.ref (w 3), .ref (w 4), .ref (w 5), .ref (w 6), .int (nI v.lo)])), ((w 3), aJ g 4800 v.rw), ((w 4), aB g 600 v.bg), ((w 5), aB g 600 v.wt), ((w 6), aB g 600 v.dp), ((w 7), aI g 200 v.tg), ((w 8), aI g 200 v.ca), ((w 9), aI g 200 v.fs), ((w 10), aI g 200 v.sc), ((w 11), aI g 75 v.fa), ((w 12), aI g 75 v.ma), ((w 13), aI g 75 v.co), (l0, aI g 64 (fun _ => 0))] := hD
  have hP : va_P g.1 classes [(mh, .inr (5, [.ref s0, .ref l0, .ref t0, .ref h0, .int 0, .int (nI (min jS 64)), .int (nI (min jL 64)), .int (nI mt), .int an, .int oa, .int wd])), (s0, aI g 64 sk), (l0, aI g 64 (fun _ => 0)), (t0, aI g 600 lt), (h0, .inr (3, [.ref (w 0), .ref (w 2), .ref (w 7), .ref (w 8), .ref (w 9), .ref (w 10), .ref (w 11), .ref (w 12), .ref (w 13), .int v.nu, .int v.th, .int v.it, .int (nI v.fi), .int (nI v.me), .int v.mp])), ((w 0), .inr (2, [.ref (w 1), .int (nI v.n)])), ((w 1), aB g 600 v.b), ((w 2), .inr (1, [.ref (w 3), .ref (w 4), .ref (w 5), .ref (w 6), .int (nI v.lo)])), ((w 3), aJ g 4800 v.rw), ((w 4), aB g 600 v.bg), ((w 5), aB g 600 v.wt), ((w 6), aB g 600 v.dp), ((w 7), aI g 200 v.tg), ((w 8), aI g 200 v.ca), ((w 9), aI g 200 v.fs), ((w 10), aI g 200 v.sc), ((w 11), aI g 75 v.fa), ((w 12), aI g 75 v.ma), ((w 13), aI g 75 v.co)] H := hP.sub [0, 1, 18, 2, 3, 4, 5, 6, 7, 8, 9, 10, 11, 12, 13, 14, 15, 16, 17] rfl
  have hD : va_D A [(mh, .inr (5, [.ref s0, .ref l0, .ref t0, .ref h0, .int 0, .int (nI (min jS 64)), .int (nI (min jL 64)), .int (nI mt), .int an, .int oa, .int wd])), (s0, aI g 64 sk), (l0, aI g 64 (fun _ => 0)), (t0, aI g 600 lt), (h0, .inr (3, [.ref (w 0), .ref (w 2), .ref (w 7), .ref (w 8), .ref (w 9), .ref (w 10), .ref (w 11), .ref (w 12), .ref (w 13), .int v.nu, .int v.th, .int v.it, .int (nI v.fi), .int (nI v.me), .int v.mp])), ((w 0), .inr (2, [.ref (w 1), .int (nI v.n)])), ((w 1), aB g 600 v.b), ((w 2), .inr (1, [.ref (w 3), .ref (w 4), .ref (w 5), .ref (w 6), .int (nI v.lo)])), ((w 3), aJ g 4800 v.rw), ((w 4), aB g 600 v.bg), ((w 5), aB g 600 v.wt), ((w 6), aB g 600 v.dp), ((w 7), aI g 200 v.tg), ((w 8), aI g 200 v.ca), ((w 9), aI g 200 v.fs), ((w 10), aI g 200 v.sc), ((w 11), aI g 75 v.fa), ((w 12), aI g 75 v.ma), ((w 13), aI g 75 v.co)] := hD.sub [0, 1, 18, 2, 3, 4, 5, 6, 7, 8, 9, 10, 11, 12, 13, 14, 15, 16, 17] (by decide) rfl
  refine lv_aload_n hx hb d_Machine_begin_52 rfl (lv_at hl 0 rfl) ?_
  refine va_get (D := g.1) (ci := 5) (v := .ref h0) (C := R_Machine) (T := F_Machine) (N := 11) hx hb hts in_Machine hown hK hP 0 rfl rfl 3 (by decide) (hts _ wd_147) (fun _ h9 => h9) rfl d_Machine_begin_53 ?_
  refine lv_iconst (v := 1) hx hb d_Machine_begin_56 (by decide) ?_
  refine lv_iload_n hx hb d_Machine_begin_57 rfl (lv_at hl 2 rfl) ?_
  refine tw_si (tw_runV (ws := [(mh, .inr (5, [.ref s0, .ref l0, .ref t0, .ref h0, .int 0, .int (nI (min jS 64)), .int (nI (min jL 64)), .int (nI mt), .int an, .int oa, .int wd])), (s0, aI g 64 sk), (l0, aI g 64 (fun _ => 0)), (t0, aI g 600 lt), (h0, .inr (3, [.ref (w 0), .ref (w 2), .ref (w 7), .ref (w 8), .ref (w 9), .ref (w 10), .ref (w 11), .ref (w 12), .ref (w 13), .int v.nu, .int v.th, .int v.it, .int (nI v.fi), .int (nI v.me), .int v.mp])), ((w 0), .inr (2, [.ref (w 1), .int (nI v.n)])), ((w 1), aB g 600 v.b), ((w 2), .inr (1, [.ref (w 3), .ref (w 4), .ref (w 5), .ref (w 6), .int (nI v.lo)])), ((w 3), aJ g 4800 v.rw), ((w 4), aB g 600 v.bg), ((w 5), aB g 600 v.wt), ((w 6), aB g 600 v.dp), ((w 7), aI g 200 v.tg), ((w 8), aI g 200 v.ca), ((w 9), aI g 200 v.fs), ((w 10), aI g 200 v.sc), ((w 11), aI g 75 v.fa), ((w 12), aI g 75 v.ma), ((w 13), aI g 75 v.co)]) (wc := [(h0, .inr (3, [.ref (w 0), .ref (w 2), .ref (w 7), .ref (w 8), .ref (w 9), .ref (w 10), .ref (w 11), .ref (w 12), .ref (w 13), .int v.nu, .int v.th, .int v.it, .int (nI v.fi), .int (nI v.me), .int v.mp])), ((w 0), .inr (2, [.ref (w 1), .int (nI v.n)])), ((w 1), aB g 600 v.b), ((w 2), .inr (1, [.ref (w 3), .ref (w 4), .ref (w 5), .ref (w 6), .int (nI v.lo)])), ((w 3), aJ g 4800 v.rw), ((w 4), aB g 600 v.bg), ((w 5), aB g 600 v.wt), ((w 6), aB g 600 v.dp), ((w 7), aI g 200 v.tg), ((w 8), aI g 200 v.ca), ((w 9), aI g 200 v.fs), ((w 10), aI g 200 v.sc), ((w 11), aI g 75 v.fa), ((w 12), aI g 75 v.ma), ((w 13), aI g 75 v.co)]) (As := [.int 1, .int k]) (rest := []) E hB hK hZ (s_Layout_memberAt l g H.size h0 w v 1 k hI) mc_Layout_memberAt mi_Layout_memberAt me_Layout_memberAt wd_768 hP hD hS hA [4, 5, 6, 7, 8, 9, 10, 11, 12, 13, 14, 15, 16, 17, 18] rfl (by decide) 0 rfl rfl rfl rfl rfl (by decide) rfl hl.1 rfl (Nat.le_of_ble_eq_true rfl) (by decide) d_Machine_begin_58) (fun r5 hr5 => ?_)
  refine lv_istore_n hx hb d_Machine_begin_61 rfl hl (by decide) rfl (fun ls hl => ?_)
  have hl : lv_has ls 9 [(3, .int r5), (0, .ref mh), (1, .ref h0), (2, .int k)] := hl
  refine lv_aload_n hx hb d_Machine_begin_62 rfl (lv_at hl 1 rfl) ?_
  refine va_get (D := g.1) (ci := 5) (v := .ref h0) (C := R_Machine) (T := F_Machine) (N := 11) hx hb hts in_Machine hown hK hP 0 rfl rfl 3 (by decide) (hts _ wd_147) (fun _ h9 => h9) rfl d_Machine_begin_63 ?_
  refine lv_iload_n hx hb d_Machine_begin_66 rfl (lv_at hl 0 rfl) ?_
  refine tw_si (tw_runV (ws := [(mh, .inr (5, [.ref s0, .ref l0, .ref t0, .ref h0, .int 0, .int (nI (min jS 64)), .int (nI (min jL 64)), .int (nI mt), .int an, .int oa, .int wd])), (s0, aI g 64 sk), (l0, aI g 64 (fun _ => 0)), (t0, aI g 600 lt), (h0, .inr (3, [.ref (w 0), .ref (w 2), .ref (w 7), .ref (w 8), .ref (w 9), .ref (w 10), .ref (w 11), .ref (w 12), .ref (w 13), .int v.nu, .int v.th, .int v.it, .int (nI v.fi), .int (nI v.me), .int v.mp])), ((w 0), .inr (2, [.ref (w 1), .int (nI v.n)])), ((w 1), aB g 600 v.b), ((w 2), .inr (1, [.ref (w 3), .ref (w 4), .ref (w 5), .ref (w 6), .int (nI v.lo)])), ((w 3), aJ g 4800 v.rw), ((w 4), aB g 600 v.bg), ((w 5), aB g 600 v.wt), ((w 6), aB g 600 v.dp), ((w 7), aI g 200 v.tg), ((w 8), aI g 200 v.ca), ((w 9), aI g 200 v.fs), ((w 10), aI g 200 v.sc), ((w 11), aI g 75 v.fa), ((w 12), aI g 75 v.ma), ((w 13), aI g 75 v.co)]) (wc := [(h0, .inr (3, [.ref (w 0), .ref (w 2), .ref (w 7), .ref (w 8), .ref (w 9), .ref (w 10), .ref (w 11), .ref (w 12), .ref (w 13), .int v.nu, .int v.th, .int v.it, .int (nI v.fi), .int (nI v.me), .int v.mp])), ((w 0), .inr (2, [.ref (w 1), .int (nI v.n)])), ((w 1), aB g 600 v.b), ((w 2), .inr (1, [.ref (w 3), .ref (w 4), .ref (w 5), .ref (w 6), .int (nI v.lo)])), ((w 3), aJ g 4800 v.rw), ((w 4), aB g 600 v.bg), ((w 5), aB g 600 v.wt), ((w 6), aB g 600 v.dp), ((w 7), aI g 200 v.tg), ((w 8), aI g 200 v.ca), ((w 9), aI g 200 v.fs), ((w 10), aI g 200 v.sc), ((w 11), aI g 75 v.fa), ((w 12), aI g 75 v.ma), ((w 13), aI g 75 v.co)]) (As := [.int r5]) (rest := []) E hB hK hZ (s_Layout_typeAt l g H.size h0 w v r5 hI) mc_Layout_typeAt mi_Layout_typeAt me_Layout_typeAt wd_769 hP hD hS hA [4, 5, 6, 7, 8, 9, 10, 11, 12, 13, 14, 15, 16, 17, 18] rfl (by decide) 0 rfl rfl rfl rfl rfl (by decide) rfl hl.1 rfl (Nat.le_of_ble_eq_true rfl) (by decide) d_Machine_begin_67) (fun r6 hr6 => ?_)
  refine lv_istore hx hb d_Machine_begin_70 hl (by decide) rfl (fun ls hl => ?_)
  have hl : lv_has ls 9 [(4, .int r6), (3, .int r5), (0, .ref mh), (1, .ref h0), (2, .int k)] := hl
  have hM : MI 0 (min jS 64) (min jL 64) mt wd sk := hM.start
  refine lv_aload_n hx hb d_Machine_begin_72 rfl (lv_at hl 2 rfl) ?_
  refine lv_aload_n hx hb d_Machine_begin_73 rfl (lv_at hl 2 rfl) ?_
  refine va_get (D := g.1) (ci := 5) (v := .ref h0) (C := R_Machine) (T := F_Machine) (N := 11) hx hb hts in_Machine hown hK hP 0 rfl rfl 3 (by decide) (hts _ wd_147) (fun _ h9 => h9) rfl d_Machine_begin_74 ?_
  refine lv_iload hx hb d_Machine_begin_77 (lv_at hl 0 rfl) ?_
  refine tw_si (tw_runV (ws := [(mh, .inr (5, [.ref s0, .ref l0, .ref t0, .ref h0, .int 0, .int (nI (min jS 64)), .int (nI (min jL 64)), .int (nI mt), .int an, .int oa, .int wd])), (s0, aI g 64 sk), (l0, aI g 64 (fun _ => 0)), (t0, aI g 600 lt), (h0, .inr (3, [.ref (w 0), .ref (w 2), .ref (w 7), .ref (w 8), .ref (w 9), .ref (w 10), .ref (w 11), .ref (w 12), .ref (w 13), .int v.nu, .int v.th, .int v.it, .int (nI v.fi), .int (nI v.me), .int v.mp])), ((w 0), .inr (2, [.ref (w 1), .int (nI v.n)])), ((w 1), aB g 600 v.b), ((w 2), .inr (1, [.ref (w 3), .ref (w 4), .ref (w 5), .ref (w 6), .int (nI v.lo)])), ((w 3), aJ g 4800 v.rw), ((w 4), aB g 600 v.bg), ((w 5), aB g 600 v.wt), ((w 6), aB g 600 v.dp), ((w 7), aI g 200 v.tg), ((w 8), aI g 200 v.ca), ((w 9), aI g 200 v.fs), ((w 10), aI g 200 v.sc), ((w 11), aI g 75 v.fa), ((w 12), aI g 75 v.ma), ((w 13), aI g 75 v.co)]) (wc := [(h0, .inr (3, [.ref (w 0), .ref (w 2), .ref (w 7), .ref (w 8), .ref (w 9), .ref (w 10), .ref (w 11), .ref (w 12), .ref (w 13), .int v.nu, .int v.th, .int v.it, .int (nI v.fi), .int (nI v.me), .int v.mp])), ((w 0), .inr (2, [.ref (w 1), .int (nI v.n)])), ((w 1), aB g 600 v.b), ((w 2), .inr (1, [.ref (w 3), .ref (w 4), .ref (w 5), .ref (w 6), .int (nI v.lo)])), ((w 3), aJ g 4800 v.rw), ((w 4), aB g 600 v.bg), ((w 5), aB g 600 v.wt), ((w 6), aB g 600 v.dp), ((w 7), aI g 200 v.tg), ((w 8), aI g 200 v.ca), ((w 9), aI g 200 v.fs), ((w 10), aI g 200 v.sc), ((w 11), aI g 75 v.fa), ((w 12), aI g 75 v.ma), ((w 13), aI g 75 v.co)]) (As := [.int r6]) (rest := [.ref mh]) E hB hK hZ (s_Layout_textFrom l g H.size h0 w v r6 hI) mc_Layout_textFrom mi_Layout_textFrom me_Layout_textFrom wd_770 hP hD hS hA [4, 5, 6, 7, 8, 9, 10, 11, 12, 13, 14, 15, 16, 17, 18] rfl (by decide) 0 rfl rfl rfl rfl rfl (by decide) rfl hl.1 rfl (Nat.le_of_ble_eq_true rfl) (by decide) d_Machine_begin_79) (fun r7 hr7 => ?_)
  refine lv_aload_n hx hb d_Machine_begin_82 rfl (lv_at hl 2 rfl) ?_
  refine va_get (D := g.1) (ci := 5) (v := .ref h0) (C := R_Machine) (T := F_Machine) (N := 11) hx hb hts in_Machine hown hK hP 0 rfl rfl 3 (by decide) (hts _ wd_147) (fun _ h9 => h9) rfl d_Machine_begin_83 ?_
  refine lv_iload hx hb d_Machine_begin_86 (lv_at hl 0 rfl) ?_
  refine tw_si (tw_runV (ws := [(mh, .inr (5, [.ref s0, .ref l0, .ref t0, .ref h0, .int 0, .int (nI (min jS 64)), .int (nI (min jL 64)), .int (nI mt), .int an, .int oa, .int wd])), (s0, aI g 64 sk), (l0, aI g 64 (fun _ => 0)), (t0, aI g 600 lt), (h0, .inr (3, [.ref (w 0), .ref (w 2), .ref (w 7), .ref (w 8), .ref (w 9), .ref (w 10), .ref (w 11), .ref (w 12), .ref (w 13), .int v.nu, .int v.th, .int v.it, .int (nI v.fi), .int (nI v.me), .int v.mp])), ((w 0), .inr (2, [.ref (w 1), .int (nI v.n)])), ((w 1), aB g 600 v.b), ((w 2), .inr (1, [.ref (w 3), .ref (w 4), .ref (w 5), .ref (w 6), .int (nI v.lo)])), ((w 3), aJ g 4800 v.rw), ((w 4), aB g 600 v.bg), ((w 5), aB g 600 v.wt), ((w 6), aB g 600 v.dp), ((w 7), aI g 200 v.tg), ((w 8), aI g 200 v.ca), ((w 9), aI g 200 v.fs), ((w 10), aI g 200 v.sc), ((w 11), aI g 75 v.fa), ((w 12), aI g 75 v.ma), ((w 13), aI g 75 v.co)]) (wc := [(h0, .inr (3, [.ref (w 0), .ref (w 2), .ref (w 7), .ref (w 8), .ref (w 9), .ref (w 10), .ref (w 11), .ref (w 12), .ref (w 13), .int v.nu, .int v.th, .int v.it, .int (nI v.fi), .int (nI v.me), .int v.mp])), ((w 0), .inr (2, [.ref (w 1), .int (nI v.n)])), ((w 1), aB g 600 v.b), ((w 2), .inr (1, [.ref (w 3), .ref (w 4), .ref (w 5), .ref (w 6), .int (nI v.lo)])), ((w 3), aJ g 4800 v.rw), ((w 4), aB g 600 v.bg), ((w 5), aB g 600 v.wt), ((w 6), aB g 600 v.dp), ((w 7), aI g 200 v.tg), ((w 8), aI g 200 v.ca), ((w 9), aI g 200 v.fs), ((w 10), aI g 200 v.sc), ((w 11), aI g 75 v.fa), ((w 12), aI g 75 v.ma), ((w 13), aI g 75 v.co)]) (As := [.int r6]) (rest := [.int r7, .ref mh]) E hB hK hZ (s_Layout_textEnd l g H.size h0 w v r6 hI) mc_Layout_textEnd mi_Layout_textEnd me_Layout_textEnd wd_771 hP hD hS hA [4, 5, 6, 7, 8, 9, 10, 11, 12, 13, 14, 15, 16, 17, 18] rfl (by decide) 0 rfl rfl rfl rfl rfl (by decide) rfl hl.1 rfl (Nat.le_of_ble_eq_true rfl) (by decide) d_Machine_begin_88) (fun r8 hr8 => ?_)
  refine tw_wv (wr := []) (tw_runV (ws := [(mh, .inr (5, [.ref s0, .ref l0, .ref t0, .ref h0, .int 0, .int (nI (min jS 64)), .int (nI (min jL 64)), .int (nI mt), .int an, .int oa, .int wd])), (s0, aI g 64 sk), (l0, aI g 64 (fun _ => 0)), (t0, aI g 600 lt), (h0, .inr (3, [.ref (w 0), .ref (w 2), .ref (w 7), .ref (w 8), .ref (w 9), .ref (w 10), .ref (w 11), .ref (w 12), .ref (w 13), .int v.nu, .int v.th, .int v.it, .int (nI v.fi), .int (nI v.me), .int v.mp])), ((w 0), .inr (2, [.ref (w 1), .int (nI v.n)])), ((w 1), aB g 600 v.b), ((w 2), .inr (1, [.ref (w 3), .ref (w 4), .ref (w 5), .ref (w 6), .int (nI v.lo)])), ((w 3), aJ g 4800 v.rw), ((w 4), aB g 600 v.bg), ((w 5), aB g 600 v.wt), ((w 6), aB g 600 v.dp), ((w 7), aI g 200 v.tg), ((w 8), aI g 200 v.ca), ((w 9), aI g 200 v.fs), ((w 10), aI g 200 v.sc), ((w 11), aI g 75 v.fa), ((w 12), aI g 75 v.ma), ((w 13), aI g 75 v.co)]) (wc := [(mh, .inr (5, [.ref s0, .ref l0, .ref t0, .ref h0, .int 0, .int (nI (min jS 64)), .int (nI (min jL 64)), .int (nI mt), .int an, .int oa, .int wd])), (s0, aI g 64 sk), (l0, aI g 64 (fun _ => 0)), (t0, aI g 600 lt), (h0, .inr (3, [.ref (w 0), .ref (w 2), .ref (w 7), .ref (w 8), .ref (w 9), .ref (w 10), .ref (w 11), .ref (w 12), .ref (w 13), .int v.nu, .int v.th, .int v.it, .int (nI v.fi), .int (nI v.me), .int v.mp])), ((w 0), .inr (2, [.ref (w 1), .int (nI v.n)])), ((w 1), aB g 600 v.b), ((w 2), .inr (1, [.ref (w 3), .ref (w 4), .ref (w 5), .ref (w 6), .int (nI v.lo)])), ((w 3), aJ g 4800 v.rw), ((w 4), aB g 600 v.bg), ((w 5), aB g 600 v.wt), ((w 6), aB g 600 v.dp), ((w 7), aI g 200 v.tg), ((w 8), aI g 200 v.ca), ((w 9), aI g 200 v.fs), ((w 10), aI g 200 v.sc), ((w 11), aI g 75 v.fa), ((w 12), aI g 75 v.ma), ((w 13), aI g 75 v.co)]) (As := [.int r7, .int r8]) (rest := []) E hB hK hZ (s_Machine_spreadTypes l g H.size mh s0 l0 t0 h0 w v 0 (min jS 64) (min jL 64) mt an oa wd sk (fun _ => 0) lt r7 r8  hM hI ) mc_Machine_spreadTypes mi_Machine_spreadTypes me_Machine_spreadTypes wd_772 hP hD hS hA [0, 1, 2, 3, 4, 5, 6, 7, 8, 9, 10, 11, 12, 13, 14, 15, 16, 17, 18] rfl (by decide) 0 rfl rfl rfl rfl rfl (by decide) rfl hl.1 rfl (Nat.le_of_ble_eq_true rfl) (by decide) d_Machine_begin_91) hP hD hS hA [0, 1, 2, 3, 4, 5, 6, 7, 8, 9, 10, 11, 12, 13, 14, 15, 16, 17, 18] [] rfl rfl (by decide) (by decide) (fun u10 H locs hr9 hP hD hS => ?_)
  try dsimp only at hr9
  have hP : va_P g.1 classes [(mh, .inr (5, [.ref s0, .ref l0, .ref t0, .ref h0, .int (nI u10.1), .int (nI u10.2.1), .int (nI u10.2.2.1), .int (nI u10.2.2.2.1), .int u10.2.2.2.2.1, .int u10.2.2.2.2.2.1, .int u10.2.2.2.2.2.2.1])), (s0, aI g 64 u10.2.2.2.2.2.2.2.1), (l0, aI g 64 u10.2.2.2.2.2.2.2.2.1), (t0, aI g 600 u10.2.2.2.2.2.2.2.2.2), (h0, .inr (3, [.ref (w 0), .ref (w 2), .ref (w 7), .ref (w 8), .ref (w 9), .ref (w 10), .ref (w 11), .ref (w 12), .ref (w 13), .int v.nu, .int v.th, .int v.it, .int (nI v.fi), .int (nI v.me), .int v.mp])), ((w 0), .inr (2, [.ref (w 1), .int (nI v.n)])), ((w 1), aB g 600 v.b), ((w 2), .inr (1, [.ref (w 3), .ref (w 4), .ref (w 5), .ref (w 6), .int (nI v.lo)])), ((w 3), aJ g 4800 v.rw), ((w 4), aB g 600 v.bg), ((w 5), aB g 600 v.wt), ((w 6), aB g 600 v.dp), ((w 7), aI g 200 v.tg), ((w 8), aI g 200 v.ca), ((w 9), aI g 200 v.fs), ((w 10), aI g 200 v.sc), ((w 11), aI g 75 v.fa), ((w 12), aI g 75 v.ma), ((w 13), aI g 75 v.co)] H := hP
  have hD : va_D A [(mh, .inr (5, [.ref s0, .ref l0, .ref t0, .ref h0, .int (nI u10.1), .int (nI u10.2.1), .int (nI u10.2.2.1), .int (nI u10.2.2.2.1), .int u10.2.2.2.2.1, .int u10.2.2.2.2.2.1, .int u10.2.2.2.2.2.2.1])), (s0, aI g 64 u10.2.2.2.2.2.2.2.1), (l0, aI g 64 u10.2.2.2.2.2.2.2.2.1), (t0, aI g 600 u10.2.2.2.2.2.2.2.2.2), (h0, .inr (3, [.ref (w 0), .ref (w 2), .ref (w 7), .ref (w 8), .ref (w 9), .ref (w 10), .ref (w 11), .ref (w 12), .ref (w 13), .int v.nu, .int v.th, .int v.it, .int (nI v.fi), .int (nI v.me), .int v.mp])), ((w 0), .inr (2, [.ref (w 1), .int (nI v.n)])), ((w 1), aB g 600 v.b), ((w 2), .inr (1, [.ref (w 3), .ref (w 4), .ref (w 5), .ref (w 6), .int (nI v.lo)])), ((w 3), aJ g 4800 v.rw), ((w 4), aB g 600 v.bg), ((w 5), aB g 600 v.wt), ((w 6), aB g 600 v.dp), ((w 7), aI g 200 v.tg), ((w 8), aI g 200 v.ca), ((w 9), aI g 200 v.fs), ((w 10), aI g 200 v.sc), ((w 11), aI g 75 v.fa), ((w 12), aI g 75 v.ma), ((w 13), aI g 75 v.co)] := hD
  have hP : va_P g.1 classes [(mh, .inr (5, [.ref s0, .ref l0, .ref t0, .ref h0, .int (nI u10.1), .int (nI u10.2.1), .int (nI u10.2.2.1), .int (nI u10.2.2.2.1), .int u10.2.2.2.2.1, .int u10.2.2.2.2.2.1, .int u10.2.2.2.2.2.2.1])), (s0, aI g 64 u10.2.2.2.2.2.2.2.1), (l0, aI g 64 u10.2.2.2.2.2.2.2.2.1), (t0, aI g 600 u10.2.2.2.2.2.2.2.2.2), (h0, .inr (3, [.ref (w 0), .ref (w 2), .ref (w 7), .ref (w 8), .ref (w 9), .ref (w 10), .ref (w 11), .ref (w 12), .ref (w 13), .int v.nu, .int v.th, .int v.it, .int (nI v.fi), .int (nI v.me), .int v.mp])), ((w 0), .inr (2, [.ref (w 1), .int (nI v.n)])), ((w 1), aB g 600 v.b), ((w 2), .inr (1, [.ref (w 3), .ref (w 4), .ref (w 5), .ref (w 6), .int (nI v.lo)])), ((w 3), aJ g 4800 v.rw), ((w 4), aB g 600 v.bg), ((w 5), aB g 600 v.wt), ((w 6), aB g 600 v.dp), ((w 7), aI g 200 v.tg), ((w 8), aI g 200 v.ca), ((w 9), aI g 200 v.fs), ((w 10), aI g 200 v.sc), ((w 11), aI g 75 v.fa), ((w 12), aI g 75 v.ma), ((w 13), aI g 75 v.co)] H := hP.sub [0, 1, 2, 3, 4, 5, 6, 7, 8, 9, 10, 11, 12, 13, 14, 15, 16, 17, 18] rfl
  have hD : va_D A [(mh, .inr (5, [.ref s0, .ref l0, .ref t0, .ref h0, .int (nI u10.1), .int (nI u10.2.1), .int (nI u10.2.2.1), .int (nI u10.2.2.2.1), .int u10.2.2.2.2.1, .int u10.2.2.2.2.2.1, .int u10.2.2.2.2.2.2.1])), (s0, aI g 64 u10.2.2.2.2.2.2.2.1), (l0, aI g 64 u10.2.2.2.2.2.2.2.2.1), (t0, aI g 600 u10.2.2.2.2.2.2.2.2.2), (h0, .inr (3, [.ref (w 0), .ref (w 2), .ref (w 7), .ref (w 8), .ref (w 9), .ref (w 10), .ref (w 11), .ref (w 12), .ref (w 13), .int v.nu, .int v.th, .int v.it, .int (nI v.fi), .int (nI v.me), .int v.mp])), ((w 0), .inr (2, [.ref (w 1), .int (nI v.n)])), ((w 1), aB g 600 v.b), ((w 2), .inr (1, [.ref (w 3), .ref (w 4), .ref (w 5), .ref (w 6), .int (nI v.lo)])), ((w 3), aJ g 4800 v.rw), ((w 4), aB g 600 v.bg), ((w 5), aB g 600 v.wt), ((w 6), aB g 600 v.dp), ((w 7), aI g 200 v.tg), ((w 8), aI g 200 v.ca), ((w 9), aI g 200 v.fs), ((w 10), aI g 200 v.sc), ((w 11), aI g 75 v.fa), ((w 12), aI g 75 v.ma), ((w 13), aI g 75 v.co)] := hD.sub [0, 1, 2, 3, 4, 5, 6, 7, 8, 9, 10, 11, 12, 13, 14, 15, 16, 17, 18] (by decide) rfl
  have hV10_0 := hr9
  refine lv_aload_n hx hb d_Machine_begin_94 rfl (lv_at hl 2 rfl) ?_
  refine lv_aload_n hx hb d_Machine_begin_95 rfl (lv_at hl 2 rfl) ?_
  refine va_get (D := g.1) (ci := 5) (v := .int u10.2.2.2.2.1) (C := R_Machine) (T := F_Machine) (N := 11) hx hb hts in_Machine hown hK hP 0 rfl rfl 8 (by decide) (hts _ wd_156) (fun _ h9 => h9) rfl d_Machine_begin_96 ?_
  refine va_put (D := g.1) (ci := 5) (v := .int u10.2.2.2.2.1) (ty := .int) (C := R_Machine) (T := F_Machine) (N := 11) hx hb hts in_Machine t_Machine t_Machine_ok n_Machine hown hK hP hD hS 0 rfl rfl 9 (by decide) (hts _ wd_157) (fun _ h9 => h9) rfl (t_Machine_ok 9 (by decide)) rfl rfl (Nat.le_of_ble_eq_true rfl) d_Machine_begin_99 (fun H locs hP hD hS => ?_)
  have hP : va_P g.1 classes [(mh, .inr (5, [.ref s0, .ref l0, .ref t0, .ref h0, .int (nI u10.1), .int (nI u10.2.1), .int (nI u10.2.2.1), .int (nI u10.2.2.2.1), .int u10.2.2.2.2.1, .int u10.2.2.2.2.1, .int u10.2.2.2.2.2.2.1])), (s0, aI g 64 u10.2.2.2.2.2.2.2.1), (l0, aI g 64 u10.2.2.2.2.2.2.2.2.1), (t0, aI g 600 u10.2.2.2.2.2.2.2.2.2), (h0, .inr (3, [.ref (w 0), .ref (w 2), .ref (w 7), .ref (w 8), .ref (w 9), .ref (w 10), .ref (w 11), .ref (w 12), .ref (w 13), .int v.nu, .int v.th, .int v.it, .int (nI v.fi), .int (nI v.me), .int v.mp])), ((w 0), .inr (2, [.ref (w 1), .int (nI v.n)])), ((w 1), aB g 600 v.b), ((w 2), .inr (1, [.ref (w 3), .ref (w 4), .ref (w 5), .ref (w 6), .int (nI v.lo)])), ((w 3), aJ g 4800 v.rw), ((w 4), aB g 600 v.bg), ((w 5), aB g 600 v.wt), ((w 6), aB g 600 v.dp), ((w 7), aI g 200 v.tg), ((w 8), aI g 200 v.ca), ((w 9), aI g 200 v.fs), ((w 10), aI g 200 v.sc), ((w 11), aI g 75 v.fa), ((w 12), aI g 75 v.ma), ((w 13), aI g 75 v.co)] H := hP
  have hD : va_D A [(mh, .inr (5, [.ref s0, .ref l0, .ref t0, .ref h0, .int (nI u10.1), .int (nI u10.2.1), .int (nI u10.2.2.1), .int (nI u10.2.2.2.1), .int u10.2.2.2.2.1, .int u10.2.2.2.2.1, .int u10.2.2.2.2.2.2.1])), (s0, aI g 64 u10.2.2.2.2.2.2.2.1), (l0, aI g 64 u10.2.2.2.2.2.2.2.2.1), (t0, aI g 600 u10.2.2.2.2.2.2.2.2.2), (h0, .inr (3, [.ref (w 0), .ref (w 2), .ref (w 7), .ref (w 8), .ref (w 9), .ref (w 10), .ref (w 11), .ref (w 12), .ref (w 13), .int v.nu, .int v.th, .int v.it, .int (nI v.fi), .int (nI v.me), .int v.mp])), ((w 0), .inr (2, [.ref (w 1), .int (nI v.n)])), ((w 1), aB g 600 v.b), ((w 2), .inr (1, [.ref (w 3), .ref (w 4), .ref (w 5), .ref (w 6), .int (nI v.lo)])), ((w 3), aJ g 4800 v.rw), ((w 4), aB g 600 v.bg), ((w 5), aB g 600 v.wt), ((w 6), aB g 600 v.dp), ((w 7), aI g 200 v.tg), ((w 8), aI g 200 v.ca), ((w 9), aI g 200 v.fs), ((w 10), aI g 200 v.sc), ((w 11), aI g 75 v.fa), ((w 12), aI g 75 v.ma), ((w 13), aI g 75 v.co)] := hD
  refine lv_aload_n hx hb d_Machine_begin_102 rfl (lv_at hl 2 rfl) ?_
  refine va_get (D := g.1) (ci := 5) (v := .ref h0) (C := R_Machine) (T := F_Machine) (N := 11) hx hb hts in_Machine hown hK hP 0 rfl rfl 3 (by decide) (hts _ wd_147) (fun _ h9 => h9) rfl d_Machine_begin_103 ?_
  refine va_getN (D := g.1) (ci := 3) (v := .ref (w 0)) (C := R_Layout) (T := F_Layout) (N := 15) hx hb hts in_Layout hown hK hP 4 rfl rfl 0 (by decide) (hts _ wd_245) (fun _ h9 => h9) rfl d_Machine_begin_106 ?_
  refine lv_iload_n hx hb d_Machine_begin_109 rfl (lv_at hl 1 rfl) ?_
  refine tw_si (tw_runV (ws := [(mh, .inr (5, [.ref s0, .ref l0, .ref t0, .ref h0, .int (nI u10.1), .int (nI u10.2.1), .int (nI u10.2.2.1), .int (nI u10.2.2.2.1), .int u10.2.2.2.2.1, .int u10.2.2.2.2.1, .int u10.2.2.2.2.2.2.1])), (s0, aI g 64 u10.2.2.2.2.2.2.2.1), (l0, aI g 64 u10.2.2.2.2.2.2.2.2.1), (t0, aI g 600 u10.2.2.2.2.2.2.2.2.2), (h0, .inr (3, [.ref (w 0), .ref (w 2), .ref (w 7), .ref (w 8), .ref (w 9), .ref (w 10), .ref (w 11), .ref (w 12), .ref (w 13), .int v.nu, .int v.th, .int v.it, .int (nI v.fi), .int (nI v.me), .int v.mp])), ((w 0), .inr (2, [.ref (w 1), .int (nI v.n)])), ((w 1), aB g 600 v.b), ((w 2), .inr (1, [.ref (w 3), .ref (w 4), .ref (w 5), .ref (w 6), .int (nI v.lo)])), ((w 3), aJ g 4800 v.rw), ((w 4), aB g 600 v.bg), ((w 5), aB g 600 v.wt), ((w 6), aB g 600 v.dp), ((w 7), aI g 200 v.tg), ((w 8), aI g 200 v.ca), ((w 9), aI g 200 v.fs), ((w 10), aI g 200 v.sc), ((w 11), aI g 75 v.fa), ((w 12), aI g 75 v.ma), ((w 13), aI g 75 v.co)]) (wc := [((w 0), .inr (2, [.ref (w 1), .int (nI v.n)])), ((w 1), aB g 600 v.b)]) (As := [.int r5]) (rest := []) E hB hK hZ (s_Image_twoAt l g H.size (w 0) (w 1) v.n v.b r5 hI.n) mc_Image_twoAt mi_Image_twoAt me_Image_twoAt wd_777 hP hD hS hA [5, 6] rfl (by decide) 0 rfl rfl rfl rfl rfl (by decide) rfl hl.1 rfl (Nat.le_of_ble_eq_true rfl) (by decide) d_Machine_begin_110) (fun r11 hr11 => ?_)
  refine lv_bipush (v := 8) hx hb d_Machine_begin_113 (by decide) ?_
  refine lv_iand hx hb d_Machine_begin_115 ?_
  obtain ⟨x12, ex12⟩ : ∃ z : Int32, r11 &&& 8 = z := ⟨_, rfl⟩
  refine tw_ri (e2 := x12) ex12 ?_
  refine lv_if_eq (tgt := 123) hx hb d_Machine_begin_116 (by decide) (fun h116 => ?_) (fun h116 => ?_)
  · refine lv_iconst (v := 0) hx hb d_Machine_begin_123 (by decide) ?_
    refine lv_istore hx hb d_Machine_begin_124 hl (by decide) rfl (fun ls hl => ?_)
    have hl : lv_has ls 9 [(5, .int 0), (4, .int r6), (3, .int r5), (0, .ref mh), (1, .ref h0), (2, .int k)] := hl
    refine lv_iload hx hb d_Machine_begin_126 (lv_at hl 0 rfl) ?_
    refine lv_if_eq (tgt := 135) hx hb d_Machine_begin_128 (by decide) (fun h128 => ?_) (fun h128 => ?_)
    · refine lv_iconst (v := 1) hx hb d_Machine_begin_135 (by decide) ?_
      refine lv_istore hx hb d_Machine_begin_136 hl (by decide) rfl (fun ls hl => ?_)
      have hl : lv_has ls 9 [(6, .int 1), (5, .int 0), (4, .int r6), (3, .int r5), (0, .ref mh), (1, .ref h0), (2, .int k)] := hl
      refine lv_iload hx hb d_Machine_begin_138 (lv_at hl 0 rfl) ?_
      refine lv_aload_n hx hb d_Machine_begin_140 rfl (lv_at hl 4 rfl) ?_
      refine va_get (D := g.1) (ci := 5) (v := .int (nI u10.2.2.1)) (C := R_Machine) (T := F_Machine) (N := 11) hx hb hts in_Machine hown hK hP 0 rfl rfl 6 (by decide) (hts _ wd_153) (fun _ h9 => h9) rfl d_Machine_begin_141 ?_
      refine lv_icmp_le (tgt := 150) hx hb d_Machine_begin_144 (by decide) (fun h144 => ?_) (fun h144 => ?_)
      · refine lv_iload hx hb d_Machine_begin_150 (lv_at hl 1 rfl) ?_
        refine lv_if_ne (tgt := 162) hx hb d_Machine_begin_152 (by decide) (fun h152 => ?_) (fun h152 => ?_)
        · first | exact absurd h152 (by decide) | exact absurd (by decide) h152
        · refine lv_aload_n hx hb d_Machine_begin_155 rfl (lv_at hl 4 rfl) ?_
          refine va_get (D := g.1) (ci := 5) (v := .ref l0) (C := R_Machine) (T := F_Machine) (N := 11) hx hb hts in_Machine hown hK hP 0 rfl rfl 1 (by decide) (hts _ wd_144) (fun _ h9 => h9) rfl d_Machine_begin_156 ?_
          refine lv_iconst (v := 0) hx hb d_Machine_begin_159 (by decide) ?_
          refine lv_iconst (v := 4) hx hb d_Machine_begin_160 (by decide) ?_
          refine va_iast hx hb hK hP hD hS 2 0 rfl rfl (vp_in_nI (n := 0) (by decide) (by decide)) d_Machine_begin_161 (fun H locs hP hD hS => ?_)
          have hP : va_P g.1 classes [(mh, .inr (5, [.ref s0, .ref l0, .ref t0, .ref h0, .int (nI u10.1), .int (nI u10.2.1), .int (nI u10.2.2.1), .int (nI u10.2.2.2.1), .int u10.2.2.2.2.1, .int u10.2.2.2.2.1, .int u10.2.2.2.2.2.2.1])), (s0, aI g 64 u10.2.2.2.2.2.2.2.1), (l0, aI g 64 (upd u10.2.2.2.2.2.2.2.2.1 (0 : Int32).toNatClampNeg 4)), (t0, aI g 600 u10.2.2.2.2.2.2.2.2.2), (h0, .inr (3, [.ref (w 0), .ref (w 2), .ref (w 7), .ref (w 8), .ref (w 9), .ref (w 10), .ref (w 11), .ref (w 12), .ref (w 13), .int v.nu, .int v.th, .int v.it, .int (nI v.fi), .int (nI v.me), .int v.mp])), ((w 0), .inr (2, [.ref (w 1), .int (nI v.n)])), ((w 1), aB g 600 v.b), ((w 2), .inr (1, [.ref (w 3), .ref (w 4), .ref (w 5), .ref (w 6), .int (nI v.lo)])), ((w 3), aJ g 4800 v.rw), ((w 4), aB g 600 v.bg), ((w 5), aB g 600 v.wt), ((w 6), aB g 600 v.dp), ((w 7), aI g 200 v.tg), ((w 8), aI g 200 v.ca), ((w 9), aI g 200 v.fs), ((w 10), aI g 200 v.sc), ((w 11), aI g 75 v.fa), ((w 12), aI g 75 v.ma), ((w 13), aI g 75 v.co)] H := hP
          have hD : va_D A [(mh, .inr (5, [.ref s0, .ref l0, .ref t0, .ref h0, .int (nI u10.1), .int (nI u10.2.1), .int (nI u10.2.2.1), .int (nI u10.2.2.2.1), .int u10.2.2.2.2.1, .int u10.2.2.2.2.1, .int u10.2.2.2.2.2.2.1])), (s0, aI g 64 u10.2.2.2.2.2.2.2.1), (l0, aI g 64 (upd u10.2.2.2.2.2.2.2.2.1 (0 : Int32).toNatClampNeg 4)), (t0, aI g 600 u10.2.2.2.2.2.2.2.2.2), (h0, .inr (3, [.ref (w 0), .ref (w 2), .ref (w 7), .ref (w 8), .ref (w 9), .ref (w 10), .ref (w 11), .ref (w 12), .ref (w 13), .int v.nu, .int v.th, .int v.it, .int (nI v.fi), .int (nI v.me), .int v.mp])), ((w 0), .inr (2, [.ref (w 1), .int (nI v.n)])), ((w 1), aB g 600 v.b), ((w 2), .inr (1, [.ref (w 3), .ref (w 4), .ref (w 5), .ref (w 6), .int (nI v.lo)])), ((w 3), aJ g 4800 v.rw), ((w 4), aB g 600 v.bg), ((w 5), aB g 600 v.wt), ((w 6), aB g 600 v.dp), ((w 7), aI g 200 v.tg), ((w 8), aI g 200 v.ca), ((w 9), aI g 200 v.fs), ((w 10), aI g 200 v.sc), ((w 11), aI g 75 v.fa), ((w 12), aI g 75 v.ma), ((w 13), aI g 75 v.co)] := hD
          refine lv_iconst (v := 0) hx hb d_Machine_begin_162 (by decide) ?_
          refine lv_istore hx hb d_Machine_begin_163 hl (by decide) rfl (fun ls hl => ?_)
          have hl : lv_has ls 9 [(7, .int 0), (6, .int 1), (5, .int 0), (4, .int r6), (3, .int r5), (0, .ref mh), (1, .ref h0), (2, .int k)] := hl
          have loop165 : ∀ (kq : Nat) (j : Nat) (nx : Nat) (de9 : Nat) (ms9 : Nat) (ml9 : Nat) (mt9 : Nat) (an9 : Int32) (oa9 : Int32) (wd9 : Int32) (sk9 : Nat → Int32) (lc9 : Nat → Int32) (lt9 : Nat → Int32) (ls : Array Slot) (H : Heap) (locs : List Loc) , 600 - j = kq → (hM9 : MI de9 ms9 ml9 mt9 wd9 sk9) → (hj : j ≤ 600) → (hnx : nx ≤ 64) → lv_has ls 9 [(7, .int (nI j)), (6, .int (nI nx)), (5, .int 0), (4, .int r6), (3, .int r5), (0, .ref mh), (1, .ref h0), (2, .int k)] → va_P g.1 classes [(mh, .inr (5, [.ref s0, .ref l0, .ref t0, .ref h0, .int (nI de9), .int (nI ms9), .int (nI ml9), .int (nI mt9), .int an9, .int oa9, .int wd9])), (s0, aI g 64 sk9), (l0, aI g 64 lc9), (t0, aI g 600 lt9), (h0, .inr (3, [.ref (w 0), .ref (w 2), .ref (w 7), .ref (w 8), .ref (w 9), .ref (w 10), .ref (w 11), .ref (w 12), .ref (w 13), .int v.nu, .int v.th, .int v.it, .int (nI v.fi), .int (nI v.me), .int v.mp])), ((w 0), .inr (2, [.ref (w 1), .int (nI v.n)])), ((w 1), aB g 600 v.b), ((w 2), .inr (1, [.ref (w 3), .ref (w 4), .ref (w 5), .ref (w 6), .int (nI v.lo)])), ((w 3), aJ g 4800 v.rw), ((w 4), aB g 600 v.bg), ((w 5), aB g 600 v.wt), ((w 6), aB g 600 v.dp), ((w 7), aI g 200 v.tg), ((w 8), aI g 200 v.ca), ((w 9), aI g 200 v.fs), ((w 10), aI g 200 v.sc), ((w 11), aI g 75 v.fa), ((w 12), aI g 75 v.ma), ((w 13), aI g 75 v.co)] H → va_D A [(mh, .inr (5, [.ref s0, .ref l0, .ref t0, .ref h0, .int (nI de9), .int (nI ms9), .int (nI ml9), .int (nI mt9), .int an9, .int oa9, .int wd9])), (s0, aI g 64 sk9), (l0, aI g 64 lc9), (t0, aI g 600 lt9), (h0, .inr (3, [.ref (w 0), .ref (w 2), .ref (w 7), .ref (w 8), .ref (w 9), .ref (w 10), .ref (w 11), .ref (w 12), .ref (w 13), .int v.nu, .int v.th, .int v.it, .int (nI v.fi), .int (nI v.me), .int v.mp])), ((w 0), .inr (2, [.ref (w 1), .int (nI v.n)])), ((w 1), aB g 600 v.b), ((w 2), .inr (1, [.ref (w 3), .ref (w 4), .ref (w 5), .ref (w 6), .int (nI v.lo)])), ((w 3), aJ g 4800 v.rw), ((w 4), aB g 600 v.bg), ((w 5), aB g 600 v.wt), ((w 6), aB g 600 v.dp), ((w 7), aI g 200 v.tg), ((w 8), aI g 200 v.ca), ((w 9), aI g 200 v.fs), ((w 10), aI g 200 v.sc), ((w 11), aI g 75 v.fa), ((w 12), aI g 75 v.ma), ((w 13), aI g 75 v.co)] → va_S A s.heap H locs → W p l e ({ frames := 3, cells := 0, slots := 0, locals := 65 }) s m [.ref mh, .ref h0, .int k].toArray below meth c H locs 0 0 (MQ below (tw_Qi g (fun r (u : Nat × Nat × Nat × Nat × Int32 × Int32 × Int32 × (Nat → Int32) × (Nat → Int32) × (Nat → Int32)) => True ∧ MI u.1 u.2.1 u.2.2.1 u.2.2.2.1 u.2.2.2.2.2.2.1 u.2.2.2.2.2.2.2.1) (fun u : Nat × Nat × Nat × Nat × Int32 × Int32 × Int32 × (Nat → Int32) × (Nat → Int32) × (Nat → Int32) => [(mh, .inr (5, [.ref s0, .ref l0, .ref t0, .ref h0, .int (nI u.1), .int (nI u.2.1), .int (nI u.2.2.1), .int (nI u.2.2.2.1), .int u.2.2.2.2.1, .int u.2.2.2.2.2.1, .int u.2.2.2.2.2.2.1])), (s0, aI g 64 u.2.2.2.2.2.2.2.1), (l0, aI g 64 u.2.2.2.2.2.2.2.2.1), (t0, aI g 600 u.2.2.2.2.2.2.2.2.2), (h0, .inr (3, [.ref (w 0), .ref (w 2), .ref (w 7), .ref (w 8), .ref (w 9), .ref (w 10), .ref (w 11), .ref (w 12), .ref (w 13), .int v.nu, .int v.th, .int v.it, .int (nI v.fi), .int (nI v.me), .int v.mp])), ((w 0), .inr (2, [.ref (w 1), .int (nI v.n)])), ((w 1), aB g 600 v.b), ((w 2), .inr (1, [.ref (w 3), .ref (w 4), .ref (w 5), .ref (w 6), .int (nI v.lo)])), ((w 3), aJ g 4800 v.rw), ((w 4), aB g 600 v.bg), ((w 5), aB g 600 v.wt), ((w 6), aB g 600 v.dp), ((w 7), aI g 200 v.tg), ((w 8), aI g 200 v.ca), ((w 9), aI g 200 v.fs), ((w 10), aI g 200 v.sc), ((w 11), aI g 75 v.fa), ((w 12), aI g 75 v.ma), ((w 13), aI g 75 v.co)]) A) [.ref mh, .ref h0, .int k].toArray s 0 0 A) (F0 m 165 ls []) := by
            intro kq
            induction kq using Nat.strongRecOn with
            | _ kq ih =>
              intro j nx de9 ms9 ml9 mt9 an9 oa9 wd9 sk9 lc9 lt9 ls H locs hk hM9 hj hnx hl hP hD hS
              refine lv_iload hx hb d_Machine_begin_165 (lv_at hl 0 rfl) ?_
              refine lv_aload_n hx hb d_Machine_begin_167 rfl (lv_at hl 5 rfl) ?_
              refine va_get (D := g.1) (ci := 5) (v := .int (nI mt9)) (C := R_Machine) (T := F_Machine) (N := 11) hx hb hts in_Machine hown hK hP 0 rfl rfl 7 (by decide) (hts _ wd_155) (fun _ h9 => h9) rfl d_Machine_begin_168 ?_
              refine lv_icmp_ge (tgt := 249) hx hb d_Machine_begin_171 (by decide) (fun h171 => ?_) (fun h171 => ?_)
              · refine lv_iconst (v := 0) hx hb d_Machine_begin_249 (by decide) ?_
                exact tw_iret E hS (de9, ms9, ml9, mt9, an9, oa9, wd9, sk9, lc9, lt9) ⟨trivial, hM9⟩ hP hD d_Machine_begin_250
              · have h171 := tn_nle h171 (by have := hM9.mt; omega) (by omega)
                have hmt6 := hM9.mt
                refine lv_aload_n hx hb d_Machine_begin_174 rfl (lv_at hl 5 rfl) ?_
                refine va_get (D := g.1) (ci := 5) (v := .ref t0) (C := R_Machine) (T := F_Machine) (N := 11) hx hb hts in_Machine hown hK hP 0 rfl rfl 2 (by decide) (hts _ wd_146) (fun _ h9 => h9) rfl d_Machine_begin_175 ?_
                refine lv_iload hx hb d_Machine_begin_178 (lv_at hl 0 rfl) ?_
                refine va_iald hx hb hK hP 3 0 rfl rfl (vp_in_nI (by omega) (by decide)) d_Machine_begin_180 ?_
                obtain ⟨x13, ex13⟩ : ∃ z : Int32, lt9 ((nI j).toNatClampNeg) = z := ⟨_, rfl⟩
                refine tw_ri (e2 := x13) ex13 ?_
                refine lv_bipush (v := 74) hx hb d_Machine_begin_181 (by decide) ?_
                refine lv_icmp_eq (tgt := 198) hx hb d_Machine_begin_183 (by decide) (fun h183 => ?_) (fun h183 => ?_)
                · refine lv_iconst (v := 2) hx hb d_Machine_begin_198 (by decide) ?_
                  refine lv_goto (tgt := 203) hx hb d_Machine_begin_199 (by decide) ?_
                  refine lv_istore hx hb d_Machine_begin_203 hl (by decide) rfl (fun ls hl => ?_)
                  have hl : lv_has ls 9 [(8, .int 2), (7, .int (nI j)), (6, .int (nI nx)), (5, .int 0), (4, .int r6), (3, .int r5), (0, .ref mh), (1, .ref h0), (2, .int k)] := hl
                  refine lv_iload hx hb d_Machine_begin_205 (lv_at hl 2 rfl) ?_
                  refine lv_iload hx hb d_Machine_begin_207 (lv_at hl 0 rfl) ?_
                  refine lv_iadd hx hb d_Machine_begin_209 ?_
                  refine tw_ri (e2 := nI (nx + 2)) (nI_add nx 2) ?_
                  refine lv_aload_n hx hb d_Machine_begin_210 rfl (lv_at hl 6 rfl) ?_
                  refine va_get (D := g.1) (ci := 5) (v := .int (nI ml9)) (C := R_Machine) (T := F_Machine) (N := 11) hx hb hts in_Machine hown hK hP 0 rfl rfl 6 (by decide) (hts _ wd_153) (fun _ h9 => h9) rfl d_Machine_begin_211 ?_
                  refine lv_icmp_le (tgt := 220) hx hb d_Machine_begin_214 (by decide) (fun h214 => ?_) (fun h214 => ?_)
                  · have h214 := tn_le h214 (by omega) (by have := hM9.ml; omega)
                    have hml6 := hM9.ml
                    refine lv_aload_n hx hb d_Machine_begin_220 rfl (lv_at hl 6 rfl) ?_
                    refine lv_iload hx hb d_Machine_begin_221 (lv_at hl 2 rfl) ?_
                    refine lv_aload_n hx hb d_Machine_begin_223 rfl (lv_at hl 6 rfl) ?_
                    refine va_get (D := g.1) (ci := 5) (v := .ref t0) (C := R_Machine) (T := F_Machine) (N := 11) hx hb hts in_Machine hown hK hP 0 rfl rfl 2 (by decide) (hts _ wd_146) (fun _ h9 => h9) rfl d_Machine_begin_224 ?_
                    refine lv_iload hx hb d_Machine_begin_227 (lv_at hl 1 rfl) ?_
                    refine va_iald hx hb hK hP 3 0 rfl rfl (vp_in_nI (by omega) (by decide)) d_Machine_begin_229 ?_
                    obtain ⟨x14, ex14⟩ : ∃ z : Int32, lt9 ((nI j).toNatClampNeg) = z := ⟨_, rfl⟩
                    refine tw_ri (e2 := x14) ex14 ?_
                    refine tw_si (tw_runS (ws := [(mh, .inr (5, [.ref s0, .ref l0, .ref t0, .ref h0, .int (nI de9), .int (nI ms9), .int (nI ml9), .int (nI mt9), .int an9, .int oa9, .int wd9])), (s0, aI g 64 sk9), (l0, aI g 64 lc9), (t0, aI g 600 lt9), (h0, .inr (3, [.ref (w 0), .ref (w 2), .ref (w 7), .ref (w 8), .ref (w 9), .ref (w 10), .ref (w 11), .ref (w 12), .ref (w 13), .int v.nu, .int v.th, .int v.it, .int (nI v.fi), .int (nI v.me), .int v.mp])), ((w 0), .inr (2, [.ref (w 1), .int (nI v.n)])), ((w 1), aB g 600 v.b), ((w 2), .inr (1, [.ref (w 3), .ref (w 4), .ref (w 5), .ref (w 6), .int (nI v.lo)])), ((w 3), aJ g 4800 v.rw), ((w 4), aB g 600 v.bg), ((w 5), aB g 600 v.wt), ((w 6), aB g 600 v.dp), ((w 7), aI g 200 v.tg), ((w 8), aI g 200 v.ca), ((w 9), aI g 200 v.fs), ((w 10), aI g 200 v.sc), ((w 11), aI g 75 v.fa), ((w 12), aI g 75 v.ma), ((w 13), aI g 75 v.co)]) (wc := []) (As := [.int x14]) (rest := [.int (nI nx), .ref mh]) E hB hK hZ (s_Grammar_kindOf l g H.size x14) mc_Grammar_kindOf ms_Grammar_kindOf wd_778 hP hD hS hA [] rfl (by decide) rfl rfl (by decide) rfl hl.1 rfl (Nat.le_of_ble_eq_true rfl) (by decide) d_Machine_begin_230) (fun r15 hr15 => ?_)
                    refine tw_wv (wr := [(h0, .inr (3, [.ref (w 0), .ref (w 2), .ref (w 7), .ref (w 8), .ref (w 9), .ref (w 10), .ref (w 11), .ref (w 12), .ref (w 13), .int v.nu, .int v.th, .int v.it, .int (nI v.fi), .int (nI v.me), .int v.mp])), ((w 0), .inr (2, [.ref (w 1), .int (nI v.n)])), ((w 1), aB g 600 v.b), ((w 2), .inr (1, [.ref (w 3), .ref (w 4), .ref (w 5), .ref (w 6), .int (nI v.lo)])), ((w 3), aJ g 4800 v.rw), ((w 4), aB g 600 v.bg), ((w 5), aB g 600 v.wt), ((w 6), aB g 600 v.dp), ((w 7), aI g 200 v.tg), ((w 8), aI g 200 v.ca), ((w 9), aI g 200 v.fs), ((w 10), aI g 200 v.sc), ((w 11), aI g 75 v.fa), ((w 12), aI g 75 v.ma), ((w 13), aI g 75 v.co)]) (tw_runV (ws := [(mh, .inr (5, [.ref s0, .ref l0, .ref t0, .ref h0, .int (nI de9), .int (nI ms9), .int (nI ml9), .int (nI mt9), .int an9, .int oa9, .int wd9])), (s0, aI g 64 sk9), (l0, aI g 64 lc9), (t0, aI g 600 lt9), (h0, .inr (3, [.ref (w 0), .ref (w 2), .ref (w 7), .ref (w 8), .ref (w 9), .ref (w 10), .ref (w 11), .ref (w 12), .ref (w 13), .int v.nu, .int v.th, .int v.it, .int (nI v.fi), .int (nI v.me), .int v.mp])), ((w 0), .inr (2, [.ref (w 1), .int (nI v.n)])), ((w 1), aB g 600 v.b), ((w 2), .inr (1, [.ref (w 3), .ref (w 4), .ref (w 5), .ref (w 6), .int (nI v.lo)])), ((w 3), aJ g 4800 v.rw), ((w 4), aB g 600 v.bg), ((w 5), aB g 600 v.wt), ((w 6), aB g 600 v.dp), ((w 7), aI g 200 v.tg), ((w 8), aI g 200 v.ca), ((w 9), aI g 200 v.fs), ((w 10), aI g 200 v.sc), ((w 11), aI g 75 v.fa), ((w 12), aI g 75 v.ma), ((w 13), aI g 75 v.co)]) (wc := [(mh, .inr (5, [.ref s0, .ref l0, .ref t0, .ref h0, .int (nI de9), .int (nI ms9), .int (nI ml9), .int (nI mt9), .int an9, .int oa9, .int wd9])), (s0, aI g 64 sk9), (l0, aI g 64 lc9), (t0, aI g 600 lt9)]) (As := [.int (nI nx), .int r15]) (rest := []) E hB hK hZ (s_Machine_setLocal l g H.size mh s0 l0 t0 (.ref h0) de9 ms9 ml9 mt9 an9 oa9 wd9 sk9 lc9 lt9  nx r15 hM9 (by omega)) mc_Machine_setLocal mi_Machine_setLocal me_Machine_setLocal wd_779 hP hD hS hA [0, 1, 2, 3] rfl (by decide) 0 rfl rfl rfl rfl rfl (by decide) rfl hl.1 rfl (Nat.le_of_ble_eq_true rfl) (by decide) d_Machine_begin_233) hP hD hS hA [0, 1, 2, 3] [4, 5, 6, 7, 8, 9, 10, 11, 12, 13, 14, 15, 16, 17, 18] rfl rfl (by decide) (by decide) (fun u17 H locs hr16 hP hD hS => ?_)
                    try dsimp only at hr16
                    have hP : va_P g.1 classes [(h0, .inr (3, [.ref (w 0), .ref (w 2), .ref (w 7), .ref (w 8), .ref (w 9), .ref (w 10), .ref (w 11), .ref (w 12), .ref (w 13), .int v.nu, .int v.th, .int v.it, .int (nI v.fi), .int (nI v.me), .int v.mp])), ((w 0), .inr (2, [.ref (w 1), .int (nI v.n)])), ((w 1), aB g 600 v.b), ((w 2), .inr (1, [.ref (w 3), .ref (w 4), .ref (w 5), .ref (w 6), .int (nI v.lo)])), ((w 3), aJ g 4800 v.rw), ((w 4), aB g 600 v.bg), ((w 5), aB g 600 v.wt), ((w 6), aB g 600 v.dp), ((w 7), aI g 200 v.tg), ((w 8), aI g 200 v.ca), ((w 9), aI g 200 v.fs), ((w 10), aI g 200 v.sc), ((w 11), aI g 75 v.fa), ((w 12), aI g 75 v.ma), ((w 13), aI g 75 v.co), (mh, .inr (5, [.ref s0, .ref l0, .ref t0, .ref h0, .int (nI u17.1), .int (nI u17.2.1), .int (nI u17.2.2.1), .int (nI u17.2.2.2.1), .int u17.2.2.2.2.1, .int u17.2.2.2.2.2.1, .int u17.2.2.2.2.2.2.1])), (s0, aI g 64 u17.2.2.2.2.2.2.2.1), (l0, aI g 64 u17.2.2.2.2.2.2.2.2.1), (t0, aI g 600 u17.2.2.2.2.2.2.2.2.2)] H := hP
                    have hD : va_D A [(h0, .inr (3, [.ref (w 0), .ref (w 2), .ref (w 7), .ref (w 8), .ref (w 9), .ref (w 10), .ref (w 11), .ref (w 12), .ref (w 13), .int v.nu, .int v.th, .int v.it, .int (nI v.fi), .int (nI v.me), .int v.mp])), ((w 0), .inr (2, [.ref (w 1), .int (nI v.n)])), ((w 1), aB g 600 v.b), ((w 2), .inr (1, [.ref (w 3), .ref (w 4), .ref (w 5), .ref (w 6), .int (nI v.lo)])), ((w 3), aJ g 4800 v.rw), ((w 4), aB g 600 v.bg), ((w 5), aB g 600 v.wt), ((w 6), aB g 600 v.dp), ((w 7), aI g 200 v.tg), ((w 8), aI g 200 v.ca), ((w 9), aI g 200 v.fs), ((w 10), aI g 200 v.sc), ((w 11), aI g 75 v.fa), ((w 12), aI g 75 v.ma), ((w 13), aI g 75 v.co), (mh, .inr (5, [.ref s0, .ref l0, .ref t0, .ref h0, .int (nI u17.1), .int (nI u17.2.1), .int (nI u17.2.2.1), .int (nI u17.2.2.2.1), .int u17.2.2.2.2.1, .int u17.2.2.2.2.2.1, .int u17.2.2.2.2.2.2.1])), (s0, aI g 64 u17.2.2.2.2.2.2.2.1), (l0, aI g 64 u17.2.2.2.2.2.2.2.2.1), (t0, aI g 600 u17.2.2.2.2.2.2.2.2.2)] := hD
                    have hP : va_P g.1 classes [(mh, .inr (5, [.ref s0, .ref l0, .ref t0, .ref h0, .int (nI u17.1), .int (nI u17.2.1), .int (nI u17.2.2.1), .int (nI u17.2.2.2.1), .int u17.2.2.2.2.1, .int u17.2.2.2.2.2.1, .int u17.2.2.2.2.2.2.1])), (s0, aI g 64 u17.2.2.2.2.2.2.2.1), (l0, aI g 64 u17.2.2.2.2.2.2.2.2.1), (t0, aI g 600 u17.2.2.2.2.2.2.2.2.2), (h0, .inr (3, [.ref (w 0), .ref (w 2), .ref (w 7), .ref (w 8), .ref (w 9), .ref (w 10), .ref (w 11), .ref (w 12), .ref (w 13), .int v.nu, .int v.th, .int v.it, .int (nI v.fi), .int (nI v.me), .int v.mp])), ((w 0), .inr (2, [.ref (w 1), .int (nI v.n)])), ((w 1), aB g 600 v.b), ((w 2), .inr (1, [.ref (w 3), .ref (w 4), .ref (w 5), .ref (w 6), .int (nI v.lo)])), ((w 3), aJ g 4800 v.rw), ((w 4), aB g 600 v.bg), ((w 5), aB g 600 v.wt), ((w 6), aB g 600 v.dp), ((w 7), aI g 200 v.tg), ((w 8), aI g 200 v.ca), ((w 9), aI g 200 v.fs), ((w 10), aI g 200 v.sc), ((w 11), aI g 75 v.fa), ((w 12), aI g 75 v.ma), ((w 13), aI g 75 v.co)] H := hP.sub [15, 16, 17, 18, 0, 1, 2, 3, 4, 5, 6, 7, 8, 9, 10, 11, 12, 13, 14] rfl
                    have hD : va_D A [(mh, .inr (5, [.ref s0, .ref l0, .ref t0, .ref h0, .int (nI u17.1), .int (nI u17.2.1), .int (nI u17.2.2.1), .int (nI u17.2.2.2.1), .int u17.2.2.2.2.1, .int u17.2.2.2.2.2.1, .int u17.2.2.2.2.2.2.1])), (s0, aI g 64 u17.2.2.2.2.2.2.2.1), (l0, aI g 64 u17.2.2.2.2.2.2.2.2.1), (t0, aI g 600 u17.2.2.2.2.2.2.2.2.2), (h0, .inr (3, [.ref (w 0), .ref (w 2), .ref (w 7), .ref (w 8), .ref (w 9), .ref (w 10), .ref (w 11), .ref (w 12), .ref (w 13), .int v.nu, .int v.th, .int v.it, .int (nI v.fi), .int (nI v.me), .int v.mp])), ((w 0), .inr (2, [.ref (w 1), .int (nI v.n)])), ((w 1), aB g 600 v.b), ((w 2), .inr (1, [.ref (w 3), .ref (w 4), .ref (w 5), .ref (w 6), .int (nI v.lo)])), ((w 3), aJ g 4800 v.rw), ((w 4), aB g 600 v.bg), ((w 5), aB g 600 v.wt), ((w 6), aB g 600 v.dp), ((w 7), aI g 200 v.tg), ((w 8), aI g 200 v.ca), ((w 9), aI g 200 v.fs), ((w 10), aI g 200 v.sc), ((w 11), aI g 75 v.fa), ((w 12), aI g 75 v.ma), ((w 13), aI g 75 v.co)] := hD.sub [15, 16, 17, 18, 0, 1, 2, 3, 4, 5, 6, 7, 8, 9, 10, 11, 12, 13, 14] (by decide) rfl
                    have hV17_0 := hr16
                    refine lv_iload hx hb d_Machine_begin_236 (lv_at hl 2 rfl) ?_
                    refine lv_iload hx hb d_Machine_begin_238 (lv_at hl 0 rfl) ?_
                    refine lv_iadd hx hb d_Machine_begin_240 ?_
                    refine tw_ri (e2 := nI (nx + 2)) (nI_add nx 2) ?_
                    refine lv_istore hx hb d_Machine_begin_241 hl (by decide) rfl (fun ls hl => ?_)
                    have hl : lv_has ls 9 [(6, .int (nI (nx + 2))), (8, .int 2), (7, .int (nI j)), (5, .int 0), (4, .int r6), (3, .int r5), (0, .ref mh), (1, .ref h0), (2, .int k)] := hl
                    refine lv_iinc (k := 2) (v := nI (j + 1)) hx hb d_Machine_begin_243 hl rfl ((nI_succ j).symm) (by decide) rfl (fun ls hl => ?_)
                    have hl : lv_has ls 9 [(7, .int (nI (j + 1))), (6, .int (nI (nx + 2))), (8, .int 2), (5, .int 0), (4, .int r6), (3, .int r5), (0, .ref mh), (1, .ref h0), (2, .int k)] := hl
                    refine lv_goto (tgt := 165) hx hb d_Machine_begin_246 (by decide) ?_
                    have hP : va_P g.1 classes [(mh, .inr (5, [.ref s0, .ref l0, .ref t0, .ref h0, .int (nI u17.1), .int (nI u17.2.1), .int (nI u17.2.2.1), .int (nI u17.2.2.2.1), .int u17.2.2.2.2.1, .int u17.2.2.2.2.2.1, .int u17.2.2.2.2.2.2.1])), (s0, aI g 64 u17.2.2.2.2.2.2.2.1), (l0, aI g 64 u17.2.2.2.2.2.2.2.2.1), (t0, aI g 600 u17.2.2.2.2.2.2.2.2.2), (h0, .inr (3, [.ref (w 0), .ref (w 2), .ref (w 7), .ref (w 8), .ref (w 9), .ref (w 10), .ref (w 11), .ref (w 12), .ref (w 13), .int v.nu, .int v.th, .int v.it, .int (nI v.fi), .int (nI v.me), .int v.mp])), ((w 0), .inr (2, [.ref (w 1), .int (nI v.n)])), ((w 1), aB g 600 v.b), ((w 2), .inr (1, [.ref (w 3), .ref (w 4), .ref (w 5), .ref (w 6), .int (nI v.lo)])), ((w 3), aJ g 4800 v.rw), ((w 4), aB g 600 v.bg), ((w 5), aB g 600 v.wt), ((w 6), aB g 600 v.dp), ((w 7), aI g 200 v.tg), ((w 8), aI g 200 v.ca), ((w 9), aI g 200 v.fs), ((w 10), aI g 200 v.sc), ((w 11), aI g 75 v.fa), ((w 12), aI g 75 v.ma), ((w 13), aI g 75 v.co)] H := hP.sub [0, 1, 2, 3, 4, 5, 6, 7, 8, 9, 10, 11, 12, 13, 14, 15, 16, 17, 18] rfl
                    have hD : va_D A [(mh, .inr (5, [.ref s0, .ref l0, .ref t0, .ref h0, .int (nI u17.1), .int (nI u17.2.1), .int (nI u17.2.2.1), .int (nI u17.2.2.2.1), .int u17.2.2.2.2.1, .int u17.2.2.2.2.2.1, .int u17.2.2.2.2.2.2.1])), (s0, aI g 64 u17.2.2.2.2.2.2.2.1), (l0, aI g 64 u17.2.2.2.2.2.2.2.2.1), (t0, aI g 600 u17.2.2.2.2.2.2.2.2.2), (h0, .inr (3, [.ref (w 0), .ref (w 2), .ref (w 7), .ref (w 8), .ref (w 9), .ref (w 10), .ref (w 11), .ref (w 12), .ref (w 13), .int v.nu, .int v.th, .int v.it, .int (nI v.fi), .int (nI v.me), .int v.mp])), ((w 0), .inr (2, [.ref (w 1), .int (nI v.n)])), ((w 1), aB g 600 v.b), ((w 2), .inr (1, [.ref (w 3), .ref (w 4), .ref (w 5), .ref (w 6), .int (nI v.lo)])), ((w 3), aJ g 4800 v.rw), ((w 4), aB g 600 v.bg), ((w 5), aB g 600 v.wt), ((w 6), aB g 600 v.dp), ((w 7), aI g 200 v.tg), ((w 8), aI g 200 v.ca), ((w 9), aI g 200 v.fs), ((w 10), aI g 200 v.sc), ((w 11), aI g 75 v.fa), ((w 12), aI g 75 v.ma), ((w 13), aI g 75 v.co)] := hD.sub [0, 1, 2, 3, 4, 5, 6, 7, 8, 9, 10, 11, 12, 13, 14, 15, 16, 17, 18] (by decide) rfl
                    exact ih _ (by omega) (j + 1) (nx + 2) u17.1 u17.2.1 u17.2.2.1 u17.2.2.2.1 u17.2.2.2.2.1 u17.2.2.2.2.2.1 u17.2.2.2.2.2.2.1 u17.2.2.2.2.2.2.2.1 u17.2.2.2.2.2.2.2.2.1 u17.2.2.2.2.2.2.2.2.2 ls _ _ rfl hV17_0 (by omega) (by omega) (lv_sub hl [0, 1, 3, 4, 5, 6, 7, 8] rfl) hP hD hS
                  · refine lv_bipush (v := 21) hx hb d_Machine_begin_217 (by decide) ?_
                    exact tw_iret E hS (de9, ms9, ml9, mt9, an9, oa9, wd9, sk9, lc9, lt9) ⟨trivial, hM9⟩ hP hD d_Machine_begin_219
                · refine lv_aload_n hx hb d_Machine_begin_186 rfl (lv_at hl 5 rfl) ?_
                  refine va_get (D := g.1) (ci := 5) (v := .ref t0) (C := R_Machine) (T := F_Machine) (N := 11) hx hb hts in_Machine hown hK hP 0 rfl rfl 2 (by decide) (hts _ wd_146) (fun _ h9 => h9) rfl d_Machine_begin_187 ?_
                  refine lv_iload hx hb d_Machine_begin_190 (lv_at hl 0 rfl) ?_
                  refine va_iald hx hb hK hP 3 0 rfl rfl (vp_in_nI (by omega) (by decide)) d_Machine_begin_192 ?_
                  obtain ⟨x18, ex18⟩ : ∃ z : Int32, lt9 ((nI j).toNatClampNeg) = z := ⟨_, rfl⟩
                  refine tw_ri (e2 := x18) ex18 ?_
                  refine lv_bipush (v := 68) hx hb d_Machine_begin_193 (by decide) ?_
                  refine lv_icmp_ne (tgt := 202) hx hb d_Machine_begin_195 (by decide) (fun h195 => ?_) (fun h195 => ?_)
                  · refine lv_iconst (v := 1) hx hb d_Machine_begin_202 (by decide) ?_
                    refine lv_istore hx hb d_Machine_begin_203 hl (by decide) rfl (fun ls hl => ?_)
                    have hl : lv_has ls 9 [(8, .int 1), (7, .int (nI j)), (6, .int (nI nx)), (5, .int 0), (4, .int r6), (3, .int r5), (0, .ref mh), (1, .ref h0), (2, .int k)] := hl
                    refine lv_iload hx hb d_Machine_begin_205 (lv_at hl 2 rfl) ?_
                    refine lv_iload hx hb d_Machine_begin_207 (lv_at hl 0 rfl) ?_
                    refine lv_iadd hx hb d_Machine_begin_209 ?_
                    refine tw_ri (e2 := nI (nx + 1)) (nI_add nx 1) ?_
                    refine lv_aload_n hx hb d_Machine_begin_210 rfl (lv_at hl 6 rfl) ?_
                    refine va_get (D := g.1) (ci := 5) (v := .int (nI ml9)) (C := R_Machine) (T := F_Machine) (N := 11) hx hb hts in_Machine hown hK hP 0 rfl rfl 6 (by decide) (hts _ wd_153) (fun _ h9 => h9) rfl d_Machine_begin_211 ?_
                    refine lv_icmp_le (tgt := 220) hx hb d_Machine_begin_214 (by decide) (fun h214 => ?_) (fun h214 => ?_)
                    · have h214 := tn_le h214 (by omega) (by have := hM9.ml; omega)
                      have hml6 := hM9.ml
                      refine lv_aload_n hx hb d_Machine_begin_220 rfl (lv_at hl 6 rfl) ?_
                      refine lv_iload hx hb d_Machine_begin_221 (lv_at hl 2 rfl) ?_
                      refine lv_aload_n hx hb d_Machine_begin_223 rfl (lv_at hl 6 rfl) ?_
                      refine va_get (D := g.1) (ci := 5) (v := .ref t0) (C := R_Machine) (T := F_Machine) (N := 11) hx hb hts in_Machine hown hK hP 0 rfl rfl 2 (by decide) (hts _ wd_146) (fun _ h9 => h9) rfl d_Machine_begin_224 ?_
                      refine lv_iload hx hb d_Machine_begin_227 (lv_at hl 1 rfl) ?_
                      refine va_iald hx hb hK hP 3 0 rfl rfl (vp_in_nI (by omega) (by decide)) d_Machine_begin_229 ?_
                      obtain ⟨x19, ex19⟩ : ∃ z : Int32, lt9 ((nI j).toNatClampNeg) = z := ⟨_, rfl⟩
                      refine tw_ri (e2 := x19) ex19 ?_
                      refine tw_si (tw_runS (ws := [(mh, .inr (5, [.ref s0, .ref l0, .ref t0, .ref h0, .int (nI de9), .int (nI ms9), .int (nI ml9), .int (nI mt9), .int an9, .int oa9, .int wd9])), (s0, aI g 64 sk9), (l0, aI g 64 lc9), (t0, aI g 600 lt9), (h0, .inr (3, [.ref (w 0), .ref (w 2), .ref (w 7), .ref (w 8), .ref (w 9), .ref (w 10), .ref (w 11), .ref (w 12), .ref (w 13), .int v.nu, .int v.th, .int v.it, .int (nI v.fi), .int (nI v.me), .int v.mp])), ((w 0), .inr (2, [.ref (w 1), .int (nI v.n)])), ((w 1), aB g 600 v.b), ((w 2), .inr (1, [.ref (w 3), .ref (w 4), .ref (w 5), .ref (w 6), .int (nI v.lo)])), ((w 3), aJ g 4800 v.rw), ((w 4), aB g 600 v.bg), ((w 5), aB g 600 v.wt), ((w 6), aB g 600 v.dp), ((w 7), aI g 200 v.tg), ((w 8), aI g 200 v.ca), ((w 9), aI g 200 v.fs), ((w 10), aI g 200 v.sc), ((w 11), aI g 75 v.fa), ((w 12), aI g 75 v.ma), ((w 13), aI g 75 v.co)]) (wc := []) (As := [.int x19]) (rest := [.int (nI nx), .ref mh]) E hB hK hZ (s_Grammar_kindOf l g H.size x19) mc_Grammar_kindOf ms_Grammar_kindOf wd_778 hP hD hS hA [] rfl (by decide) rfl rfl (by decide) rfl hl.1 rfl (Nat.le_of_ble_eq_true rfl) (by decide) d_Machine_begin_230) (fun r20 hr20 => ?_)
                      refine tw_wv (wr := [(h0, .inr (3, [.ref (w 0), .ref (w 2), .ref (w 7), .ref (w 8), .ref (w 9), .ref (w 10), .ref (w 11), .ref (w 12), .ref (w 13), .int v.nu, .int v.th, .int v.it, .int (nI v.fi), .int (nI v.me), .int v.mp])), ((w 0), .inr (2, [.ref (w 1), .int (nI v.n)])), ((w 1), aB g 600 v.b), ((w 2), .inr (1, [.ref (w 3), .ref (w 4), .ref (w 5), .ref (w 6), .int (nI v.lo)])), ((w 3), aJ g 4800 v.rw), ((w 4), aB g 600 v.bg), ((w 5), aB g 600 v.wt), ((w 6), aB g 600 v.dp), ((w 7), aI g 200 v.tg), ((w 8), aI g 200 v.ca), ((w 9), aI g 200 v.fs), ((w 10), aI g 200 v.sc), ((w 11), aI g 75 v.fa), ((w 12), aI g 75 v.ma), ((w 13), aI g 75 v.co)]) (tw_runV (ws := [(mh, .inr (5, [.ref s0, .ref l0, .ref t0, .ref h0, .int (nI de9), .int (nI ms9), .int (nI ml9), .int (nI mt9), .int an9, .int oa9, .int wd9])), (s0, aI g 64 sk9), (l0, aI g 64 lc9), (t0, aI g 600 lt9), (h0, .inr (3, [.ref (w 0), .ref (w 2), .ref (w 7), .ref (w 8), .ref (w 9), .ref (w 10), .ref (w 11), .ref (w 12), .ref (w 13), .int v.nu, .int v.th, .int v.it, .int (nI v.fi), .int (nI v.me), .int v.mp])), ((w 0), .inr (2, [.ref (w 1), .int (nI v.n)])), ((w 1), aB g 600 v.b), ((w 2), .inr (1, [.ref (w 3), .ref (w 4), .ref (w 5), .ref (w 6), .int (nI v.lo)])), ((w 3), aJ g 4800 v.rw), ((w 4), aB g 600 v.bg), ((w 5), aB g 600 v.wt), ((w 6), aB g 600 v.dp), ((w 7), aI g 200 v.tg), ((w 8), aI g 200 v.ca), ((w 9), aI g 200 v.fs), ((w 10), aI g 200 v.sc), ((w 11), aI g 75 v.fa), ((w 12), aI g 75 v.ma), ((w 13), aI g 75 v.co)]) (wc := [(mh, .inr (5, [.ref s0, .ref l0, .ref t0, .ref h0, .int (nI de9), .int (nI ms9), .int (nI ml9), .int (nI mt9), .int an9, .int oa9, .int wd9])), (s0, aI g 64 sk9), (l0, aI g 64 lc9), (t0, aI g 600 lt9)]) (As := [.int (nI nx), .int r20]) (rest := []) E hB hK hZ (s_Machine_setLocal l g H.size mh s0 l0 t0 (.ref h0) de9 ms9 ml9 mt9 an9 oa9 wd9 sk9 lc9 lt9  nx r20 hM9 (by omega)) mc_Machine_setLocal mi_Machine_setLocal me_Machine_setLocal wd_779 hP hD hS hA [0, 1, 2, 3] rfl (by decide) 0 rfl rfl rfl rfl rfl (by decide) rfl hl.1 rfl (Nat.le_of_ble_eq_true rfl) (by decide) d_Machine_begin_233) hP hD hS hA [0, 1, 2, 3] [4, 5, 6, 7, 8, 9, 10, 11, 12, 13, 14, 15, 16, 17, 18] rfl rfl (by decide) (by decide) (fun u22 H locs hr21 hP hD hS => ?_)
                      try dsimp only at hr21
                      have hP : va_P g.1 classes [(h0, .inr (3, [.ref (w 0), .ref (w 2), .ref (w 7), .ref (w 8), .ref (w 9), .ref (w 10), .ref (w 11), .ref (w 12), .ref (w 13), .int v.nu, .int v.th, .int v.it, .int (nI v.fi), .int (nI v.me), .int v.mp])), ((w 0), .inr (2, [.ref (w 1), .int (nI v.n)])), ((w 1), aB g 600 v.b), ((w 2), .inr (1, [.ref (w 3), .ref (w 4), .ref (w 5), .ref (w 6), .int (nI v.lo)])), ((w 3), aJ g 4800 v.rw), ((w 4), aB g 600 v.bg), ((w 5), aB g 600 v.wt), ((w 6), aB g 600 v.dp), ((w 7), aI g 200 v.tg), ((w 8), aI g 200 v.ca), ((w 9), aI g 200 v.fs), ((w 10), aI g 200 v.sc), ((w 11), aI g 75 v.fa), ((w 12), aI g 75 v.ma), ((w 13), aI g 75 v.co), (mh, .inr (5, [.ref s0, .ref l0, .ref t0, .ref h0, .int (nI u22.1), .int (nI u22.2.1), .int (nI u22.2.2.1), .int (nI u22.2.2.2.1), .int u22.2.2.2.2.1, .int u22.2.2.2.2.2.1, .int u22.2.2.2.2.2.2.1])), (s0, aI g 64 u22.2.2.2.2.2.2.2.1), (l0, aI g 64 u22.2.2.2.2.2.2.2.2.1), (t0, aI g 600 u22.2.2.2.2.2.2.2.2.2)] H := hP
                      have hD : va_D A [(h0, .inr (3, [.ref (w 0), .ref (w 2), .ref (w 7), .ref (w 8), .ref (w 9), .ref (w 10), .ref (w 11), .ref (w 12), .ref (w 13), .int v.nu, .int v.th, .int v.it, .int (nI v.fi), .int (nI v.me), .int v.mp])), ((w 0), .inr (2, [.ref (w 1), .int (nI v.n)])), ((w 1), aB g 600 v.b), ((w 2), .inr (1, [.ref (w 3), .ref (w 4), .ref (w 5), .ref (w 6), .int (nI v.lo)])), ((w 3), aJ g 4800 v.rw), ((w 4), aB g 600 v.bg), ((w 5), aB g 600 v.wt), ((w 6), aB g 600 v.dp), ((w 7), aI g 200 v.tg), ((w 8), aI g 200 v.ca), ((w 9), aI g 200 v.fs), ((w 10), aI g 200 v.sc), ((w 11), aI g 75 v.fa), ((w 12), aI g 75 v.ma), ((w 13), aI g 75 v.co), (mh, .inr (5, [.ref s0, .ref l0, .ref t0, .ref h0, .int (nI u22.1), .int (nI u22.2.1), .int (nI u22.2.2.1), .int (nI u22.2.2.2.1), .int u22.2.2.2.2.1, .int u22.2.2.2.2.2.1, .int u22.2.2.2.2.2.2.1])), (s0, aI g 64 u22.2.2.2.2.2.2.2.1), (l0, aI g 64 u22.2.2.2.2.2.2.2.2.1), (t0, aI g 600 u22.2.2.2.2.2.2.2.2.2)] := hD
                      have hP : va_P g.1 classes [(mh, .inr (5, [.ref s0, .ref l0, .ref t0, .ref h0, .int (nI u22.1), .int (nI u22.2.1), .int (nI u22.2.2.1), .int (nI u22.2.2.2.1), .int u22.2.2.2.2.1, .int u22.2.2.2.2.2.1, .int u22.2.2.2.2.2.2.1])), (s0, aI g 64 u22.2.2.2.2.2.2.2.1), (l0, aI g 64 u22.2.2.2.2.2.2.2.2.1), (t0, aI g 600 u22.2.2.2.2.2.2.2.2.2), (h0, .inr (3, [.ref (w 0), .ref (w 2), .ref (w 7), .ref (w 8), .ref (w 9), .ref (w 10), .ref (w 11), .ref (w 12), .ref (w 13), .int v.nu, .int v.th, .int v.it, .int (nI v.fi), .int (nI v.me), .int v.mp])), ((w 0), .inr (2, [.ref (w 1), .int (nI v.n)])), ((w 1), aB g 600 v.b), ((w 2), .inr (1, [.ref (w 3), .ref (w 4), .ref (w 5), .ref (w 6), .int (nI v.lo)])), ((w 3), aJ g 4800 v.rw), ((w 4), aB g 600 v.bg), ((w 5), aB g 600 v.wt), ((w 6), aB g 600 v.dp), ((w 7), aI g 200 v.tg), ((w 8), aI g 200 v.ca), ((w 9), aI g 200 v.fs), ((w 10), aI g 200 v.sc), ((w 11), aI g 75 v.fa), ((w 12), aI g 75 v.ma), ((w 13), aI g 75 v.co)] H := hP.sub [15, 16, 17, 18, 0, 1, 2, 3, 4, 5, 6, 7, 8, 9, 10, 11, 12, 13, 14] rfl
                      have hD : va_D A [(mh, .inr (5, [.ref s0, .ref l0, .ref t0, .ref h0, .int (nI u22.1), .int (nI u22.2.1), .int (nI u22.2.2.1), .int (nI u22.2.2.2.1), .int u22.2.2.2.2.1, .int u22.2.2.2.2.2.1, .int u22.2.2.2.2.2.2.1])), (s0, aI g 64 u22.2.2.2.2.2.2.2.1), (l0, aI g 64 u22.2.2.2.2.2.2.2.2.1), (t0, aI g 600 u22.2.2.2.2.2.2.2.2.2), (h0, .inr (3, [.ref (w 0), .ref (w 2), .ref (w 7), .ref (w 8), .ref (w 9), .ref (w 10), .ref (w 11), .ref (w 12), .ref (w 13), .int v.nu, .int v.th, .int v.it, .int (nI v.fi), .int (nI v.me), .int v.mp])), ((w 0), .inr (2, [.ref (w 1), .int (nI v.n)])), ((w 1), aB g 600 v.b), ((w 2), .inr (1, [.ref (w 3), .ref (w 4), .ref (w 5), .ref (w 6), .int (nI v.lo)])), ((w 3), aJ g 4800 v.rw), ((w 4), aB g 600 v.bg), ((w 5), aB g 600 v.wt), ((w 6), aB g 600 v.dp), ((w 7), aI g 200 v.tg), ((w 8), aI g 200 v.ca), ((w 9), aI g 200 v.fs), ((w 10), aI g 200 v.sc), ((w 11), aI g 75 v.fa), ((w 12), aI g 75 v.ma), ((w 13), aI g 75 v.co)] := hD.sub [15, 16, 17, 18, 0, 1, 2, 3, 4, 5, 6, 7, 8, 9, 10, 11, 12, 13, 14] (by decide) rfl
                      have hV22_0 := hr21
                      refine lv_iload hx hb d_Machine_begin_236 (lv_at hl 2 rfl) ?_
                      refine lv_iload hx hb d_Machine_begin_238 (lv_at hl 0 rfl) ?_
                      refine lv_iadd hx hb d_Machine_begin_240 ?_
                      refine tw_ri (e2 := nI (nx + 1)) (nI_add nx 1) ?_
                      refine lv_istore hx hb d_Machine_begin_241 hl (by decide) rfl (fun ls hl => ?_)
                      have hl : lv_has ls 9 [(6, .int (nI (nx + 1))), (8, .int 1), (7, .int (nI j)), (5, .int 0), (4, .int r6), (3, .int r5), (0, .ref mh), (1, .ref h0), (2, .int k)] := hl
                      refine lv_iinc (k := 2) (v := nI (j + 1)) hx hb d_Machine_begin_243 hl rfl ((nI_succ j).symm) (by decide) rfl (fun ls hl => ?_)
                      have hl : lv_has ls 9 [(7, .int (nI (j + 1))), (6, .int (nI (nx + 1))), (8, .int 1), (5, .int 0), (4, .int r6), (3, .int r5), (0, .ref mh), (1, .ref h0), (2, .int k)] := hl
                      refine lv_goto (tgt := 165) hx hb d_Machine_begin_246 (by decide) ?_
                      have hP : va_P g.1 classes [(mh, .inr (5, [.ref s0, .ref l0, .ref t0, .ref h0, .int (nI u22.1), .int (nI u22.2.1), .int (nI u22.2.2.1), .int (nI u22.2.2.2.1), .int u22.2.2.2.2.1, .int u22.2.2.2.2.2.1, .int u22.2.2.2.2.2.2.1])), (s0, aI g 64 u22.2.2.2.2.2.2.2.1), (l0, aI g 64 u22.2.2.2.2.2.2.2.2.1), (t0, aI g 600 u22.2.2.2.2.2.2.2.2.2), (h0, .inr (3, [.ref (w 0), .ref (w 2), .ref (w 7), .ref (w 8), .ref (w 9), .ref (w 10), .ref (w 11), .ref (w 12), .ref (w 13), .int v.nu, .int v.th, .int v.it, .int (nI v.fi), .int (nI v.me), .int v.mp])), ((w 0), .inr (2, [.ref (w 1), .int (nI v.n)])), ((w 1), aB g 600 v.b), ((w 2), .inr (1, [.ref (w 3), .ref (w 4), .ref (w 5), .ref (w 6), .int (nI v.lo)])), ((w 3), aJ g 4800 v.rw), ((w 4), aB g 600 v.bg), ((w 5), aB g 600 v.wt), ((w 6), aB g 600 v.dp), ((w 7), aI g 200 v.tg), ((w 8), aI g 200 v.ca), ((w 9), aI g 200 v.fs), ((w 10), aI g 200 v.sc), ((w 11), aI g 75 v.fa), ((w 12), aI g 75 v.ma), ((w 13), aI g 75 v.co)] H := hP.sub [0, 1, 2, 3, 4, 5, 6, 7, 8, 9, 10, 11, 12, 13, 14, 15, 16, 17, 18] rfl
                      have hD : va_D A [(mh, .inr (5, [.ref s0, .ref l0, .ref t0, .ref h0, .int (nI u22.1), .int (nI u22.2.1), .int (nI u22.2.2.1), .int (nI u22.2.2.2.1), .int u22.2.2.2.2.1, .int u22.2.2.2.2.2.1, .int u22.2.2.2.2.2.2.1])), (s0, aI g 64 u22.2.2.2.2.2.2.2.1), (l0, aI g 64 u22.2.2.2.2.2.2.2.2.1), (t0, aI g 600 u22.2.2.2.2.2.2.2.2.2), (h0, .inr (3, [.ref (w 0), .ref (w 2), .ref (w 7), .ref (w 8), .ref (w 9), .ref (w 10), .ref (w 11), .ref (w 12), .ref (w 13), .int v.nu, .int v.th, .int v.it, .int (nI v.fi), .int (nI v.me), .int v.mp])), ((w 0), .inr (2, [.ref (w 1), .int (nI v.n)])), ((w 1), aB g 600 v.b), ((w 2), .inr (1, [.ref (w 3), .ref (w 4), .ref (w 5), .ref (w 6), .int (nI v.lo)])), ((w 3), aJ g 4800 v.rw), ((w 4), aB g 600 v.bg), ((w 5), aB g 600 v.wt), ((w 6), aB g 600 v.dp), ((w 7), aI g 200 v.tg), ((w 8), aI g 200 v.ca), ((w 9), aI g 200 v.fs), ((w 10), aI g 200 v.sc), ((w 11), aI g 75 v.fa), ((w 12), aI g 75 v.ma), ((w 13), aI g 75 v.co)] := hD.sub [0, 1, 2, 3, 4, 5, 6, 7, 8, 9, 10, 11, 12, 13, 14, 15, 16, 17, 18] (by decide) rfl
                      exact ih _ (by omega) (j + 1) (nx + 1) u22.1 u22.2.1 u22.2.2.1 u22.2.2.2.1 u22.2.2.2.2.1 u22.2.2.2.2.2.1 u22.2.2.2.2.2.2.1 u22.2.2.2.2.2.2.2.1 u22.2.2.2.2.2.2.2.2.1 u22.2.2.2.2.2.2.2.2.2 ls _ _ rfl hV22_0 (by omega) (by omega) (lv_sub hl [0, 1, 3, 4, 5, 6, 7, 8] rfl) hP hD hS
                    · refine lv_bipush (v := 21) hx hb d_Machine_begin_217 (by decide) ?_
                      exact tw_iret E hS (de9, ms9, ml9, mt9, an9, oa9, wd9, sk9, lc9, lt9) ⟨trivial, hM9⟩ hP hD d_Machine_begin_219
                  · refine lv_iconst (v := 2) hx hb d_Machine_begin_198 (by decide) ?_
                    refine lv_goto (tgt := 203) hx hb d_Machine_begin_199 (by decide) ?_
                    refine lv_istore hx hb d_Machine_begin_203 hl (by decide) rfl (fun ls hl => ?_)
                    have hl : lv_has ls 9 [(8, .int 2), (7, .int (nI j)), (6, .int (nI nx)), (5, .int 0), (4, .int r6), (3, .int r5), (0, .ref mh), (1, .ref h0), (2, .int k)] := hl
                    refine lv_iload hx hb d_Machine_begin_205 (lv_at hl 2 rfl) ?_
                    refine lv_iload hx hb d_Machine_begin_207 (lv_at hl 0 rfl) ?_
                    refine lv_iadd hx hb d_Machine_begin_209 ?_
                    refine tw_ri (e2 := nI (nx + 2)) (nI_add nx 2) ?_
                    refine lv_aload_n hx hb d_Machine_begin_210 rfl (lv_at hl 6 rfl) ?_
                    refine va_get (D := g.1) (ci := 5) (v := .int (nI ml9)) (C := R_Machine) (T := F_Machine) (N := 11) hx hb hts in_Machine hown hK hP 0 rfl rfl 6 (by decide) (hts _ wd_153) (fun _ h9 => h9) rfl d_Machine_begin_211 ?_
                    refine lv_icmp_le (tgt := 220) hx hb d_Machine_begin_214 (by decide) (fun h214 => ?_) (fun h214 => ?_)
                    · have h214 := tn_le h214 (by omega) (by have := hM9.ml; omega)
                      have hml6 := hM9.ml
                      refine lv_aload_n hx hb d_Machine_begin_220 rfl (lv_at hl 6 rfl) ?_
                      refine lv_iload hx hb d_Machine_begin_221 (lv_at hl 2 rfl) ?_
                      refine lv_aload_n hx hb d_Machine_begin_223 rfl (lv_at hl 6 rfl) ?_
                      refine va_get (D := g.1) (ci := 5) (v := .ref t0) (C := R_Machine) (T := F_Machine) (N := 11) hx hb hts in_Machine hown hK hP 0 rfl rfl 2 (by decide) (hts _ wd_146) (fun _ h9 => h9) rfl d_Machine_begin_224 ?_
                      refine lv_iload hx hb d_Machine_begin_227 (lv_at hl 1 rfl) ?_
                      refine va_iald hx hb hK hP 3 0 rfl rfl (vp_in_nI (by omega) (by decide)) d_Machine_begin_229 ?_
                      obtain ⟨x23, ex23⟩ : ∃ z : Int32, lt9 ((nI j).toNatClampNeg) = z := ⟨_, rfl⟩
                      refine tw_ri (e2 := x23) ex23 ?_
                      refine tw_si (tw_runS (ws := [(mh, .inr (5, [.ref s0, .ref l0, .ref t0, .ref h0, .int (nI de9), .int (nI ms9), .int (nI ml9), .int (nI mt9), .int an9, .int oa9, .int wd9])), (s0, aI g 64 sk9), (l0, aI g 64 lc9), (t0, aI g 600 lt9), (h0, .inr (3, [.ref (w 0), .ref (w 2), .ref (w 7), .ref (w 8), .ref (w 9), .ref (w 10), .ref (w 11), .ref (w 12), .ref (w 13), .int v.nu, .int v.th, .int v.it, .int (nI v.fi), .int (nI v.me), .int v.mp])), ((w 0), .inr (2, [.ref (w 1), .int (nI v.n)])), ((w 1), aB g 600 v.b), ((w 2), .inr (1, [.ref (w 3), .ref (w 4), .ref (w 5), .ref (w 6), .int (nI v.lo)])), ((w 3), aJ g 4800 v.rw), ((w 4), aB g 600 v.bg), ((w 5), aB g 600 v.wt), ((w 6), aB g 600 v.dp), ((w 7), aI g 200 v.tg), ((w 8), aI g 200 v.ca), ((w 9), aI g 200 v.fs), ((w 10), aI g 200 v.sc), ((w 11), aI g 75 v.fa), ((w 12), aI g 75 v.ma), ((w 13), aI g 75 v.co)]) (wc := []) (As := [.int x23]) (rest := [.int (nI nx), .ref mh]) E hB hK hZ (s_Grammar_kindOf l g H.size x23) mc_Grammar_kindOf ms_Grammar_kindOf wd_778 hP hD hS hA [] rfl (by decide) rfl rfl (by decide) rfl hl.1 rfl (Nat.le_of_ble_eq_true rfl) (by decide) d_Machine_begin_230) (fun r24 hr24 => ?_)
                      refine tw_wv (wr := [(h0, .inr (3, [.ref (w 0), .ref (w 2), .ref (w 7), .ref (w 8), .ref (w 9), .ref (w 10), .ref (w 11), .ref (w 12), .ref (w 13), .int v.nu, .int v.th, .int v.it, .int (nI v.fi), .int (nI v.me), .int v.mp])), ((w 0), .inr (2, [.ref (w 1), .int (nI v.n)])), ((w 1), aB g 600 v.b), ((w 2), .inr (1, [.ref (w 3), .ref (w 4), .ref (w 5), .ref (w 6), .int (nI v.lo)])), ((w 3), aJ g 4800 v.rw), ((w 4), aB g 600 v.bg), ((w 5), aB g 600 v.wt), ((w 6), aB g 600 v.dp), ((w 7), aI g 200 v.tg), ((w 8), aI g 200 v.ca), ((w 9), aI g 200 v.fs), ((w 10), aI g 200 v.sc), ((w 11), aI g 75 v.fa), ((w 12), aI g 75 v.ma), ((w 13), aI g 75 v.co)]) (tw_runV (ws := [(mh, .inr (5, [.ref s0, .ref l0, .ref t0, .ref h0, .int (nI de9), .int (nI ms9), .int (nI ml9), .int (nI mt9), .int an9, .int oa9, .int wd9])), (s0, aI g 64 sk9), (l0, aI g 64 lc9), (t0, aI g 600 lt9), (h0, .inr (3, [.ref (w 0), .ref (w 2), .ref (w 7), .ref (w 8), .ref (w 9), .ref (w 10), .ref (w 11), .ref (w 12), .ref (w 13), .int v.nu, .int v.th, .int v.it, .int (nI v.fi), .int (nI v.me), .int v.mp])), ((w 0), .inr (2, [.ref (w 1), .int (nI v.n)])), ((w 1), aB g 600 v.b), ((w 2), .inr (1, [.ref (w 3), .ref (w 4), .ref (w 5), .ref (w 6), .int (nI v.lo)])), ((w 3), aJ g 4800 v.rw), ((w 4), aB g 600 v.bg), ((w 5), aB g 600 v.wt), ((w 6), aB g 600 v.dp), ((w 7), aI g 200 v.tg), ((w 8), aI g 200 v.ca), ((w 9), aI g 200 v.fs), ((w 10), aI g 200 v.sc), ((w 11), aI g 75 v.fa), ((w 12), aI g 75 v.ma), ((w 13), aI g 75 v.co)]) (wc := [(mh, .inr (5, [.ref s0, .ref l0, .ref t0, .ref h0, .int (nI de9), .int (nI ms9), .int (nI ml9), .int (nI mt9), .int an9, .int oa9, .int wd9])), (s0, aI g 64 sk9), (l0, aI g 64 lc9), (t0, aI g 600 lt9)]) (As := [.int (nI nx), .int r24]) (rest := []) E hB hK hZ (s_Machine_setLocal l g H.size mh s0 l0 t0 (.ref h0) de9 ms9 ml9 mt9 an9 oa9 wd9 sk9 lc9 lt9  nx r24 hM9 (by omega)) mc_Machine_setLocal mi_Machine_setLocal me_Machine_setLocal wd_779 hP hD hS hA [0, 1, 2, 3] rfl (by decide) 0 rfl rfl rfl rfl rfl (by decide) rfl hl.1 rfl (Nat.le_of_ble_eq_true rfl) (by decide) d_Machine_begin_233) hP hD hS hA [0, 1, 2, 3] [4, 5, 6, 7, 8, 9, 10, 11, 12, 13, 14, 15, 16, 17, 18] rfl rfl (by decide) (by decide) (fun u26 H locs hr25 hP hD hS => ?_)
                      try dsimp only at hr25
                      have hP : va_P g.1 classes [(h0, .inr (3, [.ref (w 0), .ref (w 2), .ref (w 7), .ref (w 8), .ref (w 9), .ref (w 10), .ref (w 11), .ref (w 12), .ref (w 13), .int v.nu, .int v.th, .int v.it, .int (nI v.fi), .int (nI v.me), .int v.mp])), ((w 0), .inr (2, [.ref (w 1), .int (nI v.n)])), ((w 1), aB g 600 v.b), ((w 2), .inr (1, [.ref (w 3), .ref (w 4), .ref (w 5), .ref (w 6), .int (nI v.lo)])), ((w 3), aJ g 4800 v.rw), ((w 4), aB g 600 v.bg), ((w 5), aB g 600 v.wt), ((w 6), aB g 600 v.dp), ((w 7), aI g 200 v.tg), ((w 8), aI g 200 v.ca), ((w 9), aI g 200 v.fs), ((w 10), aI g 200 v.sc), ((w 11), aI g 75 v.fa), ((w 12), aI g 75 v.ma), ((w 13), aI g 75 v.co), (mh, .inr (5, [.ref s0, .ref l0, .ref t0, .ref h0, .int (nI u26.1), .int (nI u26.2.1), .int (nI u26.2.2.1), .int (nI u26.2.2.2.1), .int u26.2.2.2.2.1, .int u26.2.2.2.2.2.1, .int u26.2.2.2.2.2.2.1])), (s0, aI g 64 u26.2.2.2.2.2.2.2.1), (l0, aI g 64 u26.2.2.2.2.2.2.2.2.1), (t0, aI g 600 u26.2.2.2.2.2.2.2.2.2)] H := hP
                      have hD : va_D A [(h0, .inr (3, [.ref (w 0), .ref (w 2), .ref (w 7), .ref (w 8), .ref (w 9), .ref (w 10), .ref (w 11), .ref (w 12), .ref (w 13), .int v.nu, .int v.th, .int v.it, .int (nI v.fi), .int (nI v.me), .int v.mp])), ((w 0), .inr (2, [.ref (w 1), .int (nI v.n)])), ((w 1), aB g 600 v.b), ((w 2), .inr (1, [.ref (w 3), .ref (w 4), .ref (w 5), .ref (w 6), .int (nI v.lo)])), ((w 3), aJ g 4800 v.rw), ((w 4), aB g 600 v.bg), ((w 5), aB g 600 v.wt), ((w 6), aB g 600 v.dp), ((w 7), aI g 200 v.tg), ((w 8), aI g 200 v.ca), ((w 9), aI g 200 v.fs), ((w 10), aI g 200 v.sc), ((w 11), aI g 75 v.fa), ((w 12), aI g 75 v.ma), ((w 13), aI g 75 v.co), (mh, .inr (5, [.ref s0, .ref l0, .ref t0, .ref h0, .int (nI u26.1), .int (nI u26.2.1), .int (nI u26.2.2.1), .int (nI u26.2.2.2.1), .int u26.2.2.2.2.1, .int u26.2.2.2.2.2.1, .int u26.2.2.2.2.2.2.1])), (s0, aI g 64 u26.2.2.2.2.2.2.2.1), (l0, aI g 64 u26.2.2.2.2.2.2.2.2.1), (t0, aI g 600 u26.2.2.2.2.2.2.2.2.2)] := hD
                      have hP : va_P g.1 classes [(mh, .inr (5, [.ref s0, .ref l0, .ref t0, .ref h0, .int (nI u26.1), .int (nI u26.2.1), .int (nI u26.2.2.1), .int (nI u26.2.2.2.1), .int u26.2.2.2.2.1, .int u26.2.2.2.2.2.1, .int u26.2.2.2.2.2.2.1])), (s0, aI g 64 u26.2.2.2.2.2.2.2.1), (l0, aI g 64 u26.2.2.2.2.2.2.2.2.1), (t0, aI g 600 u26.2.2.2.2.2.2.2.2.2), (h0, .inr (3, [.ref (w 0), .ref (w 2), .ref (w 7), .ref (w 8), .ref (w 9), .ref (w 10), .ref (w 11), .ref (w 12), .ref (w 13), .int v.nu, .int v.th, .int v.it, .int (nI v.fi), .int (nI v.me), .int v.mp])), ((w 0), .inr (2, [.ref (w 1), .int (nI v.n)])), ((w 1), aB g 600 v.b), ((w 2), .inr (1, [.ref (w 3), .ref (w 4), .ref (w 5), .ref (w 6), .int (nI v.lo)])), ((w 3), aJ g 4800 v.rw), ((w 4), aB g 600 v.bg), ((w 5), aB g 600 v.wt), ((w 6), aB g 600 v.dp), ((w 7), aI g 200 v.tg), ((w 8), aI g 200 v.ca), ((w 9), aI g 200 v.fs), ((w 10), aI g 200 v.sc), ((w 11), aI g 75 v.fa), ((w 12), aI g 75 v.ma), ((w 13), aI g 75 v.co)] H := hP.sub [15, 16, 17, 18, 0, 1, 2, 3, 4, 5, 6, 7, 8, 9, 10, 11, 12, 13, 14] rfl
                      have hD : va_D A [(mh, .inr (5, [.ref s0, .ref l0, .ref t0, .ref h0, .int (nI u26.1), .int (nI u26.2.1), .int (nI u26.2.2.1), .int (nI u26.2.2.2.1), .int u26.2.2.2.2.1, .int u26.2.2.2.2.2.1, .int u26.2.2.2.2.2.2.1])), (s0, aI g 64 u26.2.2.2.2.2.2.2.1), (l0, aI g 64 u26.2.2.2.2.2.2.2.2.1), (t0, aI g 600 u26.2.2.2.2.2.2.2.2.2), (h0, .inr (3, [.ref (w 0), .ref (w 2), .ref (w 7), .ref (w 8), .ref (w 9), .ref (w 10), .ref (w 11), .ref (w 12), .ref (w 13), .int v.nu, .int v.th, .int v.it, .int (nI v.fi), .int (nI v.me), .int v.mp])), ((w 0), .inr (2, [.ref (w 1), .int (nI v.n)])), ((w 1), aB g 600 v.b), ((w 2), .inr (1, [.ref (w 3), .ref (w 4), .ref (w 5), .ref (w 6), .int (nI v.lo)])), ((w 3), aJ g 4800 v.rw), ((w 4), aB g 600 v.bg), ((w 5), aB g 600 v.wt), ((w 6), aB g 600 v.dp), ((w 7), aI g 200 v.tg), ((w 8), aI g 200 v.ca), ((w 9), aI g 200 v.fs), ((w 10), aI g 200 v.sc), ((w 11), aI g 75 v.fa), ((w 12), aI g 75 v.ma), ((w 13), aI g 75 v.co)] := hD.sub [15, 16, 17, 18, 0, 1, 2, 3, 4, 5, 6, 7, 8, 9, 10, 11, 12, 13, 14] (by decide) rfl
                      have hV26_0 := hr25
                      refine lv_iload hx hb d_Machine_begin_236 (lv_at hl 2 rfl) ?_
                      refine lv_iload hx hb d_Machine_begin_238 (lv_at hl 0 rfl) ?_
                      refine lv_iadd hx hb d_Machine_begin_240 ?_
                      refine tw_ri (e2 := nI (nx + 2)) (nI_add nx 2) ?_
                      refine lv_istore hx hb d_Machine_begin_241 hl (by decide) rfl (fun ls hl => ?_)
                      have hl : lv_has ls 9 [(6, .int (nI (nx + 2))), (8, .int 2), (7, .int (nI j)), (5, .int 0), (4, .int r6), (3, .int r5), (0, .ref mh), (1, .ref h0), (2, .int k)] := hl
                      refine lv_iinc (k := 2) (v := nI (j + 1)) hx hb d_Machine_begin_243 hl rfl ((nI_succ j).symm) (by decide) rfl (fun ls hl => ?_)
                      have hl : lv_has ls 9 [(7, .int (nI (j + 1))), (6, .int (nI (nx + 2))), (8, .int 2), (5, .int 0), (4, .int r6), (3, .int r5), (0, .ref mh), (1, .ref h0), (2, .int k)] := hl
                      refine lv_goto (tgt := 165) hx hb d_Machine_begin_246 (by decide) ?_
                      have hP : va_P g.1 classes [(mh, .inr (5, [.ref s0, .ref l0, .ref t0, .ref h0, .int (nI u26.1), .int (nI u26.2.1), .int (nI u26.2.2.1), .int (nI u26.2.2.2.1), .int u26.2.2.2.2.1, .int u26.2.2.2.2.2.1, .int u26.2.2.2.2.2.2.1])), (s0, aI g 64 u26.2.2.2.2.2.2.2.1), (l0, aI g 64 u26.2.2.2.2.2.2.2.2.1), (t0, aI g 600 u26.2.2.2.2.2.2.2.2.2), (h0, .inr (3, [.ref (w 0), .ref (w 2), .ref (w 7), .ref (w 8), .ref (w 9), .ref (w 10), .ref (w 11), .ref (w 12), .ref (w 13), .int v.nu, .int v.th, .int v.it, .int (nI v.fi), .int (nI v.me), .int v.mp])), ((w 0), .inr (2, [.ref (w 1), .int (nI v.n)])), ((w 1), aB g 600 v.b), ((w 2), .inr (1, [.ref (w 3), .ref (w 4), .ref (w 5), .ref (w 6), .int (nI v.lo)])), ((w 3), aJ g 4800 v.rw), ((w 4), aB g 600 v.bg), ((w 5), aB g 600 v.wt), ((w 6), aB g 600 v.dp), ((w 7), aI g 200 v.tg), ((w 8), aI g 200 v.ca), ((w 9), aI g 200 v.fs), ((w 10), aI g 200 v.sc), ((w 11), aI g 75 v.fa), ((w 12), aI g 75 v.ma), ((w 13), aI g 75 v.co)] H := hP.sub [0, 1, 2, 3, 4, 5, 6, 7, 8, 9, 10, 11, 12, 13, 14, 15, 16, 17, 18] rfl
                      have hD : va_D A [(mh, .inr (5, [.ref s0, .ref l0, .ref t0, .ref h0, .int (nI u26.1), .int (nI u26.2.1), .int (nI u26.2.2.1), .int (nI u26.2.2.2.1), .int u26.2.2.2.2.1, .int u26.2.2.2.2.2.1, .int u26.2.2.2.2.2.2.1])), (s0, aI g 64 u26.2.2.2.2.2.2.2.1), (l0, aI g 64 u26.2.2.2.2.2.2.2.2.1), (t0, aI g 600 u26.2.2.2.2.2.2.2.2.2), (h0, .inr (3, [.ref (w 0), .ref (w 2), .ref (w 7), .ref (w 8), .ref (w 9), .ref (w 10), .ref (w 11), .ref (w 12), .ref (w 13), .int v.nu, .int v.th, .int v.it, .int (nI v.fi), .int (nI v.me), .int v.mp])), ((w 0), .inr (2, [.ref (w 1), .int (nI v.n)])), ((w 1), aB g 600 v.b), ((w 2), .inr (1, [.ref (w 3), .ref (w 4), .ref (w 5), .ref (w 6), .int (nI v.lo)])), ((w 3), aJ g 4800 v.rw), ((w 4), aB g 600 v.bg), ((w 5), aB g 600 v.wt), ((w 6), aB g 600 v.dp), ((w 7), aI g 200 v.tg), ((w 8), aI g 200 v.ca), ((w 9), aI g 200 v.fs), ((w 10), aI g 200 v.sc), ((w 11), aI g 75 v.fa), ((w 12), aI g 75 v.ma), ((w 13), aI g 75 v.co)] := hD.sub [0, 1, 2, 3, 4, 5, 6, 7, 8, 9, 10, 11, 12, 13, 14, 15, 16, 17, 18] (by decide) rfl
                      exact ih _ (by omega) (j + 1) (nx + 2) u26.1 u26.2.1 u26.2.2.1 u26.2.2.2.1 u26.2.2.2.2.1 u26.2.2.2.2.2.1 u26.2.2.2.2.2.2.1 u26.2.2.2.2.2.2.2.1 u26.2.2.2.2.2.2.2.2.1 u26.2.2.2.2.2.2.2.2.2 ls _ _ rfl hV26_0 (by omega) (by omega) (lv_sub hl [0, 1, 3, 4, 5, 6, 7, 8] rfl) hP hD hS
                    · refine lv_bipush (v := 21) hx hb d_Machine_begin_217 (by decide) ?_
                      exact tw_iret E hS (de9, ms9, ml9, mt9, an9, oa9, wd9, sk9, lc9, lt9) ⟨trivial, hM9⟩ hP hD d_Machine_begin_219
          exact loop165 _ 0 1 u10.1 u10.2.1 u10.2.2.1 u10.2.2.2.1 u10.2.2.2.2.1 u10.2.2.2.2.1 u10.2.2.2.2.2.2.1 u10.2.2.2.2.2.2.2.1 (upd u10.2.2.2.2.2.2.2.2.1 (0 : Int32).toNatClampNeg 4) u10.2.2.2.2.2.2.2.2.2 ls _ _ rfl hV10_0 (Nat.zero_le _) (by decide) (hl) hP hD hS
      · refine lv_bipush (v := 21) hx hb d_Machine_begin_147 (by decide) ?_
        exact tw_iret E hS (u10.1, u10.2.1, u10.2.2.1, u10.2.2.2.1, u10.2.2.2.2.1, u10.2.2.2.2.1, u10.2.2.2.2.2.2.1, u10.2.2.2.2.2.2.2.1, u10.2.2.2.2.2.2.2.2.1, u10.2.2.2.2.2.2.2.2.2) ⟨trivial, hV10_0⟩ hP hD d_Machine_begin_149
    · first | exact absurd h128 (by decide) | exact absurd (by decide) h128
  · refine lv_iconst (v := 1) hx hb d_Machine_begin_119 (by decide) ?_
    refine lv_goto (tgt := 124) hx hb d_Machine_begin_120 (by decide) ?_
    refine lv_istore hx hb d_Machine_begin_124 hl (by decide) rfl (fun ls hl => ?_)
    have hl : lv_has ls 9 [(5, .int 1), (4, .int r6), (3, .int r5), (0, .ref mh), (1, .ref h0), (2, .int k)] := hl
    refine lv_iload hx hb d_Machine_begin_126 (lv_at hl 0 rfl) ?_
    refine lv_if_eq (tgt := 135) hx hb d_Machine_begin_128 (by decide) (fun h128 => ?_) (fun h128 => ?_)
    · first | exact absurd h128 (by decide) | exact absurd (by decide) h128
    · refine lv_iconst (v := 0) hx hb d_Machine_begin_131 (by decide) ?_
      refine lv_goto (tgt := 136) hx hb d_Machine_begin_132 (by decide) ?_
      refine lv_istore hx hb d_Machine_begin_136 hl (by decide) rfl (fun ls hl => ?_)
      have hl : lv_has ls 9 [(6, .int 0), (5, .int 1), (4, .int r6), (3, .int r5), (0, .ref mh), (1, .ref h0), (2, .int k)] := hl
      refine lv_iload hx hb d_Machine_begin_138 (lv_at hl 0 rfl) ?_
      refine lv_aload_n hx hb d_Machine_begin_140 rfl (lv_at hl 4 rfl) ?_
      refine va_get (D := g.1) (ci := 5) (v := .int (nI u10.2.2.1)) (C := R_Machine) (T := F_Machine) (N := 11) hx hb hts in_Machine hown hK hP 0 rfl rfl 6 (by decide) (hts _ wd_153) (fun _ h9 => h9) rfl d_Machine_begin_141 ?_
      refine lv_icmp_le (tgt := 150) hx hb d_Machine_begin_144 (by decide) (fun h144 => ?_) (fun h144 => ?_)
      · refine lv_iload hx hb d_Machine_begin_150 (lv_at hl 1 rfl) ?_
        refine lv_if_ne (tgt := 162) hx hb d_Machine_begin_152 (by decide) (fun h152 => ?_) (fun h152 => ?_)
        · refine lv_iconst (v := 0) hx hb d_Machine_begin_162 (by decide) ?_
          refine lv_istore hx hb d_Machine_begin_163 hl (by decide) rfl (fun ls hl => ?_)
          have hl : lv_has ls 9 [(7, .int 0), (6, .int 0), (5, .int 1), (4, .int r6), (3, .int r5), (0, .ref mh), (1, .ref h0), (2, .int k)] := hl
          have loop165 : ∀ (kq : Nat) (j : Nat) (nx : Nat) (de9 : Nat) (ms9 : Nat) (ml9 : Nat) (mt9 : Nat) (an9 : Int32) (oa9 : Int32) (wd9 : Int32) (sk9 : Nat → Int32) (lc9 : Nat → Int32) (lt9 : Nat → Int32) (ls : Array Slot) (H : Heap) (locs : List Loc) , 600 - j = kq → (hM9 : MI de9 ms9 ml9 mt9 wd9 sk9) → (hj : j ≤ 600) → (hnx : nx ≤ 64) → lv_has ls 9 [(7, .int (nI j)), (6, .int (nI nx)), (5, .int 1), (4, .int r6), (3, .int r5), (0, .ref mh), (1, .ref h0), (2, .int k)] → va_P g.1 classes [(mh, .inr (5, [.ref s0, .ref l0, .ref t0, .ref h0, .int (nI de9), .int (nI ms9), .int (nI ml9), .int (nI mt9), .int an9, .int oa9, .int wd9])), (s0, aI g 64 sk9), (l0, aI g 64 lc9), (t0, aI g 600 lt9), (h0, .inr (3, [.ref (w 0), .ref (w 2), .ref (w 7), .ref (w 8), .ref (w 9), .ref (w 10), .ref (w 11), .ref (w 12), .ref (w 13), .int v.nu, .int v.th, .int v.it, .int (nI v.fi), .int (nI v.me), .int v.mp])), ((w 0), .inr (2, [.ref (w 1), .int (nI v.n)])), ((w 1), aB g 600 v.b), ((w 2), .inr (1, [.ref (w 3), .ref (w 4), .ref (w 5), .ref (w 6), .int (nI v.lo)])), ((w 3), aJ g 4800 v.rw), ((w 4), aB g 600 v.bg), ((w 5), aB g 600 v.wt), ((w 6), aB g 600 v.dp), ((w 7), aI g 200 v.tg), ((w 8), aI g 200 v.ca), ((w 9), aI g 200 v.fs), ((w 10), aI g 200 v.sc), ((w 11), aI g 75 v.fa), ((w 12), aI g 75 v.ma), ((w 13), aI g 75 v.co)] H → va_D A [(mh, .inr (5, [.ref s0, .ref l0, .ref t0, .ref h0, .int (nI de9), .int (nI ms9), .int (nI ml9), .int (nI mt9), .int an9, .int oa9, .int wd9])), (s0, aI g 64 sk9), (l0, aI g 64 lc9), (t0, aI g 600 lt9), (h0, .inr (3, [.ref (w 0), .ref (w 2), .ref (w 7), .ref (w 8), .ref (w 9), .ref (w 10), .ref (w 11), .ref (w 12), .ref (w 13), .int v.nu, .int v.th, .int v.it, .int (nI v.fi), .int (nI v.me), .int v.mp])), ((w 0), .inr (2, [.ref (w 1), .int (nI v.n)])), ((w 1), aB g 600 v.b), ((w 2), .inr (1, [.ref (w 3), .ref (w 4), .ref (w 5), .ref (w 6), .int (nI v.lo)])), ((w 3), aJ g 4800 v.rw), ((w 4), aB g 600 v.bg), ((w 5), aB g 600 v.wt), ((w 6), aB g 600 v.dp), ((w 7), aI g 200 v.tg), ((w 8), aI g 200 v.ca), ((w 9), aI g 200 v.fs), ((w 10), aI g 200 v.sc), ((w 11), aI g 75 v.fa), ((w 12), aI g 75 v.ma), ((w 13), aI g 75 v.co)] → va_S A s.heap H locs → W p l e ({ frames := 3, cells := 0, slots := 0, locals := 65 }) s m [.ref mh, .ref h0, .int k].toArray below meth c H locs 0 0 (MQ below (tw_Qi g (fun r (u : Nat × Nat × Nat × Nat × Int32 × Int32 × Int32 × (Nat → Int32) × (Nat → Int32) × (Nat → Int32)) => True ∧ MI u.1 u.2.1 u.2.2.1 u.2.2.2.1 u.2.2.2.2.2.2.1 u.2.2.2.2.2.2.2.1) (fun u : Nat × Nat × Nat × Nat × Int32 × Int32 × Int32 × (Nat → Int32) × (Nat → Int32) × (Nat → Int32) => [(mh, .inr (5, [.ref s0, .ref l0, .ref t0, .ref h0, .int (nI u.1), .int (nI u.2.1), .int (nI u.2.2.1), .int (nI u.2.2.2.1), .int u.2.2.2.2.1, .int u.2.2.2.2.2.1, .int u.2.2.2.2.2.2.1])), (s0, aI g 64 u.2.2.2.2.2.2.2.1), (l0, aI g 64 u.2.2.2.2.2.2.2.2.1), (t0, aI g 600 u.2.2.2.2.2.2.2.2.2), (h0, .inr (3, [.ref (w 0), .ref (w 2), .ref (w 7), .ref (w 8), .ref (w 9), .ref (w 10), .ref (w 11), .ref (w 12), .ref (w 13), .int v.nu, .int v.th, .int v.it, .int (nI v.fi), .int (nI v.me), .int v.mp])), ((w 0), .inr (2, [.ref (w 1), .int (nI v.n)])), ((w 1), aB g 600 v.b), ((w 2), .inr (1, [.ref (w 3), .ref (w 4), .ref (w 5), .ref (w 6), .int (nI v.lo)])), ((w 3), aJ g 4800 v.rw), ((w 4), aB g 600 v.bg), ((w 5), aB g 600 v.wt), ((w 6), aB g 600 v.dp), ((w 7), aI g 200 v.tg), ((w 8), aI g 200 v.ca), ((w 9), aI g 200 v.fs), ((w 10), aI g 200 v.sc), ((w 11), aI g 75 v.fa), ((w 12), aI g 75 v.ma), ((w 13), aI g 75 v.co)]) A) [.ref mh, .ref h0, .int k].toArray s 0 0 A) (F0 m 165 ls []) := by
            intro kq
            induction kq using Nat.strongRecOn with
            | _ kq ih =>
              intro j nx de9 ms9 ml9 mt9 an9 oa9 wd9 sk9 lc9 lt9 ls H locs hk hM9 hj hnx hl hP hD hS
              refine lv_iload hx hb d_Machine_begin_165 (lv_at hl 0 rfl) ?_
              refine lv_aload_n hx hb d_Machine_begin_167 rfl (lv_at hl 5 rfl) ?_
              refine va_get (D := g.1) (ci := 5) (v := .int (nI mt9)) (C := R_Machine) (T := F_Machine) (N := 11) hx hb hts in_Machine hown hK hP 0 rfl rfl 7 (by decide) (hts _ wd_155) (fun _ h9 => h9) rfl d_Machine_begin_168 ?_
              refine lv_icmp_ge (tgt := 249) hx hb d_Machine_begin_171 (by decide) (fun h171 => ?_) (fun h171 => ?_)
              · refine lv_iconst (v := 0) hx hb d_Machine_begin_249 (by decide) ?_
                exact tw_iret E hS (de9, ms9, ml9, mt9, an9, oa9, wd9, sk9, lc9, lt9) ⟨trivial, hM9⟩ hP hD d_Machine_begin_250
              · have h171 := tn_nle h171 (by have := hM9.mt; omega) (by omega)
                have hmt6 := hM9.mt
                refine lv_aload_n hx hb d_Machine_begin_174 rfl (lv_at hl 5 rfl) ?_
                refine va_get (D := g.1) (ci := 5) (v := .ref t0) (C := R_Machine) (T := F_Machine) (N := 11) hx hb hts in_Machine hown hK hP 0 rfl rfl 2 (by decide) (hts _ wd_146) (fun _ h9 => h9) rfl d_Machine_begin_175 ?_
                refine lv_iload hx hb d_Machine_begin_178 (lv_at hl 0 rfl) ?_
                refine va_iald hx hb hK hP 3 0 rfl rfl (vp_in_nI (by omega) (by decide)) d_Machine_begin_180 ?_
                obtain ⟨x27, ex27⟩ : ∃ z : Int32, lt9 ((nI j).toNatClampNeg) = z := ⟨_, rfl⟩
                refine tw_ri (e2 := x27) ex27 ?_
                refine lv_bipush (v := 74) hx hb d_Machine_begin_181 (by decide) ?_
                refine lv_icmp_eq (tgt := 198) hx hb d_Machine_begin_183 (by decide) (fun h183 => ?_) (fun h183 => ?_)
                · refine lv_iconst (v := 2) hx hb d_Machine_begin_198 (by decide) ?_
                  refine lv_goto (tgt := 203) hx hb d_Machine_begin_199 (by decide) ?_
                  refine lv_istore hx hb d_Machine_begin_203 hl (by decide) rfl (fun ls hl => ?_)
                  have hl : lv_has ls 9 [(8, .int 2), (7, .int (nI j)), (6, .int (nI nx)), (5, .int 1), (4, .int r6), (3, .int r5), (0, .ref mh), (1, .ref h0), (2, .int k)] := hl
                  refine lv_iload hx hb d_Machine_begin_205 (lv_at hl 2 rfl) ?_
                  refine lv_iload hx hb d_Machine_begin_207 (lv_at hl 0 rfl) ?_
                  refine lv_iadd hx hb d_Machine_begin_209 ?_
                  refine tw_ri (e2 := nI (nx + 2)) (nI_add nx 2) ?_
                  refine lv_aload_n hx hb d_Machine_begin_210 rfl (lv_at hl 6 rfl) ?_
                  refine va_get (D := g.1) (ci := 5) (v := .int (nI ml9)) (C := R_Machine) (T := F_Machine) (N := 11) hx hb hts in_Machine hown hK hP 0 rfl rfl 6 (by decide) (hts _ wd_153) (fun _ h9 => h9) rfl d_Machine_begin_211 ?_
                  refine lv_icmp_le (tgt := 220) hx hb d_Machine_begin_214 (by decide) (fun h214 => ?_) (fun h214 => ?_)
                  · have h214 := tn_le h214 (by omega) (by have := hM9.ml; omega)
                    have hml6 := hM9.ml
                    refine lv_aload_n hx hb d_Machine_begin_220 rfl (lv_at hl 6 rfl) ?_
                    refine lv_iload hx hb d_Machine_begin_221 (lv_at hl 2 rfl) ?_
                    refine lv_aload_n hx hb d_Machine_begin_223 rfl (lv_at hl 6 rfl) ?_
                    refine va_get (D := g.1) (ci := 5) (v := .ref t0) (C := R_Machine) (T := F_Machine) (N := 11) hx hb hts in_Machine hown hK hP 0 rfl rfl 2 (by decide) (hts _ wd_146) (fun _ h9 => h9) rfl d_Machine_begin_224 ?_
                    refine lv_iload hx hb d_Machine_begin_227 (lv_at hl 1 rfl) ?_
                    refine va_iald hx hb hK hP 3 0 rfl rfl (vp_in_nI (by omega) (by decide)) d_Machine_begin_229 ?_
                    obtain ⟨x28, ex28⟩ : ∃ z : Int32, lt9 ((nI j).toNatClampNeg) = z := ⟨_, rfl⟩
                    refine tw_ri (e2 := x28) ex28 ?_
                    refine tw_si (tw_runS (ws := [(mh, .inr (5, [.ref s0, .ref l0, .ref t0, .ref h0, .int (nI de9), .int (nI ms9), .int (nI ml9), .int (nI mt9), .int an9, .int oa9, .int wd9])), (s0, aI g 64 sk9), (l0, aI g 64 lc9), (t0, aI g 600 lt9), (h0, .inr (3, [.ref (w 0), .ref (w 2), .ref (w 7), .ref (w 8), .ref (w 9), .ref (w 10), .ref (w 11), .ref (w 12), .ref (w 13), .int v.nu, .int v.th, .int v.it, .int (nI v.fi), .int (nI v.me), .int v.mp])), ((w 0), .inr (2, [.ref (w 1), .int (nI v.n)])), ((w 1), aB g 600 v.b), ((w 2), .inr (1, [.ref (w 3), .ref (w 4), .ref (w 5), .ref (w 6), .int (nI v.lo)])), ((w 3), aJ g 4800 v.rw), ((w 4), aB g 600 v.bg), ((w 5), aB g 600 v.wt), ((w 6), aB g 600 v.dp), ((w 7), aI g 200 v.tg), ((w 8), aI g 200 v.ca), ((w 9), aI g 200 v.fs), ((w 10), aI g 200 v.sc), ((w 11), aI g 75 v.fa), ((w 12), aI g 75 v.ma), ((w 13), aI g 75 v.co)]) (wc := []) (As := [.int x28]) (rest := [.int (nI nx), .ref mh]) E hB hK hZ (s_Grammar_kindOf l g H.size x28) mc_Grammar_kindOf ms_Grammar_kindOf wd_778 hP hD hS hA [] rfl (by decide) rfl rfl (by decide) rfl hl.1 rfl (Nat.le_of_ble_eq_true rfl) (by decide) d_Machine_begin_230) (fun r29 hr29 => ?_)
                    refine tw_wv (wr := [(h0, .inr (3, [.ref (w 0), .ref (w 2), .ref (w 7), .ref (w 8), .ref (w 9), .ref (w 10), .ref (w 11), .ref (w 12), .ref (w 13), .int v.nu, .int v.th, .int v.it, .int (nI v.fi), .int (nI v.me), .int v.mp])), ((w 0), .inr (2, [.ref (w 1), .int (nI v.n)])), ((w 1), aB g 600 v.b), ((w 2), .inr (1, [.ref (w 3), .ref (w 4), .ref (w 5), .ref (w 6), .int (nI v.lo)])), ((w 3), aJ g 4800 v.rw), ((w 4), aB g 600 v.bg), ((w 5), aB g 600 v.wt), ((w 6), aB g 600 v.dp), ((w 7), aI g 200 v.tg), ((w 8), aI g 200 v.ca), ((w 9), aI g 200 v.fs), ((w 10), aI g 200 v.sc), ((w 11), aI g 75 v.fa), ((w 12), aI g 75 v.ma), ((w 13), aI g 75 v.co)]) (tw_runV (ws := [(mh, .inr (5, [.ref s0, .ref l0, .ref t0, .ref h0, .int (nI de9), .int (nI ms9), .int (nI ml9), .int (nI mt9), .int an9, .int oa9, .int wd9])), (s0, aI g 64 sk9), (l0, aI g 64 lc9), (t0, aI g 600 lt9), (h0, .inr (3, [.ref (w 0), .ref (w 2), .ref (w 7), .ref (w 8), .ref (w 9), .ref (w 10), .ref (w 11), .ref (w 12), .ref (w 13), .int v.nu, .int v.th, .int v.it, .int (nI v.fi), .int (nI v.me), .int v.mp])), ((w 0), .inr (2, [.ref (w 1), .int (nI v.n)])), ((w 1), aB g 600 v.b), ((w 2), .inr (1, [.ref (w 3), .ref (w 4), .ref (w 5), .ref (w 6), .int (nI v.lo)])), ((w 3), aJ g 4800 v.rw), ((w 4), aB g 600 v.bg), ((w 5), aB g 600 v.wt), ((w 6), aB g 600 v.dp), ((w 7), aI g 200 v.tg), ((w 8), aI g 200 v.ca), ((w 9), aI g 200 v.fs), ((w 10), aI g 200 v.sc), ((w 11), aI g 75 v.fa), ((w 12), aI g 75 v.ma), ((w 13), aI g 75 v.co)]) (wc := [(mh, .inr (5, [.ref s0, .ref l0, .ref t0, .ref h0, .int (nI de9), .int (nI ms9), .int (nI ml9), .int (nI mt9), .int an9, .int oa9, .int wd9])), (s0, aI g 64 sk9), (l0, aI g 64 lc9), (t0, aI g 600 lt9)]) (As := [.int (nI nx), .int r29]) (rest := []) E hB hK hZ (s_Machine_setLocal l g H.size mh s0 l0 t0 (.ref h0) de9 ms9 ml9 mt9 an9 oa9 wd9 sk9 lc9 lt9  nx r29 hM9 (by omega)) mc_Machine_setLocal mi_Machine_setLocal me_Machine_setLocal wd_779 hP hD hS hA [0, 1, 2, 3] rfl (by decide) 0 rfl rfl rfl rfl rfl (by decide) rfl hl.1 rfl (Nat.le_of_ble_eq_true rfl) (by decide) d_Machine_begin_233) hP hD hS hA [0, 1, 2, 3] [4, 5, 6, 7, 8, 9, 10, 11, 12, 13, 14, 15, 16, 17, 18] rfl rfl (by decide) (by decide) (fun u31 H locs hr30 hP hD hS => ?_)
                    try dsimp only at hr30
                    have hP : va_P g.1 classes [(h0, .inr (3, [.ref (w 0), .ref (w 2), .ref (w 7), .ref (w 8), .ref (w 9), .ref (w 10), .ref (w 11), .ref (w 12), .ref (w 13), .int v.nu, .int v.th, .int v.it, .int (nI v.fi), .int (nI v.me), .int v.mp])), ((w 0), .inr (2, [.ref (w 1), .int (nI v.n)])), ((w 1), aB g 600 v.b), ((w 2), .inr (1, [.ref (w 3), .ref (w 4), .ref (w 5), .ref (w 6), .int (nI v.lo)])), ((w 3), aJ g 4800 v.rw), ((w 4), aB g 600 v.bg), ((w 5), aB g 600 v.wt), ((w 6), aB g 600 v.dp), ((w 7), aI g 200 v.tg), ((w 8), aI g 200 v.ca), ((w 9), aI g 200 v.fs), ((w 10), aI g 200 v.sc), ((w 11), aI g 75 v.fa), ((w 12), aI g 75 v.ma), ((w 13), aI g 75 v.co), (mh, .inr (5, [.ref s0, .ref l0, .ref t0, .ref h0, .int (nI u31.1), .int (nI u31.2.1), .int (nI u31.2.2.1), .int (nI u31.2.2.2.1), .int u31.2.2.2.2.1, .int u31.2.2.2.2.2.1, .int u31.2.2.2.2.2.2.1])), (s0, aI g 64 u31.2.2.2.2.2.2.2.1), (l0, aI g 64 u31.2.2.2.2.2.2.2.2.1), (t0, aI g 600 u31.2.2.2.2.2.2.2.2.2)] H := hP
                    have hD : va_D A [(h0, .inr (3, [.ref (w 0), .ref (w 2), .ref (w 7), .ref (w 8), .ref (w 9), .ref (w 10), .ref (w 11), .ref (w 12), .ref (w 13), .int v.nu, .int v.th, .int v.it, .int (nI v.fi), .int (nI v.me), .int v.mp])), ((w 0), .inr (2, [.ref (w 1), .int (nI v.n)])), ((w 1), aB g 600 v.b), ((w 2), .inr (1, [.ref (w 3), .ref (w 4), .ref (w 5), .ref (w 6), .int (nI v.lo)])), ((w 3), aJ g 4800 v.rw), ((w 4), aB g 600 v.bg), ((w 5), aB g 600 v.wt), ((w 6), aB g 600 v.dp), ((w 7), aI g 200 v.tg), ((w 8), aI g 200 v.ca), ((w 9), aI g 200 v.fs), ((w 10), aI g 200 v.sc), ((w 11), aI g 75 v.fa), ((w 12), aI g 75 v.ma), ((w 13), aI g 75 v.co), (mh, .inr (5, [.ref s0, .ref l0, .ref t0, .ref h0, .int (nI u31.1), .int (nI u31.2.1), .int (nI u31.2.2.1), .int (nI u31.2.2.2.1), .int u31.2.2.2.2.1, .int u31.2.2.2.2.2.1, .int u31.2.2.2.2.2.2.1])), (s0, aI g 64 u31.2.2.2.2.2.2.2.1), (l0, aI g 64 u31.2.2.2.2.2.2.2.2.1), (t0, aI g 600 u31.2.2.2.2.2.2.2.2.2)] := hD
                    have hP : va_P g.1 classes [(mh, .inr (5, [.ref s0, .ref l0, .ref t0, .ref h0, .int (nI u31.1), .int (nI u31.2.1), .int (nI u31.2.2.1), .int (nI u31.2.2.2.1), .int u31.2.2.2.2.1, .int u31.2.2.2.2.2.1, .int u31.2.2.2.2.2.2.1])), (s0, aI g 64 u31.2.2.2.2.2.2.2.1), (l0, aI g 64 u31.2.2.2.2.2.2.2.2.1), (t0, aI g 600 u31.2.2.2.2.2.2.2.2.2), (h0, .inr (3, [.ref (w 0), .ref (w 2), .ref (w 7), .ref (w 8), .ref (w 9), .ref (w 10), .ref (w 11), .ref (w 12), .ref (w 13), .int v.nu, .int v.th, .int v.it, .int (nI v.fi), .int (nI v.me), .int v.mp])), ((w 0), .inr (2, [.ref (w 1), .int (nI v.n)])), ((w 1), aB g 600 v.b), ((w 2), .inr (1, [.ref (w 3), .ref (w 4), .ref (w 5), .ref (w 6), .int (nI v.lo)])), ((w 3), aJ g 4800 v.rw), ((w 4), aB g 600 v.bg), ((w 5), aB g 600 v.wt), ((w 6), aB g 600 v.dp), ((w 7), aI g 200 v.tg), ((w 8), aI g 200 v.ca), ((w 9), aI g 200 v.fs), ((w 10), aI g 200 v.sc), ((w 11), aI g 75 v.fa), ((w 12), aI g 75 v.ma), ((w 13), aI g 75 v.co)] H := hP.sub [15, 16, 17, 18, 0, 1, 2, 3, 4, 5, 6, 7, 8, 9, 10, 11, 12, 13, 14] rfl
                    have hD : va_D A [(mh, .inr (5, [.ref s0, .ref l0, .ref t0, .ref h0, .int (nI u31.1), .int (nI u31.2.1), .int (nI u31.2.2.1), .int (nI u31.2.2.2.1), .int u31.2.2.2.2.1, .int u31.2.2.2.2.2.1, .int u31.2.2.2.2.2.2.1])), (s0, aI g 64 u31.2.2.2.2.2.2.2.1), (l0, aI g 64 u31.2.2.2.2.2.2.2.2.1), (t0, aI g 600 u31.2.2.2.2.2.2.2.2.2), (h0, .inr (3, [.ref (w 0), .ref (w 2), .ref (w 7), .ref (w 8), .ref (w 9), .ref (w 10), .ref (w 11), .ref (w 12), .ref (w 13), .int v.nu, .int v.th, .int v.it, .int (nI v.fi), .int (nI v.me), .int v.mp])), ((w 0), .inr (2, [.ref (w 1), .int (nI v.n)])), ((w 1), aB g 600 v.b), ((w 2), .inr (1, [.ref (w 3), .ref (w 4), .ref (w 5), .ref (w 6), .int (nI v.lo)])), ((w 3), aJ g 4800 v.rw), ((w 4), aB g 600 v.bg), ((w 5), aB g 600 v.wt), ((w 6), aB g 600 v.dp), ((w 7), aI g 200 v.tg), ((w 8), aI g 200 v.ca), ((w 9), aI g 200 v.fs), ((w 10), aI g 200 v.sc), ((w 11), aI g 75 v.fa), ((w 12), aI g 75 v.ma), ((w 13), aI g 75 v.co)] := hD.sub [15, 16, 17, 18, 0, 1, 2, 3, 4, 5, 6, 7, 8, 9, 10, 11, 12, 13, 14] (by decide) rfl
                    have hV31_0 := hr30
                    refine lv_iload hx hb d_Machine_begin_236 (lv_at hl 2 rfl) ?_
                    refine lv_iload hx hb d_Machine_begin_238 (lv_at hl 0 rfl) ?_
                    refine lv_iadd hx hb d_Machine_begin_240 ?_
                    refine tw_ri (e2 := nI (nx + 2)) (nI_add nx 2) ?_
                    refine lv_istore hx hb d_Machine_begin_241 hl (by decide) rfl (fun ls hl => ?_)
                    have hl : lv_has ls 9 [(6, .int (nI (nx + 2))), (8, .int 2), (7, .int (nI j)), (5, .int 1), (4, .int r6), (3, .int r5), (0, .ref mh), (1, .ref h0), (2, .int k)] := hl
                    refine lv_iinc (k := 2) (v := nI (j + 1)) hx hb d_Machine_begin_243 hl rfl ((nI_succ j).symm) (by decide) rfl (fun ls hl => ?_)
                    have hl : lv_has ls 9 [(7, .int (nI (j + 1))), (6, .int (nI (nx + 2))), (8, .int 2), (5, .int 1), (4, .int r6), (3, .int r5), (0, .ref mh), (1, .ref h0), (2, .int k)] := hl
                    refine lv_goto (tgt := 165) hx hb d_Machine_begin_246 (by decide) ?_
                    have hP : va_P g.1 classes [(mh, .inr (5, [.ref s0, .ref l0, .ref t0, .ref h0, .int (nI u31.1), .int (nI u31.2.1), .int (nI u31.2.2.1), .int (nI u31.2.2.2.1), .int u31.2.2.2.2.1, .int u31.2.2.2.2.2.1, .int u31.2.2.2.2.2.2.1])), (s0, aI g 64 u31.2.2.2.2.2.2.2.1), (l0, aI g 64 u31.2.2.2.2.2.2.2.2.1), (t0, aI g 600 u31.2.2.2.2.2.2.2.2.2), (h0, .inr (3, [.ref (w 0), .ref (w 2), .ref (w 7), .ref (w 8), .ref (w 9), .ref (w 10), .ref (w 11), .ref (w 12), .ref (w 13), .int v.nu, .int v.th, .int v.it, .int (nI v.fi), .int (nI v.me), .int v.mp])), ((w 0), .inr (2, [.ref (w 1), .int (nI v.n)])), ((w 1), aB g 600 v.b), ((w 2), .inr (1, [.ref (w 3), .ref (w 4), .ref (w 5), .ref (w 6), .int (nI v.lo)])), ((w 3), aJ g 4800 v.rw), ((w 4), aB g 600 v.bg), ((w 5), aB g 600 v.wt), ((w 6), aB g 600 v.dp), ((w 7), aI g 200 v.tg), ((w 8), aI g 200 v.ca), ((w 9), aI g 200 v.fs), ((w 10), aI g 200 v.sc), ((w 11), aI g 75 v.fa), ((w 12), aI g 75 v.ma), ((w 13), aI g 75 v.co)] H := hP.sub [0, 1, 2, 3, 4, 5, 6, 7, 8, 9, 10, 11, 12, 13, 14, 15, 16, 17, 18] rfl
                    have hD : va_D A [(mh, .inr (5, [.ref s0, .ref l0, .ref t0, .ref h0, .int (nI u31.1), .int (nI u31.2.1), .int (nI u31.2.2.1), .int (nI u31.2.2.2.1), .int u31.2.2.2.2.1, .int u31.2.2.2.2.2.1, .int u31.2.2.2.2.2.2.1])), (s0, aI g 64 u31.2.2.2.2.2.2.2.1), (l0, aI g 64 u31.2.2.2.2.2.2.2.2.1), (t0, aI g 600 u31.2.2.2.2.2.2.2.2.2), (h0, .inr (3, [.ref (w 0), .ref (w 2), .ref (w 7), .ref (w 8), .ref (w 9), .ref (w 10), .ref (w 11), .ref (w 12), .ref (w 13), .int v.nu, .int v.th, .int v.it, .int (nI v.fi), .int (nI v.me), .int v.mp])), ((w 0), .inr (2, [.ref (w 1), .int (nI v.n)])), ((w 1), aB g 600 v.b), ((w 2), .inr (1, [.ref (w 3), .ref (w 4), .ref (w 5), .ref (w 6), .int (nI v.lo)])), ((w 3), aJ g 4800 v.rw), ((w 4), aB g 600 v.bg), ((w 5), aB g 600 v.wt), ((w 6), aB g 600 v.dp), ((w 7), aI g 200 v.tg), ((w 8), aI g 200 v.ca), ((w 9), aI g 200 v.fs), ((w 10), aI g 200 v.sc), ((w 11), aI g 75 v.fa), ((w 12), aI g 75 v.ma), ((w 13), aI g 75 v.co)] := hD.sub [0, 1, 2, 3, 4, 5, 6, 7, 8, 9, 10, 11, 12, 13, 14, 15, 16, 17, 18] (by decide) rfl
                    exact ih _ (by omega) (j + 1) (nx + 2) u31.1 u31.2.1 u31.2.2.1 u31.2.2.2.1 u31.2.2.2.2.1 u31.2.2.2.2.2.1 u31.2.2.2.2.2.2.1 u31.2.2.2.2.2.2.2.1 u31.2.2.2.2.2.2.2.2.1 u31.2.2.2.2.2.2.2.2.2 ls _ _ rfl hV31_0 (by omega) (by omega) (lv_sub hl [0, 1, 3, 4, 5, 6, 7, 8] rfl) hP hD hS
                  · refine lv_bipush (v := 21) hx hb d_Machine_begin_217 (by decide) ?_
                    exact tw_iret E hS (de9, ms9, ml9, mt9, an9, oa9, wd9, sk9, lc9, lt9) ⟨trivial, hM9⟩ hP hD d_Machine_begin_219
                · refine lv_aload_n hx hb d_Machine_begin_186 rfl (lv_at hl 5 rfl) ?_
                  refine va_get (D := g.1) (ci := 5) (v := .ref t0) (C := R_Machine) (T := F_Machine) (N := 11) hx hb hts in_Machine hown hK hP 0 rfl rfl 2 (by decide) (hts _ wd_146) (fun _ h9 => h9) rfl d_Machine_begin_187 ?_
                  refine lv_iload hx hb d_Machine_begin_190 (lv_at hl 0 rfl) ?_
                  refine va_iald hx hb hK hP 3 0 rfl rfl (vp_in_nI (by omega) (by decide)) d_Machine_begin_192 ?_
                  obtain ⟨x32, ex32⟩ : ∃ z : Int32, lt9 ((nI j).toNatClampNeg) = z := ⟨_, rfl⟩
                  refine tw_ri (e2 := x32) ex32 ?_
                  refine lv_bipush (v := 68) hx hb d_Machine_begin_193 (by decide) ?_
                  refine lv_icmp_ne (tgt := 202) hx hb d_Machine_begin_195 (by decide) (fun h195 => ?_) (fun h195 => ?_)
                  · refine lv_iconst (v := 1) hx hb d_Machine_begin_202 (by decide) ?_
                    refine lv_istore hx hb d_Machine_begin_203 hl (by decide) rfl (fun ls hl => ?_)
                    have hl : lv_has ls 9 [(8, .int 1), (7, .int (nI j)), (6, .int (nI nx)), (5, .int 1), (4, .int r6), (3, .int r5), (0, .ref mh), (1, .ref h0), (2, .int k)] := hl
                    refine lv_iload hx hb d_Machine_begin_205 (lv_at hl 2 rfl) ?_
                    refine lv_iload hx hb d_Machine_begin_207 (lv_at hl 0 rfl) ?_
                    refine lv_iadd hx hb d_Machine_begin_209 ?_
                    refine tw_ri (e2 := nI (nx + 1)) (nI_add nx 1) ?_
                    refine lv_aload_n hx hb d_Machine_begin_210 rfl (lv_at hl 6 rfl) ?_
                    refine va_get (D := g.1) (ci := 5) (v := .int (nI ml9)) (C := R_Machine) (T := F_Machine) (N := 11) hx hb hts in_Machine hown hK hP 0 rfl rfl 6 (by decide) (hts _ wd_153) (fun _ h9 => h9) rfl d_Machine_begin_211 ?_
                    refine lv_icmp_le (tgt := 220) hx hb d_Machine_begin_214 (by decide) (fun h214 => ?_) (fun h214 => ?_)
                    · have h214 := tn_le h214 (by omega) (by have := hM9.ml; omega)
                      have hml6 := hM9.ml
                      refine lv_aload_n hx hb d_Machine_begin_220 rfl (lv_at hl 6 rfl) ?_
                      refine lv_iload hx hb d_Machine_begin_221 (lv_at hl 2 rfl) ?_
                      refine lv_aload_n hx hb d_Machine_begin_223 rfl (lv_at hl 6 rfl) ?_
                      refine va_get (D := g.1) (ci := 5) (v := .ref t0) (C := R_Machine) (T := F_Machine) (N := 11) hx hb hts in_Machine hown hK hP 0 rfl rfl 2 (by decide) (hts _ wd_146) (fun _ h9 => h9) rfl d_Machine_begin_224 ?_
                      refine lv_iload hx hb d_Machine_begin_227 (lv_at hl 1 rfl) ?_
                      refine va_iald hx hb hK hP 3 0 rfl rfl (vp_in_nI (by omega) (by decide)) d_Machine_begin_229 ?_
                      obtain ⟨x33, ex33⟩ : ∃ z : Int32, lt9 ((nI j).toNatClampNeg) = z := ⟨_, rfl⟩
                      refine tw_ri (e2 := x33) ex33 ?_
                      refine tw_si (tw_runS (ws := [(mh, .inr (5, [.ref s0, .ref l0, .ref t0, .ref h0, .int (nI de9), .int (nI ms9), .int (nI ml9), .int (nI mt9), .int an9, .int oa9, .int wd9])), (s0, aI g 64 sk9), (l0, aI g 64 lc9), (t0, aI g 600 lt9), (h0, .inr (3, [.ref (w 0), .ref (w 2), .ref (w 7), .ref (w 8), .ref (w 9), .ref (w 10), .ref (w 11), .ref (w 12), .ref (w 13), .int v.nu, .int v.th, .int v.it, .int (nI v.fi), .int (nI v.me), .int v.mp])), ((w 0), .inr (2, [.ref (w 1), .int (nI v.n)])), ((w 1), aB g 600 v.b), ((w 2), .inr (1, [.ref (w 3), .ref (w 4), .ref (w 5), .ref (w 6), .int (nI v.lo)])), ((w 3), aJ g 4800 v.rw), ((w 4), aB g 600 v.bg), ((w 5), aB g 600 v.wt), ((w 6), aB g 600 v.dp), ((w 7), aI g 200 v.tg), ((w 8), aI g 200 v.ca), ((w 9), aI g 200 v.fs), ((w 10), aI g 200 v.sc), ((w 11), aI g 75 v.fa), ((w 12), aI g 75 v.ma), ((w 13), aI g 75 v.co)]) (wc := []) (As := [.int x33]) (rest := [.int (nI nx), .ref mh]) E hB hK hZ (s_Grammar_kindOf l g H.size x33) mc_Grammar_kindOf ms_Grammar_kindOf wd_778 hP hD hS hA [] rfl (by decide) rfl rfl (by decide) rfl hl.1 rfl (Nat.le_of_ble_eq_true rfl) (by decide) d_Machine_begin_230) (fun r34 hr34 => ?_)
                      refine tw_wv (wr := [(h0, .inr (3, [.ref (w 0), .ref (w 2), .ref (w 7), .ref (w 8), .ref (w 9), .ref (w 10), .ref (w 11), .ref (w 12), .ref (w 13), .int v.nu, .int v.th, .int v.it, .int (nI v.fi), .int (nI v.me), .int v.mp])), ((w 0), .inr (2, [.ref (w 1), .int (nI v.n)])), ((w 1), aB g 600 v.b), ((w 2), .inr (1, [.ref (w 3), .ref (w 4), .ref (w 5), .ref (w 6), .int (nI v.lo)])), ((w 3), aJ g 4800 v.rw), ((w 4), aB g 600 v.bg), ((w 5), aB g 600 v.wt), ((w 6), aB g 600 v.dp), ((w 7), aI g 200 v.tg), ((w 8), aI g 200 v.ca), ((w 9), aI g 200 v.fs), ((w 10), aI g 200 v.sc), ((w 11), aI g 75 v.fa), ((w 12), aI g 75 v.ma), ((w 13), aI g 75 v.co)]) (tw_runV (ws := [(mh, .inr (5, [.ref s0, .ref l0, .ref t0, .ref h0, .int (nI de9), .int (nI ms9), .int (nI ml9), .int (nI mt9), .int an9, .int oa9, .int wd9])), (s0, aI g 64 sk9), (l0, aI g 64 lc9), (t0, aI g 600 lt9), (h0, .inr (3, [.ref (w 0), .ref (w 2), .ref (w 7), .ref (w 8), .ref (w 9), .ref (w 10), .ref (w 11), .ref (w 12), .ref (w 13), .int v.nu, .int v.th, .int v.it, .int (nI v.fi), .int (nI v.me), .int v.mp])), ((w 0), .inr (2, [.ref (w 1), .int (nI v.n)])), ((w 1), aB g 600 v.b), ((w 2), .inr (1, [.ref (w 3), .ref (w 4), .ref (w 5), .ref (w 6), .int (nI v.lo)])), ((w 3), aJ g 4800 v.rw), ((w 4), aB g 600 v.bg), ((w 5), aB g 600 v.wt), ((w 6), aB g 600 v.dp), ((w 7), aI g 200 v.tg), ((w 8), aI g 200 v.ca), ((w 9), aI g 200 v.fs), ((w 10), aI g 200 v.sc), ((w 11), aI g 75 v.fa), ((w 12), aI g 75 v.ma), ((w 13), aI g 75 v.co)]) (wc := [(mh, .inr (5, [.ref s0, .ref l0, .ref t0, .ref h0, .int (nI de9), .int (nI ms9), .int (nI ml9), .int (nI mt9), .int an9, .int oa9, .int wd9])), (s0, aI g 64 sk9), (l0, aI g 64 lc9), (t0, aI g 600 lt9)]) (As := [.int (nI nx), .int r34]) (rest := []) E hB hK hZ (s_Machine_setLocal l g H.size mh s0 l0 t0 (.ref h0) de9 ms9 ml9 mt9 an9 oa9 wd9 sk9 lc9 lt9  nx r34 hM9 (by omega)) mc_Machine_setLocal mi_Machine_setLocal me_Machine_setLocal wd_779 hP hD hS hA [0, 1, 2, 3] rfl (by decide) 0 rfl rfl rfl rfl rfl (by decide) rfl hl.1 rfl (Nat.le_of_ble_eq_true rfl) (by decide) d_Machine_begin_233) hP hD hS hA [0, 1, 2, 3] [4, 5, 6, 7, 8, 9, 10, 11, 12, 13, 14, 15, 16, 17, 18] rfl rfl (by decide) (by decide) (fun u36 H locs hr35 hP hD hS => ?_)
                      try dsimp only at hr35
                      have hP : va_P g.1 classes [(h0, .inr (3, [.ref (w 0), .ref (w 2), .ref (w 7), .ref (w 8), .ref (w 9), .ref (w 10), .ref (w 11), .ref (w 12), .ref (w 13), .int v.nu, .int v.th, .int v.it, .int (nI v.fi), .int (nI v.me), .int v.mp])), ((w 0), .inr (2, [.ref (w 1), .int (nI v.n)])), ((w 1), aB g 600 v.b), ((w 2), .inr (1, [.ref (w 3), .ref (w 4), .ref (w 5), .ref (w 6), .int (nI v.lo)])), ((w 3), aJ g 4800 v.rw), ((w 4), aB g 600 v.bg), ((w 5), aB g 600 v.wt), ((w 6), aB g 600 v.dp), ((w 7), aI g 200 v.tg), ((w 8), aI g 200 v.ca), ((w 9), aI g 200 v.fs), ((w 10), aI g 200 v.sc), ((w 11), aI g 75 v.fa), ((w 12), aI g 75 v.ma), ((w 13), aI g 75 v.co), (mh, .inr (5, [.ref s0, .ref l0, .ref t0, .ref h0, .int (nI u36.1), .int (nI u36.2.1), .int (nI u36.2.2.1), .int (nI u36.2.2.2.1), .int u36.2.2.2.2.1, .int u36.2.2.2.2.2.1, .int u36.2.2.2.2.2.2.1])), (s0, aI g 64 u36.2.2.2.2.2.2.2.1), (l0, aI g 64 u36.2.2.2.2.2.2.2.2.1), (t0, aI g 600 u36.2.2.2.2.2.2.2.2.2)] H := hP
                      have hD : va_D A [(h0, .inr (3, [.ref (w 0), .ref (w 2), .ref (w 7), .ref (w 8), .ref (w 9), .ref (w 10), .ref (w 11), .ref (w 12), .ref (w 13), .int v.nu, .int v.th, .int v.it, .int (nI v.fi), .int (nI v.me), .int v.mp])), ((w 0), .inr (2, [.ref (w 1), .int (nI v.n)])), ((w 1), aB g 600 v.b), ((w 2), .inr (1, [.ref (w 3), .ref (w 4), .ref (w 5), .ref (w 6), .int (nI v.lo)])), ((w 3), aJ g 4800 v.rw), ((w 4), aB g 600 v.bg), ((w 5), aB g 600 v.wt), ((w 6), aB g 600 v.dp), ((w 7), aI g 200 v.tg), ((w 8), aI g 200 v.ca), ((w 9), aI g 200 v.fs), ((w 10), aI g 200 v.sc), ((w 11), aI g 75 v.fa), ((w 12), aI g 75 v.ma), ((w 13), aI g 75 v.co), (mh, .inr (5, [.ref s0, .ref l0, .ref t0, .ref h0, .int (nI u36.1), .int (nI u36.2.1), .int (nI u36.2.2.1), .int (nI u36.2.2.2.1), .int u36.2.2.2.2.1, .int u36.2.2.2.2.2.1, .int u36.2.2.2.2.2.2.1])), (s0, aI g 64 u36.2.2.2.2.2.2.2.1), (l0, aI g 64 u36.2.2.2.2.2.2.2.2.1), (t0, aI g 600 u36.2.2.2.2.2.2.2.2.2)] := hD
                      have hP : va_P g.1 classes [(mh, .inr (5, [.ref s0, .ref l0, .ref t0, .ref h0, .int (nI u36.1), .int (nI u36.2.1), .int (nI u36.2.2.1), .int (nI u36.2.2.2.1), .int u36.2.2.2.2.1, .int u36.2.2.2.2.2.1, .int u36.2.2.2.2.2.2.1])), (s0, aI g 64 u36.2.2.2.2.2.2.2.1), (l0, aI g 64 u36.2.2.2.2.2.2.2.2.1), (t0, aI g 600 u36.2.2.2.2.2.2.2.2.2), (h0, .inr (3, [.ref (w 0), .ref (w 2), .ref (w 7), .ref (w 8), .ref (w 9), .ref (w 10), .ref (w 11), .ref (w 12), .ref (w 13), .int v.nu, .int v.th, .int v.it, .int (nI v.fi), .int (nI v.me), .int v.mp])), ((w 0), .inr (2, [.ref (w 1), .int (nI v.n)])), ((w 1), aB g 600 v.b), ((w 2), .inr (1, [.ref (w 3), .ref (w 4), .ref (w 5), .ref (w 6), .int (nI v.lo)])), ((w 3), aJ g 4800 v.rw), ((w 4), aB g 600 v.bg), ((w 5), aB g 600 v.wt), ((w 6), aB g 600 v.dp), ((w 7), aI g 200 v.tg), ((w 8), aI g 200 v.ca), ((w 9), aI g 200 v.fs), ((w 10), aI g 200 v.sc), ((w 11), aI g 75 v.fa), ((w 12), aI g 75 v.ma), ((w 13), aI g 75 v.co)] H := hP.sub [15, 16, 17, 18, 0, 1, 2, 3, 4, 5, 6, 7, 8, 9, 10, 11, 12, 13, 14] rfl
                      have hD : va_D A [(mh, .inr (5, [.ref s0, .ref l0, .ref t0, .ref h0, .int (nI u36.1), .int (nI u36.2.1), .int (nI u36.2.2.1), .int (nI u36.2.2.2.1), .int u36.2.2.2.2.1, .int u36.2.2.2.2.2.1, .int u36.2.2.2.2.2.2.1])), (s0, aI g 64 u36.2.2.2.2.2.2.2.1), (l0, aI g 64 u36.2.2.2.2.2.2.2.2.1), (t0, aI g 600 u36.2.2.2.2.2.2.2.2.2), (h0, .inr (3, [.ref (w 0), .ref (w 2), .ref (w 7), .ref (w 8), .ref (w 9), .ref (w 10), .ref (w 11), .ref (w 12), .ref (w 13), .int v.nu, .int v.th, .int v.it, .int (nI v.fi), .int (nI v.me), .int v.mp])), ((w 0), .inr (2, [.ref (w 1), .int (nI v.n)])), ((w 1), aB g 600 v.b), ((w 2), .inr (1, [.ref (w 3), .ref (w 4), .ref (w 5), .ref (w 6), .int (nI v.lo)])), ((w 3), aJ g 4800 v.rw), ((w 4), aB g 600 v.bg), ((w 5), aB g 600 v.wt), ((w 6), aB g 600 v.dp), ((w 7), aI g 200 v.tg), ((w 8), aI g 200 v.ca), ((w 9), aI g 200 v.fs), ((w 10), aI g 200 v.sc), ((w 11), aI g 75 v.fa), ((w 12), aI g 75 v.ma), ((w 13), aI g 75 v.co)] := hD.sub [15, 16, 17, 18, 0, 1, 2, 3, 4, 5, 6, 7, 8, 9, 10, 11, 12, 13, 14] (by decide) rfl
                      have hV36_0 := hr35
                      refine lv_iload hx hb d_Machine_begin_236 (lv_at hl 2 rfl) ?_
                      refine lv_iload hx hb d_Machine_begin_238 (lv_at hl 0 rfl) ?_
                      refine lv_iadd hx hb d_Machine_begin_240 ?_
                      refine tw_ri (e2 := nI (nx + 1)) (nI_add nx 1) ?_
                      refine lv_istore hx hb d_Machine_begin_241 hl (by decide) rfl (fun ls hl => ?_)
                      have hl : lv_has ls 9 [(6, .int (nI (nx + 1))), (8, .int 1), (7, .int (nI j)), (5, .int 1), (4, .int r6), (3, .int r5), (0, .ref mh), (1, .ref h0), (2, .int k)] := hl
                      refine lv_iinc (k := 2) (v := nI (j + 1)) hx hb d_Machine_begin_243 hl rfl ((nI_succ j).symm) (by decide) rfl (fun ls hl => ?_)
                      have hl : lv_has ls 9 [(7, .int (nI (j + 1))), (6, .int (nI (nx + 1))), (8, .int 1), (5, .int 1), (4, .int r6), (3, .int r5), (0, .ref mh), (1, .ref h0), (2, .int k)] := hl
                      refine lv_goto (tgt := 165) hx hb d_Machine_begin_246 (by decide) ?_
                      have hP : va_P g.1 classes [(mh, .inr (5, [.ref s0, .ref l0, .ref t0, .ref h0, .int (nI u36.1), .int (nI u36.2.1), .int (nI u36.2.2.1), .int (nI u36.2.2.2.1), .int u36.2.2.2.2.1, .int u36.2.2.2.2.2.1, .int u36.2.2.2.2.2.2.1])), (s0, aI g 64 u36.2.2.2.2.2.2.2.1), (l0, aI g 64 u36.2.2.2.2.2.2.2.2.1), (t0, aI g 600 u36.2.2.2.2.2.2.2.2.2), (h0, .inr (3, [.ref (w 0), .ref (w 2), .ref (w 7), .ref (w 8), .ref (w 9), .ref (w 10), .ref (w 11), .ref (w 12), .ref (w 13), .int v.nu, .int v.th, .int v.it, .int (nI v.fi), .int (nI v.me), .int v.mp])), ((w 0), .inr (2, [.ref (w 1), .int (nI v.n)])), ((w 1), aB g 600 v.b), ((w 2), .inr (1, [.ref (w 3), .ref (w 4), .ref (w 5), .ref (w 6), .int (nI v.lo)])), ((w 3), aJ g 4800 v.rw), ((w 4), aB g 600 v.bg), ((w 5), aB g 600 v.wt), ((w 6), aB g 600 v.dp), ((w 7), aI g 200 v.tg), ((w 8), aI g 200 v.ca), ((w 9), aI g 200 v.fs), ((w 10), aI g 200 v.sc), ((w 11), aI g 75 v.fa), ((w 12), aI g 75 v.ma), ((w 13), aI g 75 v.co)] H := hP.sub [0, 1, 2, 3, 4, 5, 6, 7, 8, 9, 10, 11, 12, 13, 14, 15, 16, 17, 18] rfl
                      have hD : va_D A [(mh, .inr (5, [.ref s0, .ref l0, .ref t0, .ref h0, .int (nI u36.1), .int (nI u36.2.1), .int (nI u36.2.2.1), .int (nI u36.2.2.2.1), .int u36.2.2.2.2.1, .int u36.2.2.2.2.2.1, .int u36.2.2.2.2.2.2.1])), (s0, aI g 64 u36.2.2.2.2.2.2.2.1), (l0, aI g 64 u36.2.2.2.2.2.2.2.2.1), (t0, aI g 600 u36.2.2.2.2.2.2.2.2.2), (h0, .inr (3, [.ref (w 0), .ref (w 2), .ref (w 7), .ref (w 8), .ref (w 9), .ref (w 10), .ref (w 11), .ref (w 12), .ref (w 13), .int v.nu, .int v.th, .int v.it, .int (nI v.fi), .int (nI v.me), .int v.mp])), ((w 0), .inr (2, [.ref (w 1), .int (nI v.n)])), ((w 1), aB g 600 v.b), ((w 2), .inr (1, [.ref (w 3), .ref (w 4), .ref (w 5), .ref (w 6), .int (nI v.lo)])), ((w 3), aJ g 4800 v.rw), ((w 4), aB g 600 v.bg), ((w 5), aB g 600 v.wt), ((w 6), aB g 600 v.dp), ((w 7), aI g 200 v.tg), ((w 8), aI g 200 v.ca), ((w 9), aI g 200 v.fs), ((w 10), aI g 200 v.sc), ((w 11), aI g 75 v.fa), ((w 12), aI g 75 v.ma), ((w 13), aI g 75 v.co)] := hD.sub [0, 1, 2, 3, 4, 5, 6, 7, 8, 9, 10, 11, 12, 13, 14, 15, 16, 17, 18] (by decide) rfl
                      exact ih _ (by omega) (j + 1) (nx + 1) u36.1 u36.2.1 u36.2.2.1 u36.2.2.2.1 u36.2.2.2.2.1 u36.2.2.2.2.2.1 u36.2.2.2.2.2.2.1 u36.2.2.2.2.2.2.2.1 u36.2.2.2.2.2.2.2.2.1 u36.2.2.2.2.2.2.2.2.2 ls _ _ rfl hV36_0 (by omega) (by omega) (lv_sub hl [0, 1, 3, 4, 5, 6, 7, 8] rfl) hP hD hS
                    · refine lv_bipush (v := 21) hx hb d_Machine_begin_217 (by decide) ?_
                      exact tw_iret E hS (de9, ms9, ml9, mt9, an9, oa9, wd9, sk9, lc9, lt9) ⟨trivial, hM9⟩ hP hD d_Machine_begin_219
                  · refine lv_iconst (v := 2) hx hb d_Machine_begin_198 (by decide) ?_
                    refine lv_goto (tgt := 203) hx hb d_Machine_begin_199 (by decide) ?_
                    refine lv_istore hx hb d_Machine_begin_203 hl (by decide) rfl (fun ls hl => ?_)
                    have hl : lv_has ls 9 [(8, .int 2), (7, .int (nI j)), (6, .int (nI nx)), (5, .int 1), (4, .int r6), (3, .int r5), (0, .ref mh), (1, .ref h0), (2, .int k)] := hl
                    refine lv_iload hx hb d_Machine_begin_205 (lv_at hl 2 rfl) ?_
                    refine lv_iload hx hb d_Machine_begin_207 (lv_at hl 0 rfl) ?_
                    refine lv_iadd hx hb d_Machine_begin_209 ?_
                    refine tw_ri (e2 := nI (nx + 2)) (nI_add nx 2) ?_
                    refine lv_aload_n hx hb d_Machine_begin_210 rfl (lv_at hl 6 rfl) ?_
                    refine va_get (D := g.1) (ci := 5) (v := .int (nI ml9)) (C := R_Machine) (T := F_Machine) (N := 11) hx hb hts in_Machine hown hK hP 0 rfl rfl 6 (by decide) (hts _ wd_153) (fun _ h9 => h9) rfl d_Machine_begin_211 ?_
                    refine lv_icmp_le (tgt := 220) hx hb d_Machine_begin_214 (by decide) (fun h214 => ?_) (fun h214 => ?_)
                    · have h214 := tn_le h214 (by omega) (by have := hM9.ml; omega)
                      have hml6 := hM9.ml
                      refine lv_aload_n hx hb d_Machine_begin_220 rfl (lv_at hl 6 rfl) ?_
                      refine lv_iload hx hb d_Machine_begin_221 (lv_at hl 2 rfl) ?_
                      refine lv_aload_n hx hb d_Machine_begin_223 rfl (lv_at hl 6 rfl) ?_
                      refine va_get (D := g.1) (ci := 5) (v := .ref t0) (C := R_Machine) (T := F_Machine) (N := 11) hx hb hts in_Machine hown hK hP 0 rfl rfl 2 (by decide) (hts _ wd_146) (fun _ h9 => h9) rfl d_Machine_begin_224 ?_
                      refine lv_iload hx hb d_Machine_begin_227 (lv_at hl 1 rfl) ?_
                      refine va_iald hx hb hK hP 3 0 rfl rfl (vp_in_nI (by omega) (by decide)) d_Machine_begin_229 ?_
                      obtain ⟨x37, ex37⟩ : ∃ z : Int32, lt9 ((nI j).toNatClampNeg) = z := ⟨_, rfl⟩
                      refine tw_ri (e2 := x37) ex37 ?_
                      refine tw_si (tw_runS (ws := [(mh, .inr (5, [.ref s0, .ref l0, .ref t0, .ref h0, .int (nI de9), .int (nI ms9), .int (nI ml9), .int (nI mt9), .int an9, .int oa9, .int wd9])), (s0, aI g 64 sk9), (l0, aI g 64 lc9), (t0, aI g 600 lt9), (h0, .inr (3, [.ref (w 0), .ref (w 2), .ref (w 7), .ref (w 8), .ref (w 9), .ref (w 10), .ref (w 11), .ref (w 12), .ref (w 13), .int v.nu, .int v.th, .int v.it, .int (nI v.fi), .int (nI v.me), .int v.mp])), ((w 0), .inr (2, [.ref (w 1), .int (nI v.n)])), ((w 1), aB g 600 v.b), ((w 2), .inr (1, [.ref (w 3), .ref (w 4), .ref (w 5), .ref (w 6), .int (nI v.lo)])), ((w 3), aJ g 4800 v.rw), ((w 4), aB g 600 v.bg), ((w 5), aB g 600 v.wt), ((w 6), aB g 600 v.dp), ((w 7), aI g 200 v.tg), ((w 8), aI g 200 v.ca), ((w 9), aI g 200 v.fs), ((w 10), aI g 200 v.sc), ((w 11), aI g 75 v.fa), ((w 12), aI g 75 v.ma), ((w 13), aI g 75 v.co)]) (wc := []) (As := [.int x37]) (rest := [.int (nI nx), .ref mh]) E hB hK hZ (s_Grammar_kindOf l g H.size x37) mc_Grammar_kindOf ms_Grammar_kindOf wd_778 hP hD hS hA [] rfl (by decide) rfl rfl (by decide) rfl hl.1 rfl (Nat.le_of_ble_eq_true rfl) (by decide) d_Machine_begin_230) (fun r38 hr38 => ?_)
                      refine tw_wv (wr := [(h0, .inr (3, [.ref (w 0), .ref (w 2), .ref (w 7), .ref (w 8), .ref (w 9), .ref (w 10), .ref (w 11), .ref (w 12), .ref (w 13), .int v.nu, .int v.th, .int v.it, .int (nI v.fi), .int (nI v.me), .int v.mp])), ((w 0), .inr (2, [.ref (w 1), .int (nI v.n)])), ((w 1), aB g 600 v.b), ((w 2), .inr (1, [.ref (w 3), .ref (w 4), .ref (w 5), .ref (w 6), .int (nI v.lo)])), ((w 3), aJ g 4800 v.rw), ((w 4), aB g 600 v.bg), ((w 5), aB g 600 v.wt), ((w 6), aB g 600 v.dp), ((w 7), aI g 200 v.tg), ((w 8), aI g 200 v.ca), ((w 9), aI g 200 v.fs), ((w 10), aI g 200 v.sc), ((w 11), aI g 75 v.fa), ((w 12), aI g 75 v.ma), ((w 13), aI g 75 v.co)]) (tw_runV (ws := [(mh, .inr (5, [.ref s0, .ref l0, .ref t0, .ref h0, .int (nI de9), .int (nI ms9), .int (nI ml9), .int (nI mt9), .int an9, .int oa9, .int wd9])), (s0, aI g 64 sk9), (l0, aI g 64 lc9), (t0, aI g 600 lt9), (h0, .inr (3, [.ref (w 0), .ref (w 2), .ref (w 7), .ref (w 8), .ref (w 9), .ref (w 10), .ref (w 11), .ref (w 12), .ref (w 13), .int v.nu, .int v.th, .int v.it, .int (nI v.fi), .int (nI v.me), .int v.mp])), ((w 0), .inr (2, [.ref (w 1), .int (nI v.n)])), ((w 1), aB g 600 v.b), ((w 2), .inr (1, [.ref (w 3), .ref (w 4), .ref (w 5), .ref (w 6), .int (nI v.lo)])), ((w 3), aJ g 4800 v.rw), ((w 4), aB g 600 v.bg), ((w 5), aB g 600 v.wt), ((w 6), aB g 600 v.dp), ((w 7), aI g 200 v.tg), ((w 8), aI g 200 v.ca), ((w 9), aI g 200 v.fs), ((w 10), aI g 200 v.sc), ((w 11), aI g 75 v.fa), ((w 12), aI g 75 v.ma), ((w 13), aI g 75 v.co)]) (wc := [(mh, .inr (5, [.ref s0, .ref l0, .ref t0, .ref h0, .int (nI de9), .int (nI ms9), .int (nI ml9), .int (nI mt9), .int an9, .int oa9, .int wd9])), (s0, aI g 64 sk9), (l0, aI g 64 lc9), (t0, aI g 600 lt9)]) (As := [.int (nI nx), .int r38]) (rest := []) E hB hK hZ (s_Machine_setLocal l g H.size mh s0 l0 t0 (.ref h0) de9 ms9 ml9 mt9 an9 oa9 wd9 sk9 lc9 lt9  nx r38 hM9 (by omega)) mc_Machine_setLocal mi_Machine_setLocal me_Machine_setLocal wd_779 hP hD hS hA [0, 1, 2, 3] rfl (by decide) 0 rfl rfl rfl rfl rfl (by decide) rfl hl.1 rfl (Nat.le_of_ble_eq_true rfl) (by decide) d_Machine_begin_233) hP hD hS hA [0, 1, 2, 3] [4, 5, 6, 7, 8, 9, 10, 11, 12, 13, 14, 15, 16, 17, 18] rfl rfl (by decide) (by decide) (fun u40 H locs hr39 hP hD hS => ?_)
                      try dsimp only at hr39
                      have hP : va_P g.1 classes [(h0, .inr (3, [.ref (w 0), .ref (w 2), .ref (w 7), .ref (w 8), .ref (w 9), .ref (w 10), .ref (w 11), .ref (w 12), .ref (w 13), .int v.nu, .int v.th, .int v.it, .int (nI v.fi), .int (nI v.me), .int v.mp])), ((w 0), .inr (2, [.ref (w 1), .int (nI v.n)])), ((w 1), aB g 600 v.b), ((w 2), .inr (1, [.ref (w 3), .ref (w 4), .ref (w 5), .ref (w 6), .int (nI v.lo)])), ((w 3), aJ g 4800 v.rw), ((w 4), aB g 600 v.bg), ((w 5), aB g 600 v.wt), ((w 6), aB g 600 v.dp), ((w 7), aI g 200 v.tg), ((w 8), aI g 200 v.ca), ((w 9), aI g 200 v.fs), ((w 10), aI g 200 v.sc), ((w 11), aI g 75 v.fa), ((w 12), aI g 75 v.ma), ((w 13), aI g 75 v.co), (mh, .inr (5, [.ref s0, .ref l0, .ref t0, .ref h0, .int (nI u40.1), .int (nI u40.2.1), .int (nI u40.2.2.1), .int (nI u40.2.2.2.1), .int u40.2.2.2.2.1, .int u40.2.2.2.2.2.1, .int u40.2.2.2.2.2.2.1])), (s0, aI g 64 u40.2.2.2.2.2.2.2.1), (l0, aI g 64 u40.2.2.2.2.2.2.2.2.1), (t0, aI g 600 u40.2.2.2.2.2.2.2.2.2)] H := hP
                      have hD : va_D A [(h0, .inr (3, [.ref (w 0), .ref (w 2), .ref (w 7), .ref (w 8), .ref (w 9), .ref (w 10), .ref (w 11), .ref (w 12), .ref (w 13), .int v.nu, .int v.th, .int v.it, .int (nI v.fi), .int (nI v.me), .int v.mp])), ((w 0), .inr (2, [.ref (w 1), .int (nI v.n)])), ((w 1), aB g 600 v.b), ((w 2), .inr (1, [.ref (w 3), .ref (w 4), .ref (w 5), .ref (w 6), .int (nI v.lo)])), ((w 3), aJ g 4800 v.rw), ((w 4), aB g 600 v.bg), ((w 5), aB g 600 v.wt), ((w 6), aB g 600 v.dp), ((w 7), aI g 200 v.tg), ((w 8), aI g 200 v.ca), ((w 9), aI g 200 v.fs), ((w 10), aI g 200 v.sc), ((w 11), aI g 75 v.fa), ((w 12), aI g 75 v.ma), ((w 13), aI g 75 v.co), (mh, .inr (5, [.ref s0, .ref l0, .ref t0, .ref h0, .int (nI u40.1), .int (nI u40.2.1), .int (nI u40.2.2.1), .int (nI u40.2.2.2.1), .int u40.2.2.2.2.1, .int u40.2.2.2.2.2.1, .int u40.2.2.2.2.2.2.1])), (s0, aI g 64 u40.2.2.2.2.2.2.2.1), (l0, aI g 64 u40.2.2.2.2.2.2.2.2.1), (t0, aI g 600 u40.2.2.2.2.2.2.2.2.2)] := hD
                      have hP : va_P g.1 classes [(mh, .inr (5, [.ref s0, .ref l0, .ref t0, .ref h0, .int (nI u40.1), .int (nI u40.2.1), .int (nI u40.2.2.1), .int (nI u40.2.2.2.1), .int u40.2.2.2.2.1, .int u40.2.2.2.2.2.1, .int u40.2.2.2.2.2.2.1])), (s0, aI g 64 u40.2.2.2.2.2.2.2.1), (l0, aI g 64 u40.2.2.2.2.2.2.2.2.1), (t0, aI g 600 u40.2.2.2.2.2.2.2.2.2), (h0, .inr (3, [.ref (w 0), .ref (w 2), .ref (w 7), .ref (w 8), .ref (w 9), .ref (w 10), .ref (w 11), .ref (w 12), .ref (w 13), .int v.nu, .int v.th, .int v.it, .int (nI v.fi), .int (nI v.me), .int v.mp])), ((w 0), .inr (2, [.ref (w 1), .int (nI v.n)])), ((w 1), aB g 600 v.b), ((w 2), .inr (1, [.ref (w 3), .ref (w 4), .ref (w 5), .ref (w 6), .int (nI v.lo)])), ((w 3), aJ g 4800 v.rw), ((w 4), aB g 600 v.bg), ((w 5), aB g 600 v.wt), ((w 6), aB g 600 v.dp), ((w 7), aI g 200 v.tg), ((w 8), aI g 200 v.ca), ((w 9), aI g 200 v.fs), ((w 10), aI g 200 v.sc), ((w 11), aI g 75 v.fa), ((w 12), aI g 75 v.ma), ((w 13), aI g 75 v.co)] H := hP.sub [15, 16, 17, 18, 0, 1, 2, 3, 4, 5, 6, 7, 8, 9, 10, 11, 12, 13, 14] rfl
                      have hD : va_D A [(mh, .inr (5, [.ref s0, .ref l0, .ref t0, .ref h0, .int (nI u40.1), .int (nI u40.2.1), .int (nI u40.2.2.1), .int (nI u40.2.2.2.1), .int u40.2.2.2.2.1, .int u40.2.2.2.2.2.1, .int u40.2.2.2.2.2.2.1])), (s0, aI g 64 u40.2.2.2.2.2.2.2.1), (l0, aI g 64 u40.2.2.2.2.2.2.2.2.1), (t0, aI g 600 u40.2.2.2.2.2.2.2.2.2), (h0, .inr (3, [.ref (w 0), .ref (w 2), .ref (w 7), .ref (w 8), .ref (w 9), .ref (w 10), .ref (w 11), .ref (w 12), .ref (w 13), .int v.nu, .int v.th, .int v.it, .int (nI v.fi), .int (nI v.me), .int v.mp])), ((w 0), .inr (2, [.ref (w 1), .int (nI v.n)])), ((w 1), aB g 600 v.b), ((w 2), .inr (1, [.ref (w 3), .ref (w 4), .ref (w 5), .ref (w 6), .int (nI v.lo)])), ((w 3), aJ g 4800 v.rw), ((w 4), aB g 600 v.bg), ((w 5), aB g 600 v.wt), ((w 6), aB g 600 v.dp), ((w 7), aI g 200 v.tg), ((w 8), aI g 200 v.ca), ((w 9), aI g 200 v.fs), ((w 10), aI g 200 v.sc), ((w 11), aI g 75 v.fa), ((w 12), aI g 75 v.ma), ((w 13), aI g 75 v.co)] := hD.sub [15, 16, 17, 18, 0, 1, 2, 3, 4, 5, 6, 7, 8, 9, 10, 11, 12, 13, 14] (by decide) rfl
                      have hV40_0 := hr39
                      refine lv_iload hx hb d_Machine_begin_236 (lv_at hl 2 rfl) ?_
                      refine lv_iload hx hb d_Machine_begin_238 (lv_at hl 0 rfl) ?_
                      refine lv_iadd hx hb d_Machine_begin_240 ?_
                      refine tw_ri (e2 := nI (nx + 2)) (nI_add nx 2) ?_
                      refine lv_istore hx hb d_Machine_begin_241 hl (by decide) rfl (fun ls hl => ?_)
                      have hl : lv_has ls 9 [(6, .int (nI (nx + 2))), (8, .int 2), (7, .int (nI j)), (5, .int 1), (4, .int r6), (3, .int r5), (0, .ref mh), (1, .ref h0), (2, .int k)] := hl
                      refine lv_iinc (k := 2) (v := nI (j + 1)) hx hb d_Machine_begin_243 hl rfl ((nI_succ j).symm) (by decide) rfl (fun ls hl => ?_)
                      have hl : lv_has ls 9 [(7, .int (nI (j + 1))), (6, .int (nI (nx + 2))), (8, .int 2), (5, .int 1), (4, .int r6), (3, .int r5), (0, .ref mh), (1, .ref h0), (2, .int k)] := hl
                      refine lv_goto (tgt := 165) hx hb d_Machine_begin_246 (by decide) ?_
                      have hP : va_P g.1 classes [(mh, .inr (5, [.ref s0, .ref l0, .ref t0, .ref h0, .int (nI u40.1), .int (nI u40.2.1), .int (nI u40.2.2.1), .int (nI u40.2.2.2.1), .int u40.2.2.2.2.1, .int u40.2.2.2.2.2.1, .int u40.2.2.2.2.2.2.1])), (s0, aI g 64 u40.2.2.2.2.2.2.2.1), (l0, aI g 64 u40.2.2.2.2.2.2.2.2.1), (t0, aI g 600 u40.2.2.2.2.2.2.2.2.2), (h0, .inr (3, [.ref (w 0), .ref (w 2), .ref (w 7), .ref (w 8), .ref (w 9), .ref (w 10), .ref (w 11), .ref (w 12), .ref (w 13), .int v.nu, .int v.th, .int v.it, .int (nI v.fi), .int (nI v.me), .int v.mp])), ((w 0), .inr (2, [.ref (w 1), .int (nI v.n)])), ((w 1), aB g 600 v.b), ((w 2), .inr (1, [.ref (w 3), .ref (w 4), .ref (w 5), .ref (w 6), .int (nI v.lo)])), ((w 3), aJ g 4800 v.rw), ((w 4), aB g 600 v.bg), ((w 5), aB g 600 v.wt), ((w 6), aB g 600 v.dp), ((w 7), aI g 200 v.tg), ((w 8), aI g 200 v.ca), ((w 9), aI g 200 v.fs), ((w 10), aI g 200 v.sc), ((w 11), aI g 75 v.fa), ((w 12), aI g 75 v.ma), ((w 13), aI g 75 v.co)] H := hP.sub [0, 1, 2, 3, 4, 5, 6, 7, 8, 9, 10, 11, 12, 13, 14, 15, 16, 17, 18] rfl
                      have hD : va_D A [(mh, .inr (5, [.ref s0, .ref l0, .ref t0, .ref h0, .int (nI u40.1), .int (nI u40.2.1), .int (nI u40.2.2.1), .int (nI u40.2.2.2.1), .int u40.2.2.2.2.1, .int u40.2.2.2.2.2.1, .int u40.2.2.2.2.2.2.1])), (s0, aI g 64 u40.2.2.2.2.2.2.2.1), (l0, aI g 64 u40.2.2.2.2.2.2.2.2.1), (t0, aI g 600 u40.2.2.2.2.2.2.2.2.2), (h0, .inr (3, [.ref (w 0), .ref (w 2), .ref (w 7), .ref (w 8), .ref (w 9), .ref (w 10), .ref (w 11), .ref (w 12), .ref (w 13), .int v.nu, .int v.th, .int v.it, .int (nI v.fi), .int (nI v.me), .int v.mp])), ((w 0), .inr (2, [.ref (w 1), .int (nI v.n)])), ((w 1), aB g 600 v.b), ((w 2), .inr (1, [.ref (w 3), .ref (w 4), .ref (w 5), .ref (w 6), .int (nI v.lo)])), ((w 3), aJ g 4800 v.rw), ((w 4), aB g 600 v.bg), ((w 5), aB g 600 v.wt), ((w 6), aB g 600 v.dp), ((w 7), aI g 200 v.tg), ((w 8), aI g 200 v.ca), ((w 9), aI g 200 v.fs), ((w 10), aI g 200 v.sc), ((w 11), aI g 75 v.fa), ((w 12), aI g 75 v.ma), ((w 13), aI g 75 v.co)] := hD.sub [0, 1, 2, 3, 4, 5, 6, 7, 8, 9, 10, 11, 12, 13, 14, 15, 16, 17, 18] (by decide) rfl
                      exact ih _ (by omega) (j + 1) (nx + 2) u40.1 u40.2.1 u40.2.2.1 u40.2.2.2.1 u40.2.2.2.2.1 u40.2.2.2.2.2.1 u40.2.2.2.2.2.2.1 u40.2.2.2.2.2.2.2.1 u40.2.2.2.2.2.2.2.2.1 u40.2.2.2.2.2.2.2.2.2 ls _ _ rfl hV40_0 (by omega) (by omega) (lv_sub hl [0, 1, 3, 4, 5, 6, 7, 8] rfl) hP hD hS
                    · refine lv_bipush (v := 21) hx hb d_Machine_begin_217 (by decide) ?_
                      exact tw_iret E hS (de9, ms9, ml9, mt9, an9, oa9, wd9, sk9, lc9, lt9) ⟨trivial, hM9⟩ hP hD d_Machine_begin_219
          exact loop165 _ 0 0 u10.1 u10.2.1 u10.2.2.1 u10.2.2.2.1 u10.2.2.2.2.1 u10.2.2.2.2.1 u10.2.2.2.2.2.2.1 u10.2.2.2.2.2.2.2.1 u10.2.2.2.2.2.2.2.2.1 u10.2.2.2.2.2.2.2.2.2 ls _ _ rfl hV10_0 (Nat.zero_le _) (by decide) (hl) hP hD hS
        · first | exact absurd h152 (by decide) | exact absurd (by decide) h152
      · refine lv_bipush (v := 21) hx hb d_Machine_begin_147 (by decide) ?_
        exact tw_iret E hS (u10.1, u10.2.1, u10.2.2.1, u10.2.2.2.1, u10.2.2.2.2.1, u10.2.2.2.2.1, u10.2.2.2.2.2.2.1, u10.2.2.2.2.2.2.2.1, u10.2.2.2.2.2.2.2.2.1, u10.2.2.2.2.2.2.2.2.2) ⟨trivial, hV10_0⟩ hP hD d_Machine_begin_149
end
section
theorem d_Verifier_areHandlersRight_0 : decode b_Verifier_areHandlersRight 0 = .ok (.aload_n 0, 1) := by decide +kernel
theorem d_Verifier_areHandlersRight_1 : decode b_Verifier_areHandlersRight 1 = .ok (.getfield 37, 3) := by decide +kernel
theorem d_Verifier_areHandlersRight_4 : decode b_Verifier_areHandlersRight 4 = .ok (.aload_n 0, 1) := by decide +kernel
theorem d_Verifier_areHandlersRight_5 : decode b_Verifier_areHandlersRight 5 = .ok (.getfield 68, 3) := by decide +kernel
theorem d_Verifier_areHandlersRight_8 : decode b_Verifier_areHandlersRight 8 = .ok (.invokevirtual 123, 3) := by decide +kernel
theorem d_Verifier_areHandlersRight_11 : decode b_Verifier_areHandlersRight 11 = .ok (.istore_n 1, 1) := by decide +kernel
theorem d_Verifier_areHandlersRight_12 : decode b_Verifier_areHandlersRight 12 = .ok (.iconst 0, 1) := by decide +kernel
theorem d_Verifier_areHandlersRight_13 : decode b_Verifier_areHandlersRight 13 = .ok (.istore_n 2, 1) := by decide +kernel
theorem d_Verifier_areHandlersRight_14 : decode b_Verifier_areHandlersRight 14 = .ok (.iload_n 2, 1) := by decide +kernel
theorem d_Verifier_areHandlersRight_15 : decode b_Verifier_areHandlersRight 15 = .ok (.iload_n 1, 1) := by decide +kernel
theorem d_Verifier_areHandlersRight_16 : decode b_Verifier_areHandlersRight 16 = .ok (.if_icmp .ge 133, 3) := by decide +kernel
theorem d_Verifier_areHandlersRight_19 : decode b_Verifier_areHandlersRight 19 = .ok (.aload_n 0, 1) := by decide +kernel
theorem d_Verifier_areHandlersRight_20 : decode b_Verifier_areHandlersRight 20 = .ok (.iload_n 2, 1) := by decide +kernel
theorem d_Verifier_areHandlersRight_21 : decode b_Verifier_areHandlersRight 21 = .ok (.invokevirtual 126, 3) := by decide +kernel
theorem d_Verifier_areHandlersRight_24 : decode b_Verifier_areHandlersRight 24 = .ok (.istore_n 3, 1) := by decide +kernel
theorem d_Verifier_areHandlersRight_25 : decode b_Verifier_areHandlersRight 25 = .ok (.aload_n 0, 1) := by decide +kernel
theorem d_Verifier_areHandlersRight_26 : decode b_Verifier_areHandlersRight 26 = .ok (.iload_n 3, 1) := by decide +kernel
theorem d_Verifier_areHandlersRight_27 : decode b_Verifier_areHandlersRight 27 = .ok (.iconst 0, 1) := by decide +kernel
theorem d_Verifier_areHandlersRight_28 : decode b_Verifier_areHandlersRight 28 = .ok (.invokevirtual 129, 3) := by decide +kernel
theorem d_Verifier_areHandlersRight_31 : decode b_Verifier_areHandlersRight 31 = .ok (.istore 4, 2) := by decide +kernel
theorem d_Verifier_areHandlersRight_33 : decode b_Verifier_areHandlersRight 33 = .ok (.aload_n 0, 1) := by decide +kernel
theorem d_Verifier_areHandlersRight_34 : decode b_Verifier_areHandlersRight 34 = .ok (.iload_n 3, 1) := by decide +kernel
theorem d_Verifier_areHandlersRight_35 : decode b_Verifier_areHandlersRight 35 = .ok (.iconst 1, 1) := by decide +kernel
theorem d_Verifier_areHandlersRight_36 : decode b_Verifier_areHandlersRight 36 = .ok (.invokevirtual 129, 3) := by decide +kernel
theorem d_Verifier_areHandlersRight_39 : decode b_Verifier_areHandlersRight 39 = .ok (.istore 5, 2) := by decide +kernel
theorem d_Verifier_areHandlersRight_41 : decode b_Verifier_areHandlersRight 41 = .ok (.aload_n 0, 1) := by decide +kernel
theorem d_Verifier_areHandlersRight_42 : decode b_Verifier_areHandlersRight 42 = .ok (.getfield 37, 3) := by decide +kernel
theorem d_Verifier_areHandlersRight_45 : decode b_Verifier_areHandlersRight 45 = .ok (.iload_n 3, 1) := by decide +kernel
theorem d_Verifier_areHandlersRight_46 : decode b_Verifier_areHandlersRight 46 = .ok (.bipush 6, 2) := by decide +kernel
theorem d_Verifier_areHandlersRight_48 : decode b_Verifier_areHandlersRight 48 = .ok (.iadd, 1) := by decide +kernel
theorem d_Verifier_areHandlersRight_49 : decode b_Verifier_areHandlersRight 49 = .ok (.invokevirtual 123, 3) := by decide +kernel
theorem d_Verifier_areHandlersRight_52 : decode b_Verifier_areHandlersRight 52 = .ok (.istore 6, 2) := by decide +kernel
theorem d_Verifier_areHandlersRight_54 : decode b_Verifier_areHandlersRight 54 = .ok (.iload 4, 2) := by decide +kernel
theorem d_Verifier_areHandlersRight_56 : decode b_Verifier_areHandlersRight 56 = .ok (.iload 5, 2) := by decide +kernel
theorem d_Verifier_areHandlersRight_58 : decode b_Verifier_areHandlersRight 58 = .ok (.if_icmp .ge 66, 3) := by decide +kernel
theorem d_Verifier_areHandlersRight_61 : decode b_Verifier_areHandlersRight 61 = .ok (.aload_n 0, 1) := by decide +kernel
theorem d_Verifier_areHandlersRight_62 : decode b_Verifier_areHandlersRight 62 = .ok (.iload 4, 2) := by decide +kernel
theorem d_Verifier_areHandlersRight_64 : decode b_Verifier_areHandlersRight 64 = .ok (.invokevirtual 133, 3) := by decide +kernel
theorem d_Verifier_areHandlersRight_67 : decode b_Verifier_areHandlersRight 67 = .ok (.ifCond .eq 57, 3) := by decide +kernel
theorem d_Verifier_areHandlersRight_70 : decode b_Verifier_areHandlersRight 70 = .ok (.aload_n 0, 1) := by decide +kernel
theorem d_Verifier_areHandlersRight_71 : decode b_Verifier_areHandlersRight 71 = .ok (.iload 5, 2) := by decide +kernel
theorem d_Verifier_areHandlersRight_73 : decode b_Verifier_areHandlersRight 73 = .ok (.invokevirtual 133, 3) := by decide +kernel
theorem d_Verifier_areHandlersRight_76 : decode b_Verifier_areHandlersRight 76 = .ok (.ifCond .ne 12, 3) := by decide +kernel
theorem d_Verifier_areHandlersRight_79 : decode b_Verifier_areHandlersRight 79 = .ok (.iload 5, 2) := by decide +kernel
theorem d_Verifier_areHandlersRight_81 : decode b_Verifier_areHandlersRight 81 = .ok (.aload_n 0, 1) := by decide +kernel
theorem d_Verifier_areHandlersRight_82 : decode b_Verifier_areHandlersRight 82 = .ok (.getfield 68, 3) := by decide +kernel
theorem d_Verifier_areHandlersRight_85 : decode b_Verifier_areHandlersRight 85 = .ok (.if_icmp .ne 39, 3) := by decide +kernel
theorem d_Verifier_areHandlersRight_88 : decode b_Verifier_areHandlersRight 88 = .ok (.aload_n 0, 1) := by decide +kernel
theorem d_Verifier_areHandlersRight_89 : decode b_Verifier_areHandlersRight 89 = .ok (.aload_n 0, 1) := by decide +kernel
theorem d_Verifier_areHandlersRight_90 : decode b_Verifier_areHandlersRight 90 = .ok (.iload_n 3, 1) := by decide +kernel
theorem d_Verifier_areHandlersRight_91 : decode b_Verifier_areHandlersRight 91 = .ok (.iconst 2, 1) := by decide +kernel
theorem d_Verifier_areHandlersRight_92 : decode b_Verifier_areHandlersRight 92 = .ok (.invokevirtual 129, 3) := by decide +kernel
theorem d_Verifier_areHandlersRight_95 : decode b_Verifier_areHandlersRight 95 = .ok (.invokevirtual 133, 3) := by decide +kernel
theorem d_Verifier_areHandlersRight_98 : decode b_Verifier_areHandlersRight 98 = .ok (.ifCond .eq 26, 3) := by decide +kernel
theorem d_Verifier_areHandlersRight_101 : decode b_Verifier_areHandlersRight 101 = .ok (.iload 6, 2) := by decide +kernel
theorem d_Verifier_areHandlersRight_103 : decode b_Verifier_areHandlersRight 103 = .ok (.ifCond .eq 17, 3) := by decide +kernel
theorem d_Verifier_areHandlersRight_106 : decode b_Verifier_areHandlersRight 106 = .ok (.aload_n 0, 1) := by decide +kernel
theorem d_Verifier_areHandlersRight_107 : decode b_Verifier_areHandlersRight 107 = .ok (.getfield 27, 3) := by decide +kernel
theorem d_Verifier_areHandlersRight_110 : decode b_Verifier_areHandlersRight 110 = .ok (.iload 6, 2) := by decide +kernel
theorem d_Verifier_areHandlersRight_112 : decode b_Verifier_areHandlersRight 112 = .ok (.invokevirtual 136, 3) := by decide +kernel
theorem d_Verifier_areHandlersRight_115 : decode b_Verifier_areHandlersRight 115 = .ok (.bipush 7, 2) := by decide +kernel
theorem d_Verifier_areHandlersRight_117 : decode b_Verifier_areHandlersRight 117 = .ok (.if_icmp .ne 7, 3) := by decide +kernel
theorem d_Verifier_areHandlersRight_120 : decode b_Verifier_areHandlersRight 120 = .ok (.iconst 1, 1) := by decide +kernel
theorem d_Verifier_areHandlersRight_121 : decode b_Verifier_areHandlersRight 121 = .ok (.goto 4, 3) := by decide +kernel
theorem d_Verifier_areHandlersRight_124 : decode b_Verifier_areHandlersRight 124 = .ok (.iconst 0, 1) := by decide +kernel
theorem d_Verifier_areHandlersRight_125 : decode b_Verifier_areHandlersRight 125 = .ok (.istore 7, 2) := by decide +kernel
theorem d_Verifier_areHandlersRight_127 : decode b_Verifier_areHandlersRight 127 = .ok (.iload 7, 2) := by decide +kernel
theorem d_Verifier_areHandlersRight_129 : decode b_Verifier_areHandlersRight 129 = .ok (.ifCond .ne 14, 3) := by decide +kernel
theorem d_Verifier_areHandlersRight_132 : decode b_Verifier_areHandlersRight 132 = .ok (.aload_n 0, 1) := by decide +kernel
theorem d_Verifier_areHandlersRight_133 : decode b_Verifier_areHandlersRight 133 = .ok (.getfield 43, 3) := by decide +kernel
theorem d_Verifier_areHandlersRight_136 : decode b_Verifier_areHandlersRight 136 = .ok (.bipush 20, 2) := by decide +kernel
theorem d_Verifier_areHandlersRight_138 : decode b_Verifier_areHandlersRight 138 = .ok (.iload_n 3, 1) := by decide +kernel
theorem d_Verifier_areHandlersRight_139 : decode b_Verifier_areHandlersRight 139 = .ok (.invokevirtual 86, 3) := by decide +kernel
theorem d_Verifier_areHandlersRight_142 : decode b_Verifier_areHandlersRight 142 = .ok (.ireturn, 1) := by decide +kernel
theorem d_Verifier_areHandlersRight_143 : decode b_Verifier_areHandlersRight 143 = .ok (.iinc 2 1, 3) := by decide +kernel
theorem d_Verifier_areHandlersRight_146 : decode b_Verifier_areHandlersRight 146 = .ok (.goto (-132), 3) := by decide +kernel
theorem d_Verifier_areHandlersRight_149 : decode b_Verifier_areHandlersRight 149 = .ok (.iconst 1, 1) := by decide +kernel
theorem d_Verifier_areHandlersRight_150 : decode b_Verifier_areHandlersRight 150 = .ok (.ireturn, 1) := by decide +kernel
theorem d_Verifier_handlerAt_0 : decode b_Verifier_handlerAt 0 = .ok (.aload_n 0, 1) := by decide +kernel
theorem d_Verifier_handlerAt_1 : decode b_Verifier_handlerAt 1 = .ok (.getfield 68, 3) := by decide +kernel
theorem d_Verifier_handlerAt_4 : decode b_Verifier_handlerAt 4 = .ok (.iconst 2, 1) := by decide +kernel
theorem d_Verifier_handlerAt_5 : decode b_Verifier_handlerAt 5 = .ok (.iadd, 1) := by decide +kernel
theorem d_Verifier_handlerAt_6 : decode b_Verifier_handlerAt 6 = .ok (.bipush 8, 2) := by decide +kernel
theorem d_Verifier_handlerAt_8 : decode b_Verifier_handlerAt 8 = .ok (.iload_n 1, 1) := by decide +kernel
theorem d_Verifier_handlerAt_9 : decode b_Verifier_handlerAt 9 = .ok (.imul, 1) := by decide +kernel
theorem d_Verifier_handlerAt_10 : decode b_Verifier_handlerAt 10 = .ok (.iadd, 1) := by decide +kernel
theorem d_Verifier_handlerAt_11 : decode b_Verifier_handlerAt 11 = .ok (.ireturn, 1) := by decide +kernel
theorem d_Verifier_isInstruction_0 : decode b_Verifier_isInstruction 0 = .ok (.iload_n 1, 1) := by decide +kernel
theorem d_Verifier_isInstruction_1 : decode b_Verifier_isInstruction 1 = .ok (.aload_n 0, 1) := by decide +kernel
theorem d_Verifier_isInstruction_2 : decode b_Verifier_isInstruction 2 = .ok (.getfield 62, 3) := by decide +kernel
theorem d_Verifier_isInstruction_5 : decode b_Verifier_isInstruction 5 = .ok (.if_icmp .lt 26, 3) := by decide +kernel
theorem d_Verifier_isInstruction_8 : decode b_Verifier_isInstruction 8 = .ok (.iload_n 1, 1) := by decide +kernel
theorem d_Verifier_isInstruction_9 : decode b_Verifier_isInstruction 9 = .ok (.aload_n 0, 1) := by decide +kernel
theorem d_Verifier_isInstruction_10 : decode b_Verifier_isInstruction 10 = .ok (.getfield 68, 3) := by decide +kernel
theorem d_Verifier_isInstruction_13 : decode b_Verifier_isInstruction 13 = .ok (.if_icmp .ge 18, 3) := by decide +kernel
theorem d_Verifier_isInstruction_16 : decode b_Verifier_isInstruction 16 = .ok (.aload_n 0, 1) := by decide +kernel
theorem d_Verifier_isInstruction_17 : decode b_Verifier_isInstruction 17 = .ok (.getfield 42, 3) := by decide +kernel
theorem d_Verifier_isInstruction_20 : decode b_Verifier_isInstruction 20 = .ok (.iload_n 1, 1) := by decide +kernel
theorem d_Verifier_isInstruction_21 : decode b_Verifier_isInstruction 21 = .ok (.invokevirtual 120, 3) := by decide +kernel
theorem d_Verifier_isInstruction_24 : decode b_Verifier_isInstruction 24 = .ok (.ifCond .eq 7, 3) := by decide +kernel
theorem d_Verifier_isInstruction_27 : decode b_Verifier_isInstruction 27 = .ok (.iconst 1, 1) := by decide +kernel
theorem d_Verifier_isInstruction_28 : decode b_Verifier_isInstruction 28 = .ok (.goto 4, 3) := by decide +kernel
theorem d_Verifier_isInstruction_31 : decode b_Verifier_isInstruction 31 = .ok (.iconst 0, 1) := by decide +kernel
theorem d_Verifier_isInstruction_32 : decode b_Verifier_isInstruction 32 = .ok (.ireturn, 1) := by decide +kernel
theorem d_Verifier_toldBy_0 : decode b_Verifier_toldBy 0 = .ok (.aload_n 0, 1) := by decide +kernel
theorem d_Verifier_toldBy_1 : decode b_Verifier_toldBy 1 = .ok (.getfield 62, 3) := by decide +kernel
theorem d_Verifier_toldBy_4 : decode b_Verifier_toldBy 4 = .ok (.aload_n 0, 1) := by decide +kernel
theorem d_Verifier_toldBy_5 : decode b_Verifier_toldBy 5 = .ok (.getfield 37, 3) := by decide +kernel
theorem d_Verifier_toldBy_8 : decode b_Verifier_toldBy 8 = .ok (.iload_n 1, 1) := by decide +kernel
theorem d_Verifier_toldBy_9 : decode b_Verifier_toldBy 9 = .ok (.iconst 2, 1) := by decide +kernel
theorem d_Verifier_toldBy_10 : decode b_Verifier_toldBy 10 = .ok (.iload_n 2, 1) := by decide +kernel
theorem d_Verifier_toldBy_11 : decode b_Verifier_toldBy 11 = .ok (.imul, 1) := by decide +kernel
theorem d_Verifier_toldBy_12 : decode b_Verifier_toldBy 12 = .ok (.iadd, 1) := by decide +kernel
theorem d_Verifier_toldBy_13 : decode b_Verifier_toldBy 13 = .ok (.invokevirtual 123, 3) := by decide +kernel
theorem d_Verifier_toldBy_16 : decode b_Verifier_toldBy 16 = .ok (.iadd, 1) := by decide +kernel
theorem d_Verifier_toldBy_17 : decode b_Verifier_toldBy 17 = .ok (.ireturn, 1) := by decide +kernel
end
section
set_option maxHeartbeats 4000000 in
set_option maxRecDepth 100000 in
theorem s_Verifier_handlerAt (l : Launch) (g : tw_G) (sz : Nat) (ve mh c0 n0 fn h0 : Nat) (w : Nat → Nat) (v : LY) (fr en : Int32) (a : Int32) (hI : LI v) : Met l y_Verifier_handlerAt [.code y_Verifier_handlerAt b_Verifier_handlerAt 2 (some .int)] ({ frames := 0, cells := 0, slots := 0, locals := 0 }) (tw_P g [.ref ve, .int a] [(ve, .inr (8, [.ref mh, .ref c0, .ref n0, .ref h0, .ref (w 0), .ref (w 2), .ref fn, .int fr, .int en])), (h0, .inr (3, [.ref (w 0), .ref (w 2), .ref (w 7), .ref (w 8), .ref (w 9), .ref (w 10), .ref (w 11), .ref (w 12), .ref (w 13), .int v.nu, .int v.th, .int v.it, .int (nI v.fi), .int (nI v.me), .int v.mp])), ((w 0), .inr (2, [.ref (w 1), .int (nI v.n)])), ((w 1), aB g 600 v.b), ((w 2), .inr (1, [.ref (w 3), .ref (w 4), .ref (w 5), .ref (w 6), .int (nI v.lo)])), ((w 3), aJ g 4800 v.rw), ((w 4), aB g 600 v.bg), ((w 5), aB g 600 v.wt), ((w 6), aB g 600 v.dp), ((w 7), aI g 200 v.tg), ((w 8), aI g 200 v.ca), ((w 9), aI g 200 v.fs), ((w 10), aI g 200 v.sc), ((w 11), aI g 75 v.fa), ((w 12), aI g 75 v.ma), ((w 13), aI g 75 v.co)] sz) (vp_Si (fun _ => True)) 0 0 (fun _ => False) := by
  refine tw_met (l := l) (g := g) (y := y_Verifier_handlerAt) (cc := b_Verifier_handlerAt) (maxL := 2) (ret := (some .int)) (rm := { frames := 0, cells := 0, slots := 0, locals := 0 }) (mc := 0) (ms := 0) (av := [.ref ve, .int a]) (ws := [(ve, .inr (8, [.ref mh, .ref c0, .ref n0, .ref h0, .ref (w 0), .ref (w 2), .ref fn, .int fr, .int en])), (h0, .inr (3, [.ref (w 0), .ref (w 2), .ref (w 7), .ref (w 8), .ref (w 9), .ref (w 10), .ref (w 11), .ref (w 12), .ref (w 13), .int v.nu, .int v.th, .int v.it, .int (nI v.fi), .int (nI v.me), .int v.mp])), ((w 0), .inr (2, [.ref (w 1), .int (nI v.n)])), ((w 1), aB g 600 v.b), ((w 2), .inr (1, [.ref (w 3), .ref (w 4), .ref (w 5), .ref (w 6), .int (nI v.lo)])), ((w 3), aJ g 4800 v.rw), ((w 4), aB g 600 v.bg), ((w 5), aB g 600 v.wt), ((w 6), aB g 600 v.dp), ((w 7), aI g 200 v.tg), ((w 8), aI g 200 v.ca), ((w 9), aI g 200 v.fs), ((w 10), aI g 200 v.sc), ((w 11), aI g 75 v.fa), ((w 12), aI g 75 v.ma), ((w 13), aI g 75 v.co)]) (sz := sz) (Qc := fun _ => (vp_Si (fun _ => True))) (free := fun _ _ => False) (by decide) (Nat.le_of_ble_eq_true rfl) ?_
  intro p e s m below meth c ls A E hB hK hZ hP hD hS hA hl
  obtain ⟨hx, hb, hml, hr, hown, hts, hlocks, hin⟩ := id E
  have hl : lv_has ls 2 [(0, .ref ve), (1, .int a)] := hl
  refine lv_aload_n hx hb d_Verifier_handlerAt_0 rfl (lv_at hl 0 rfl) ?_
  refine va_get (D := g.1) (ci := 8) (v := .int en) (C := R_Verifier) (T := F_Verifier) (N := 9) hx hb hts in_Verifier hown hK hP 0 rfl rfl 8 (by decide) (hts _ wd_190) (fun _ h9 => h9) rfl d_Verifier_handlerAt_1 ?_
  refine lv_iconst (v := 2) hx hb d_Verifier_handlerAt_4 (by decide) ?_
  refine lv_iadd hx hb d_Verifier_handlerAt_5 ?_
  obtain ⟨x1, ex1⟩ : ∃ z : Int32, en + 2 = z := ⟨_, rfl⟩
  refine tw_ri (e2 := x1) ex1 ?_
  refine lv_bipush (v := 8) hx hb d_Verifier_handlerAt_6 (by decide) ?_
  refine lv_iload_n hx hb d_Verifier_handlerAt_8 rfl (lv_at hl 1 rfl) ?_
  refine lv_imul hx hb d_Verifier_handlerAt_9 ?_
  obtain ⟨x2, ex2⟩ : ∃ z : Int32, 8 * a = z := ⟨_, rfl⟩
  refine tw_ri (e2 := x2) ex2 ?_
  refine lv_iadd hx hb d_Verifier_handlerAt_10 ?_
  obtain ⟨x3, ex3⟩ : ∃ z : Int32, x1 + x2 = z := ⟨_, rfl⟩
  refine tw_ri (e2 := x3) ex3 ?_
  exact tw_isret E trivial d_Verifier_handlerAt_11
set_option maxHeartbeats 4000000 in
set_option maxRecDepth 100000 in
theorem s_Verifier_toldBy (l : Launch) (g : tw_G) (sz : Nat) (ve mh c0 n0 fn h0 : Nat) (w : Nat → Nat) (v : LY) (fr en : Int32) (a : Int32) (b : Int32) (hI : LI v) : Met l y_Verifier_toldBy [.code y_Verifier_toldBy b_Verifier_toldBy 3 (some .int)] ({ frames := 2, cells := 0, slots := 0, locals := 44 }) (tw_P g [.ref ve, .int a, .int b] [(ve, .inr (8, [.ref mh, .ref c0, .ref n0, .ref h0, .ref (w 0), .ref (w 2), .ref fn, .int fr, .int en])), (h0, .inr (3, [.ref (w 0), .ref (w 2), .ref (w 7), .ref (w 8), .ref (w 9), .ref (w 10), .ref (w 11), .ref (w 12), .ref (w 13), .int v.nu, .int v.th, .int v.it, .int (nI v.fi), .int (nI v.me), .int v.mp])), ((w 0), .inr (2, [.ref (w 1), .int (nI v.n)])), ((w 1), aB g 600 v.b), ((w 2), .inr (1, [.ref (w 3), .ref (w 4), .ref (w 5), .ref (w 6), .int (nI v.lo)])), ((w 3), aJ g 4800 v.rw), ((w 4), aB g 600 v.bg), ((w 5), aB g 600 v.wt), ((w 6), aB g 600 v.dp), ((w 7), aI g 200 v.tg), ((w 8), aI g 200 v.ca), ((w 9), aI g 200 v.fs), ((w 10), aI g 200 v.sc), ((w 11), aI g 75 v.fa), ((w 12), aI g 75 v.ma), ((w 13), aI g 75 v.co)] sz) (vp_Si (fun _ => True)) 0 0 (fun _ => False) := by
  refine tw_met (l := l) (g := g) (y := y_Verifier_toldBy) (cc := b_Verifier_toldBy) (maxL := 3) (ret := (some .int)) (rm := { frames := 2, cells := 0, slots := 0, locals := 44 }) (mc := 0) (ms := 0) (av := [.ref ve, .int a, .int b]) (ws := [(ve, .inr (8, [.ref mh, .ref c0, .ref n0, .ref h0, .ref (w 0), .ref (w 2), .ref fn, .int fr, .int en])), (h0, .inr (3, [.ref (w 0), .ref (w 2), .ref (w 7), .ref (w 8), .ref (w 9), .ref (w 10), .ref (w 11), .ref (w 12), .ref (w 13), .int v.nu, .int v.th, .int v.it, .int (nI v.fi), .int (nI v.me), .int v.mp])), ((w 0), .inr (2, [.ref (w 1), .int (nI v.n)])), ((w 1), aB g 600 v.b), ((w 2), .inr (1, [.ref (w 3), .ref (w 4), .ref (w 5), .ref (w 6), .int (nI v.lo)])), ((w 3), aJ g 4800 v.rw), ((w 4), aB g 600 v.bg), ((w 5), aB g 600 v.wt), ((w 6), aB g 600 v.dp), ((w 7), aI g 200 v.tg), ((w 8), aI g 200 v.ca), ((w 9), aI g 200 v.fs), ((w 10), aI g 200 v.sc), ((w 11), aI g 75 v.fa), ((w 12), aI g 75 v.ma), ((w 13), aI g 75 v.co)]) (sz := sz) (Qc := fun _ => (vp_Si (fun _ => True))) (free := fun _ _ => False) (by decide) (Nat.le_of_ble_eq_true rfl) ?_
  intro p e s m below meth c ls A E hB hK hZ hP hD hS hA hl
  obtain ⟨hx, hb, hml, hr, hown, hts, hlocks, hin⟩ := id E
  have hl : lv_has ls 3 [(0, .ref ve), (1, .int a), (2, .int b)] := hl
  refine lv_aload_n hx hb d_Verifier_toldBy_0 rfl (lv_at hl 0 rfl) ?_
  refine va_get (D := g.1) (ci := 8) (v := .int fr) (C := R_Verifier) (T := F_Verifier) (N := 9) hx hb hts in_Verifier hown hK hP 0 rfl rfl 7 (by decide) (hts _ wd_189) (fun _ h9 => h9) rfl d_Verifier_toldBy_1 ?_
  refine lv_aload_n hx hb d_Verifier_toldBy_4 rfl (lv_at hl 0 rfl) ?_
  refine va_get (D := g.1) (ci := 8) (v := .ref (w 0)) (C := R_Verifier) (T := F_Verifier) (N := 9) hx hb hts in_Verifier hown hK hP 0 rfl rfl 4 (by decide) (hts _ wd_186) (fun _ h9 => h9) rfl d_Verifier_toldBy_5 ?_
  refine lv_iload_n hx hb d_Verifier_toldBy_8 rfl (lv_at hl 1 rfl) ?_
  refine lv_iconst (v := 2) hx hb d_Verifier_toldBy_9 (by decide) ?_
  refine lv_iload_n hx hb d_Verifier_toldBy_10 rfl (lv_at hl 2 rfl) ?_
  refine lv_imul hx hb d_Verifier_toldBy_11 ?_
  obtain ⟨x1, ex1⟩ : ∃ z : Int32, 2 * b = z := ⟨_, rfl⟩
  refine tw_ri (e2 := x1) ex1 ?_
  refine lv_iadd hx hb d_Verifier_toldBy_12 ?_
  obtain ⟨x2, ex2⟩ : ∃ z : Int32, a + x1 = z := ⟨_, rfl⟩
  refine tw_ri (e2 := x2) ex2 ?_
  refine tw_si (tw_runV (ws := [(ve, .inr (8, [.ref mh, .ref c0, .ref n0, .ref h0, .ref (w 0), .ref (w 2), .ref fn, .int fr, .int en])), (h0, .inr (3, [.ref (w 0), .ref (w 2), .ref (w 7), .ref (w 8), .ref (w 9), .ref (w 10), .ref (w 11), .ref (w 12), .ref (w 13), .int v.nu, .int v.th, .int v.it, .int (nI v.fi), .int (nI v.me), .int v.mp])), ((w 0), .inr (2, [.ref (w 1), .int (nI v.n)])), ((w 1), aB g 600 v.b), ((w 2), .inr (1, [.ref (w 3), .ref (w 4), .ref (w 5), .ref (w 6), .int (nI v.lo)])), ((w 3), aJ g 4800 v.rw), ((w 4), aB g 600 v.bg), ((w 5), aB g 600 v.wt), ((w 6), aB g 600 v.dp), ((w 7), aI g 200 v.tg), ((w 8), aI g 200 v.ca), ((w 9), aI g 200 v.fs), ((w 10), aI g 200 v.sc), ((w 11), aI g 75 v.fa), ((w 12), aI g 75 v.ma), ((w 13), aI g 75 v.co)]) (wc := [((w 0), .inr (2, [.ref (w 1), .int (nI v.n)])), ((w 1), aB g 600 v.b)]) (As := [.int x2]) (rest := [.int fr]) E hB hK hZ (s_Image_twoAt l g s.heap.size (w 0) (w 1) v.n v.b x2 hI.n) mc_Image_twoAt mi_Image_twoAt me_Image_twoAt wd_740 hP hD hS hA [2, 3] rfl (by decide) 0 rfl rfl rfl rfl rfl (by decide) rfl hl.1 rfl (Nat.le_of_ble_eq_true rfl) (by decide) d_Verifier_toldBy_13) (fun r3 hr3 => ?_)
  refine lv_iadd hx hb d_Verifier_toldBy_16 ?_
  obtain ⟨x4, ex4⟩ : ∃ z : Int32, fr + r3 = z := ⟨_, rfl⟩
  refine tw_ri (e2 := x4) ex4 ?_
  exact tw_isret E trivial d_Verifier_toldBy_17
set_option maxHeartbeats 4000000 in
set_option maxRecDepth 100000 in
theorem s_Verifier_isInstruction (l : Launch) (g : tw_G) (sz : Nat) (ve mh c0 n0 fn h0 : Nat) (w : Nat → Nat) (v : LY) (fr en : Int32) (a : Int32) (hI : LI v) : Met l y_Verifier_isInstruction [.code y_Verifier_isInstruction b_Verifier_isInstruction 2 (some .boolean)] ({ frames := 2, cells := 0, slots := 0, locals := 41 }) (tw_P g [.ref ve, .int a] [(ve, .inr (8, [.ref mh, .ref c0, .ref n0, .ref h0, .ref (w 0), .ref (w 2), .ref fn, .int fr, .int en])), (h0, .inr (3, [.ref (w 0), .ref (w 2), .ref (w 7), .ref (w 8), .ref (w 9), .ref (w 10), .ref (w 11), .ref (w 12), .ref (w 13), .int v.nu, .int v.th, .int v.it, .int (nI v.fi), .int (nI v.me), .int v.mp])), ((w 0), .inr (2, [.ref (w 1), .int (nI v.n)])), ((w 1), aB g 600 v.b), ((w 2), .inr (1, [.ref (w 3), .ref (w 4), .ref (w 5), .ref (w 6), .int (nI v.lo)])), ((w 3), aJ g 4800 v.rw), ((w 4), aB g 600 v.bg), ((w 5), aB g 600 v.wt), ((w 6), aB g 600 v.dp), ((w 7), aI g 200 v.tg), ((w 8), aI g 200 v.ca), ((w 9), aI g 200 v.fs), ((w 10), aI g 200 v.sc), ((w 11), aI g 75 v.fa), ((w 12), aI g 75 v.ma), ((w 13), aI g 75 v.co)] sz) (vp_Si (fun r => r = 0 ∨ r = 1)) 0 0 (fun _ => False) := by
  refine tw_met (l := l) (g := g) (y := y_Verifier_isInstruction) (cc := b_Verifier_isInstruction) (maxL := 2) (ret := (some .boolean)) (rm := { frames := 2, cells := 0, slots := 0, locals := 41 }) (mc := 0) (ms := 0) (av := [.ref ve, .int a]) (ws := [(ve, .inr (8, [.ref mh, .ref c0, .ref n0, .ref h0, .ref (w 0), .ref (w 2), .ref fn, .int fr, .int en])), (h0, .inr (3, [.ref (w 0), .ref (w 2), .ref (w 7), .ref (w 8), .ref (w 9), .ref (w 10), .ref (w 11), .ref (w 12), .ref (w 13), .int v.nu, .int v.th, .int v.it, .int (nI v.fi), .int (nI v.me), .int v.mp])), ((w 0), .inr (2, [.ref (w 1), .int (nI v.n)])), ((w 1), aB g 600 v.b), ((w 2), .inr (1, [.ref (w 3), .ref (w 4), .ref (w 5), .ref (w 6), .int (nI v.lo)])), ((w 3), aJ g 4800 v.rw), ((w 4), aB g 600 v.bg), ((w 5), aB g 600 v.wt), ((w 6), aB g 600 v.dp), ((w 7), aI g 200 v.tg), ((w 8), aI g 200 v.ca), ((w 9), aI g 200 v.fs), ((w 10), aI g 200 v.sc), ((w 11), aI g 75 v.fa), ((w 12), aI g 75 v.ma), ((w 13), aI g 75 v.co)]) (sz := sz) (Qc := fun _ => (vp_Si (fun r => r = 0 ∨ r = 1))) (free := fun _ _ => False) (by decide) (Nat.le_of_ble_eq_true rfl) ?_
  intro p e s m below meth c ls A E hB hK hZ hP hD hS hA hl
  obtain ⟨hx, hb, hml, hr, hown, hts, hlocks, hin⟩ := id E
  have hl : lv_has ls 2 [(0, .ref ve), (1, .int a)] := hl
  refine lv_iload_n hx hb d_Verifier_isInstruction_0 rfl (lv_at hl 1 rfl) ?_
  refine lv_aload_n hx hb d_Verifier_isInstruction_1 rfl (lv_at hl 0 rfl) ?_
  refine va_get (D := g.1) (ci := 8) (v := .int fr) (C := R_Verifier) (T := F_Verifier) (N := 9) hx hb hts in_Verifier hown hK hP 0 rfl rfl 7 (by decide) (hts _ wd_189) (fun _ h9 => h9) rfl d_Verifier_isInstruction_2 ?_
  refine lv_icmp_lt (tgt := 31) hx hb d_Verifier_isInstruction_5 (by decide) (fun h5 => ?_) (fun h5 => ?_)
  · refine lv_iconst (v := 0) hx hb d_Verifier_isInstruction_31 (by decide) ?_
    exact tw_zsret E (by decide) (by decide) d_Verifier_isInstruction_32
  · refine lv_iload_n hx hb d_Verifier_isInstruction_8 rfl (lv_at hl 1 rfl) ?_
    refine lv_aload_n hx hb d_Verifier_isInstruction_9 rfl (lv_at hl 0 rfl) ?_
    refine va_get (D := g.1) (ci := 8) (v := .int en) (C := R_Verifier) (T := F_Verifier) (N := 9) hx hb hts in_Verifier hown hK hP 0 rfl rfl 8 (by decide) (hts _ wd_190) (fun _ h9 => h9) rfl d_Verifier_isInstruction_10 ?_
    refine lv_icmp_ge (tgt := 31) hx hb d_Verifier_isInstruction_13 (by decide) (fun h13 => ?_) (fun h13 => ?_)
    · refine lv_iconst (v := 0) hx hb d_Verifier_isInstruction_31 (by decide) ?_
      exact tw_zsret E (by decide) (by decide) d_Verifier_isInstruction_32
    · refine lv_aload_n hx hb d_Verifier_isInstruction_16 rfl (lv_at hl 0 rfl) ?_
      refine va_get (D := g.1) (ci := 8) (v := .ref (w 2)) (C := R_Verifier) (T := F_Verifier) (N := 9) hx hb hts in_Verifier hown hK hP 0 rfl rfl 5 (by decide) (hts _ wd_187) (fun _ h9 => h9) rfl d_Verifier_isInstruction_17 ?_
      refine lv_iload_n hx hb d_Verifier_isInstruction_20 rfl (lv_at hl 1 rfl) ?_
      refine tw_si (tw_runV (ws := [(ve, .inr (8, [.ref mh, .ref c0, .ref n0, .ref h0, .ref (w 0), .ref (w 2), .ref fn, .int fr, .int en])), (h0, .inr (3, [.ref (w 0), .ref (w 2), .ref (w 7), .ref (w 8), .ref (w 9), .ref (w 10), .ref (w 11), .ref (w 12), .ref (w 13), .int v.nu, .int v.th, .int v.it, .int (nI v.fi), .int (nI v.me), .int v.mp])), ((w 0), .inr (2, [.ref (w 1), .int (nI v.n)])), ((w 1), aB g 600 v.b), ((w 2), .inr (1, [.ref (w 3), .ref (w 4), .ref (w 5), .ref (w 6), .int (nI v.lo)])), ((w 3), aJ g 4800 v.rw), ((w 4), aB g 600 v.bg), ((w 5), aB g 600 v.wt), ((w 6), aB g 600 v.dp), ((w 7), aI g 200 v.tg), ((w 8), aI g 200 v.ca), ((w 9), aI g 200 v.fs), ((w 10), aI g 200 v.sc), ((w 11), aI g 75 v.fa), ((w 12), aI g 75 v.ma), ((w 13), aI g 75 v.co)]) (wc := [((w 2), .inr (1, [.ref (w 3), .ref (w 4), .ref (w 5), .ref (w 6), .int (nI v.lo)])), ((w 3), aJ g 4800 v.rw), ((w 4), aB g 600 v.bg), ((w 5), aB g 600 v.wt), ((w 6), aB g 600 v.dp)]) (As := [.int a]) (rest := []) E hB hK hZ (s_Frames_isBegin l g s.heap.size (w 2) w v.lo v.rw v.bg v.wt v.dp a (LI.fr hI)) mc_Frames_isBegin mi_Frames_isBegin me_Frames_isBegin wd_753 hP hD hS hA [4, 5, 6, 7, 8] rfl (by decide) 0 rfl rfl rfl rfl rfl (by decide) rfl hl.1 rfl (Nat.le_of_ble_eq_true rfl) (by decide) d_Verifier_isInstruction_21) (fun r1 hr1 => ?_)
      refine lv_if_eq (tgt := 31) hx hb d_Verifier_isInstruction_24 (by decide) (fun h24 => ?_) (fun h24 => ?_)
      · refine lv_iconst (v := 0) hx hb d_Verifier_isInstruction_31 (by decide) ?_
        exact tw_zsret E (by decide) (by decide) d_Verifier_isInstruction_32
      · refine lv_iconst (v := 1) hx hb d_Verifier_isInstruction_27 (by decide) ?_
        refine lv_goto (tgt := 32) hx hb d_Verifier_isInstruction_28 (by decide) ?_
        exact tw_zsret E (by decide) (by decide) d_Verifier_isInstruction_32
set_option maxHeartbeats 4000000 in
set_option maxRecDepth 100000 in
theorem s_Verifier_areHandlersRight (l : Launch) (g : tw_G) (sz : Nat) (ve mh c0 n0 fn h0 : Nat) (w : Nat → Nat) (v : LY) (fr en : Int32) (fa : Int32) (fp : Int32) (hI : LI v) : Met l y_Verifier_areHandlersRight [.code y_Verifier_areHandlersRight b_Verifier_areHandlersRight 8 (some .boolean)] ({ frames := 3, cells := 0, slots := 0, locals := 66 }) (tw_P g [.ref ve] [(ve, .inr (8, [.ref mh, .ref c0, .ref n0, .ref h0, .ref (w 0), .ref (w 2), .ref fn, .int fr, .int en])), (fn, .inr (0, [.int fa, .int fp])), (h0, .inr (3, [.ref (w 0), .ref (w 2), .ref (w 7), .ref (w 8), .ref (w 9), .ref (w 10), .ref (w 11), .ref (w 12), .ref (w 13), .int v.nu, .int v.th, .int v.it, .int (nI v.fi), .int (nI v.me), .int v.mp])), ((w 0), .inr (2, [.ref (w 1), .int (nI v.n)])), ((w 1), aB g 600 v.b), ((w 2), .inr (1, [.ref (w 3), .ref (w 4), .ref (w 5), .ref (w 6), .int (nI v.lo)])), ((w 3), aJ g 4800 v.rw), ((w 4), aB g 600 v.bg), ((w 5), aB g 600 v.wt), ((w 6), aB g 600 v.dp), ((w 7), aI g 200 v.tg), ((w 8), aI g 200 v.ca), ((w 9), aI g 200 v.fs), ((w 10), aI g 200 v.sc), ((w 11), aI g 75 v.fa), ((w 12), aI g 75 v.ma), ((w 13), aI g 75 v.co)] sz) (tw_Qi g (fun r (u : Int32 × Int32) => (r = 0 ∨ r = 1)) (fun u : Int32 × Int32 => [(ve, .inr (8, [.ref mh, .ref c0, .ref n0, .ref h0, .ref (w 0), .ref (w 2), .ref fn, .int fr, .int en])), (fn, .inr (0, [.int u.1, .int u.2])), (h0, .inr (3, [.ref (w 0), .ref (w 2), .ref (w 7), .ref (w 8), .ref (w 9), .ref (w 10), .ref (w 11), .ref (w 12), .ref (w 13), .int v.nu, .int v.th, .int v.it, .int (nI v.fi), .int (nI v.me), .int v.mp])), ((w 0), .inr (2, [.ref (w 1), .int (nI v.n)])), ((w 1), aB g 600 v.b), ((w 2), .inr (1, [.ref (w 3), .ref (w 4), .ref (w 5), .ref (w 6), .int (nI v.lo)])), ((w 3), aJ g 4800 v.rw), ((w 4), aB g 600 v.bg), ((w 5), aB g 600 v.wt), ((w 6), aB g 600 v.dp), ((w 7), aI g 200 v.tg), ((w 8), aI g 200 v.ca), ((w 9), aI g 200 v.fs), ((w 10), aI g 200 v.sc), ((w 11), aI g 75 v.fa), ((w 12), aI g 75 v.ma), ((w 13), aI g 75 v.co)]) (va_A [(ve, .inr (8, [.ref mh, .ref c0, .ref n0, .ref h0, .ref (w 0), .ref (w 2), .ref fn, .int fr, .int en])), (fn, .inr (0, [.int fa, .int fp])), (h0, .inr (3, [.ref (w 0), .ref (w 2), .ref (w 7), .ref (w 8), .ref (w 9), .ref (w 10), .ref (w 11), .ref (w 12), .ref (w 13), .int v.nu, .int v.th, .int v.it, .int (nI v.fi), .int (nI v.me), .int v.mp])), ((w 0), .inr (2, [.ref (w 1), .int (nI v.n)])), ((w 1), aB g 600 v.b), ((w 2), .inr (1, [.ref (w 3), .ref (w 4), .ref (w 5), .ref (w 6), .int (nI v.lo)])), ((w 3), aJ g 4800 v.rw), ((w 4), aB g 600 v.bg), ((w 5), aB g 600 v.wt), ((w 6), aB g 600 v.dp), ((w 7), aI g 200 v.tg), ((w 8), aI g 200 v.ca), ((w 9), aI g 200 v.fs), ((w 10), aI g 200 v.sc), ((w 11), aI g 75 v.fa), ((w 12), aI g 75 v.ma), ((w 13), aI g 75 v.co)] sz)) 0 0 (va_A [(ve, .inr (8, [.ref mh, .ref c0, .ref n0, .ref h0, .ref (w 0), .ref (w 2), .ref fn, .int fr, .int en])), (fn, .inr (0, [.int fa, .int fp])), (h0, .inr (3, [.ref (w 0), .ref (w 2), .ref (w 7), .ref (w 8), .ref (w 9), .ref (w 10), .ref (w 11), .ref (w 12), .ref (w 13), .int v.nu, .int v.th, .int v.it, .int (nI v.fi), .int (nI v.me), .int v.mp])), ((w 0), .inr (2, [.ref (w 1), .int (nI v.n)])), ((w 1), aB g 600 v.b), ((w 2), .inr (1, [.ref (w 3), .ref (w 4), .ref (w 5), .ref (w 6), .int (nI v.lo)])), ((w 3), aJ g 4800 v.rw), ((w 4), aB g 600 v.bg), ((w 5), aB g 600 v.wt), ((w 6), aB g 600 v.dp), ((w 7), aI g 200 v.tg), ((w 8), aI g 200 v.ca), ((w 9), aI g 200 v.fs), ((w 10), aI g 200 v.sc), ((w 11), aI g 75 v.fa), ((w 12), aI g 75 v.ma), ((w 13), aI g 75 v.co)] sz) := by
  refine tw_metW (l := l) (g := g) (y := y_Verifier_areHandlersRight) (cc := b_Verifier_areHandlersRight) (maxL := 8) (ret := (some .boolean)) (rm := { frames := 3, cells := 0, slots := 0, locals := 66 }) (mc := 0) (ms := 0) (av := [.ref ve]) (ws := [(ve, .inr (8, [.ref mh, .ref c0, .ref n0, .ref h0, .ref (w 0), .ref (w 2), .ref fn, .int fr, .int en])), (fn, .inr (0, [.int fa, .int fp])), (h0, .inr (3, [.ref (w 0), .ref (w 2), .ref (w 7), .ref (w 8), .ref (w 9), .ref (w 10), .ref (w 11), .ref (w 12), .ref (w 13), .int v.nu, .int v.th, .int v.it, .int (nI v.fi), .int (nI v.me), .int v.mp])), ((w 0), .inr (2, [.ref (w 1), .int (nI v.n)])), ((w 1), aB g 600 v.b), ((w 2), .inr (1, [.ref (w 3), .ref (w 4), .ref (w 5), .ref (w 6), .int (nI v.lo)])), ((w 3), aJ g 4800 v.rw), ((w 4), aB g 600 v.bg), ((w 5), aB g 600 v.wt), ((w 6), aB g 600 v.dp), ((w 7), aI g 200 v.tg), ((w 8), aI g 200 v.ca), ((w 9), aI g 200 v.fs), ((w 10), aI g 200 v.sc), ((w 11), aI g 75 v.fa), ((w 12), aI g 75 v.ma), ((w 13), aI g 75 v.co)]) (sz := sz) (Qc := fun A => (tw_Qi g (fun r (u : Int32 × Int32) => (r = 0 ∨ r = 1)) (fun u : Int32 × Int32 => [(ve, .inr (8, [.ref mh, .ref c0, .ref n0, .ref h0, .ref (w 0), .ref (w 2), .ref fn, .int fr, .int en])), (fn, .inr (0, [.int u.1, .int u.2])), (h0, .inr (3, [.ref (w 0), .ref (w 2), .ref (w 7), .ref (w 8), .ref (w 9), .ref (w 10), .ref (w 11), .ref (w 12), .ref (w 13), .int v.nu, .int v.th, .int v.it, .int (nI v.fi), .int (nI v.me), .int v.mp])), ((w 0), .inr (2, [.ref (w 1), .int (nI v.n)])), ((w 1), aB g 600 v.b), ((w 2), .inr (1, [.ref (w 3), .ref (w 4), .ref (w 5), .ref (w 6), .int (nI v.lo)])), ((w 3), aJ g 4800 v.rw), ((w 4), aB g 600 v.bg), ((w 5), aB g 600 v.wt), ((w 6), aB g 600 v.dp), ((w 7), aI g 200 v.tg), ((w 8), aI g 200 v.ca), ((w 9), aI g 200 v.fs), ((w 10), aI g 200 v.sc), ((w 11), aI g 75 v.fa), ((w 12), aI g 75 v.ma), ((w 13), aI g 75 v.co)]) A)) (by decide) (Nat.le_of_ble_eq_true rfl) ?_
  intro p e s m below meth c ls H A E hB hK hZ hP hD hS hA hl
  obtain ⟨hx, hb, hml, hr, hown, hts, hlocks, hin⟩ := id E
  have hl : lv_has ls 8 [(0, .ref ve)] := hl
  refine lv_aload_n hx hb d_Verifier_areHandlersRight_0 rfl (lv_at hl 0 rfl) ?_
  refine va_get (D := g.1) (ci := 8) (v := .ref (w 0)) (C := R_Verifier) (T := F_Verifier) (N := 9) hx hb hts in_Verifier hown hK hP 0 rfl rfl 4 (by decide) (hts _ wd_186) (fun _ h9 => h9) rfl d_Verifier_areHandlersRight_1 ?_
  refine lv_aload_n hx hb d_Verifier_areHandlersRight_4 rfl (lv_at hl 0 rfl) ?_
  refine va_get (D := g.1) (ci := 8) (v := .int en) (C := R_Verifier) (T := F_Verifier) (N := 9) hx hb hts in_Verifier hown hK hP 0 rfl rfl 8 (by decide) (hts _ wd_190) (fun _ h9 => h9) rfl d_Verifier_areHandlersRight_5 ?_
  refine tw_si (tw_runV (ws := [(ve, .inr (8, [.ref mh, .ref c0, .ref n0, .ref h0, .ref (w 0), .ref (w 2), .ref fn, .int fr, .int en])), (fn, .inr (0, [.int fa, .int fp])), (h0, .inr (3, [.ref (w 0), .ref (w 2), .ref (w 7), .ref (w 8), .ref (w 9), .ref (w 10), .ref (w 11), .ref (w 12), .ref (w 13), .int v.nu, .int v.th, .int v.it, .int (nI v.fi), .int (nI v.me), .int v.mp])), ((w 0), .inr (2, [.ref (w 1), .int (nI v.n)])), ((w 1), aB g 600 v.b), ((w 2), .inr (1, [.ref (w 3), .ref (w 4), .ref (w 5), .ref (w 6), .int (nI v.lo)])), ((w 3), aJ g 4800 v.rw), ((w 4), aB g 600 v.bg), ((w 5), aB g 600 v.wt), ((w 6), aB g 600 v.dp), ((w 7), aI g 200 v.tg), ((w 8), aI g 200 v.ca), ((w 9), aI g 200 v.fs), ((w 10), aI g 200 v.sc), ((w 11), aI g 75 v.fa), ((w 12), aI g 75 v.ma), ((w 13), aI g 75 v.co)]) (wc := [((w 0), .inr (2, [.ref (w 1), .int (nI v.n)])), ((w 1), aB g 600 v.b)]) (As := [.int en]) (rest := []) E hB hK hZ (s_Image_twoAt l g H.size (w 0) (w 1) v.n v.b en hI.n) mc_Image_twoAt mi_Image_twoAt me_Image_twoAt wd_740 hP hD hS hA [3, 4] rfl (by decide) 0 rfl rfl rfl rfl rfl (by decide) rfl hl.1 rfl (Nat.le_of_ble_eq_true rfl) (by decide) d_Verifier_areHandlersRight_8) (fun r1 hr1 => ?_)
  refine lv_istore_n hx hb d_Verifier_areHandlersRight_11 rfl hl (by decide) rfl (fun ls hl => ?_)
  have hl : lv_has ls 8 [(1, .int r1), (0, .ref ve)] := hl
  refine lv_iconst (v := 0) hx hb d_Verifier_areHandlersRight_12 (by decide) ?_
  refine lv_istore_n hx hb d_Verifier_areHandlersRight_13 rfl hl (by decide) rfl (fun ls hl => ?_)
  have hl : lv_has ls 8 [(2, .int 0), (1, .int r1), (0, .ref ve)] := hl
  have loop14 : ∀ (kq : Nat) (j : Int32) (fa9 : Int32) (fp9 : Int32) (ls : Array Slot) (H : Heap) (locs : List Loc) , ims j r1 = kq → lv_has ls 8 [(2, .int j), (1, .int r1), (0, .ref ve)] → va_P g.1 classes [(ve, .inr (8, [.ref mh, .ref c0, .ref n0, .ref h0, .ref (w 0), .ref (w 2), .ref fn, .int fr, .int en])), (fn, .inr (0, [.int fa9, .int fp9])), (h0, .inr (3, [.ref (w 0), .ref (w 2), .ref (w 7), .ref (w 8), .ref (w 9), .ref (w 10), .ref (w 11), .ref (w 12), .ref (w 13), .int v.nu, .int v.th, .int v.it, .int (nI v.fi), .int (nI v.me), .int v.mp])), ((w 0), .inr (2, [.ref (w 1), .int (nI v.n)])), ((w 1), aB g 600 v.b), ((w 2), .inr (1, [.ref (w 3), .ref (w 4), .ref (w 5), .ref (w 6), .int (nI v.lo)])), ((w 3), aJ g 4800 v.rw), ((w 4), aB g 600 v.bg), ((w 5), aB g 600 v.wt), ((w 6), aB g 600 v.dp), ((w 7), aI g 200 v.tg), ((w 8), aI g 200 v.ca), ((w 9), aI g 200 v.fs), ((w 10), aI g 200 v.sc), ((w 11), aI g 75 v.fa), ((w 12), aI g 75 v.ma), ((w 13), aI g 75 v.co)] H → va_D A [(ve, .inr (8, [.ref mh, .ref c0, .ref n0, .ref h0, .ref (w 0), .ref (w 2), .ref fn, .int fr, .int en])), (fn, .inr (0, [.int fa9, .int fp9])), (h0, .inr (3, [.ref (w 0), .ref (w 2), .ref (w 7), .ref (w 8), .ref (w 9), .ref (w 10), .ref (w 11), .ref (w 12), .ref (w 13), .int v.nu, .int v.th, .int v.it, .int (nI v.fi), .int (nI v.me), .int v.mp])), ((w 0), .inr (2, [.ref (w 1), .int (nI v.n)])), ((w 1), aB g 600 v.b), ((w 2), .inr (1, [.ref (w 3), .ref (w 4), .ref (w 5), .ref (w 6), .int (nI v.lo)])), ((w 3), aJ g 4800 v.rw), ((w 4), aB g 600 v.bg), ((w 5), aB g 600 v.wt), ((w 6), aB g 600 v.dp), ((w 7), aI g 200 v.tg), ((w 8), aI g 200 v.ca), ((w 9), aI g 200 v.fs), ((w 10), aI g 200 v.sc), ((w 11), aI g 75 v.fa), ((w 12), aI g 75 v.ma), ((w 13), aI g 75 v.co)] → va_S A s.heap H locs → W p l e ({ frames := 3, cells := 0, slots := 0, locals := 66 }) s m [.ref ve].toArray below meth c H locs 0 0 (MQ below (tw_Qi g (fun r (u : Int32 × Int32) => (r = 0 ∨ r = 1)) (fun u : Int32 × Int32 => [(ve, .inr (8, [.ref mh, .ref c0, .ref n0, .ref h0, .ref (w 0), .ref (w 2), .ref fn, .int fr, .int en])), (fn, .inr (0, [.int u.1, .int u.2])), (h0, .inr (3, [.ref (w 0), .ref (w 2), .ref (w 7), .ref (w 8), .ref (w 9), .ref (w 10), .ref (w 11), .ref (w 12), .ref (w 13), .int v.nu, .int v.th, .int v.it, .int (nI v.fi), .int (nI v.me), .int v.mp])), ((w 0), .inr (2, [.ref (w 1), .int (nI v.n)])), ((w 1), aB g 600 v.b), ((w 2), .inr (1, [.ref (w 3), .ref (w 4), .ref (w 5), .ref (w 6), .int (nI v.lo)])), ((w 3), aJ g 4800 v.rw), ((w 4), aB g 600 v.bg), ((w 5), aB g 600 v.wt), ((w 6), aB g 600 v.dp), ((w 7), aI g 200 v.tg), ((w 8), aI g 200 v.ca), ((w 9), aI g 200 v.fs), ((w 10), aI g 200 v.sc), ((w 11), aI g 75 v.fa), ((w 12), aI g 75 v.ma), ((w 13), aI g 75 v.co)]) A) [.ref ve].toArray s 0 0 A) (F0 m 14 ls []) := by
    intro kq
    induction kq using Nat.strongRecOn with
    | _ kq ih =>
      intro j fa9 fp9 ls H locs hk  hl hP hD hS
      refine lv_iload_n hx hb d_Verifier_areHandlersRight_14 rfl (lv_at hl 0 rfl) ?_
      refine lv_iload_n hx hb d_Verifier_areHandlersRight_15 rfl (lv_at hl 1 rfl) ?_
      refine lv_icmp_ge (tgt := 149) hx hb d_Verifier_areHandlersRight_16 (by decide) (fun h16 => ?_) (fun h16 => ?_)
      · refine lv_iconst (v := 1) hx hb d_Verifier_areHandlersRight_149 (by decide) ?_
        exact tw_zret E hS (fa9, fp9) (by decide) (by decide) hP hD d_Verifier_areHandlersRight_150
      · refine lv_aload_n hx hb d_Verifier_areHandlersRight_19 rfl (lv_at hl 2 rfl) ?_
        refine lv_iload_n hx hb d_Verifier_areHandlersRight_20 rfl (lv_at hl 0 rfl) ?_
        refine tw_si (tw_runV (ws := [(ve, .inr (8, [.ref mh, .ref c0, .ref n0, .ref h0, .ref (w 0), .ref (w 2), .ref fn, .int fr, .int en])), (fn, .inr (0, [.int fa9, .int fp9])), (h0, .inr (3, [.ref (w 0), .ref (w 2), .ref (w 7), .ref (w 8), .ref (w 9), .ref (w 10), .ref (w 11), .ref (w 12), .ref (w 13), .int v.nu, .int v.th, .int v.it, .int (nI v.fi), .int (nI v.me), .int v.mp])), ((w 0), .inr (2, [.ref (w 1), .int (nI v.n)])), ((w 1), aB g 600 v.b), ((w 2), .inr (1, [.ref (w 3), .ref (w 4), .ref (w 5), .ref (w 6), .int (nI v.lo)])), ((w 3), aJ g 4800 v.rw), ((w 4), aB g 600 v.bg), ((w 5), aB g 600 v.wt), ((w 6), aB g 600 v.dp), ((w 7), aI g 200 v.tg), ((w 8), aI g 200 v.ca), ((w 9), aI g 200 v.fs), ((w 10), aI g 200 v.sc), ((w 11), aI g 75 v.fa), ((w 12), aI g 75 v.ma), ((w 13), aI g 75 v.co)]) (wc := [(ve, .inr (8, [.ref mh, .ref c0, .ref n0, .ref h0, .ref (w 0), .ref (w 2), .ref fn, .int fr, .int en])), (h0, .inr (3, [.ref (w 0), .ref (w 2), .ref (w 7), .ref (w 8), .ref (w 9), .ref (w 10), .ref (w 11), .ref (w 12), .ref (w 13), .int v.nu, .int v.th, .int v.it, .int (nI v.fi), .int (nI v.me), .int v.mp])), ((w 0), .inr (2, [.ref (w 1), .int (nI v.n)])), ((w 1), aB g 600 v.b), ((w 2), .inr (1, [.ref (w 3), .ref (w 4), .ref (w 5), .ref (w 6), .int (nI v.lo)])), ((w 3), aJ g 4800 v.rw), ((w 4), aB g 600 v.bg), ((w 5), aB g 600 v.wt), ((w 6), aB g 600 v.dp), ((w 7), aI g 200 v.tg), ((w 8), aI g 200 v.ca), ((w 9), aI g 200 v.fs), ((w 10), aI g 200 v.sc), ((w 11), aI g 75 v.fa), ((w 12), aI g 75 v.ma), ((w 13), aI g 75 v.co)]) (As := [.int j]) (rest := []) E hB hK hZ (s_Verifier_handlerAt l g H.size ve mh c0 n0 fn h0 w v fr en j hI) mc_Verifier_handlerAt mi_Verifier_handlerAt me_Verifier_handlerAt wd_741 hP hD hS hA [0, 2, 3, 4, 5, 6, 7, 8, 9, 10, 11, 12, 13, 14, 15, 16] rfl (by decide) 0 rfl rfl rfl rfl rfl (by decide) rfl hl.1 rfl (Nat.le_of_ble_eq_true rfl) (by decide) d_Verifier_areHandlersRight_21) (fun r2 hr2 => ?_)
        refine lv_istore_n hx hb d_Verifier_areHandlersRight_24 rfl hl (by decide) rfl (fun ls hl => ?_)
        have hl : lv_has ls 8 [(3, .int r2), (2, .int j), (1, .int r1), (0, .ref ve)] := hl
        refine lv_aload_n hx hb d_Verifier_areHandlersRight_25 rfl (lv_at hl 3 rfl) ?_
        refine lv_iload_n hx hb d_Verifier_areHandlersRight_26 rfl (lv_at hl 0 rfl) ?_
        refine lv_iconst (v := 0) hx hb d_Verifier_areHandlersRight_27 (by decide) ?_
        refine tw_si (tw_runV (ws := [(ve, .inr (8, [.ref mh, .ref c0, .ref n0, .ref h0, .ref (w 0), .ref (w 2), .ref fn, .int fr, .int en])), (fn, .inr (0, [.int fa9, .int fp9])), (h0, .inr (3, [.ref (w 0), .ref (w 2), .ref (w 7), .ref (w 8), .ref (w 9), .ref (w 10), .ref (w 11), .ref (w 12), .ref (w 13), .int v.nu, .int v.th, .int v.it, .int (nI v.fi), .int (nI v.me), .int v.mp])), ((w 0), .inr (2, [.ref (w 1), .int (nI v.n)])), ((w 1), aB g 600 v.b), ((w 2), .inr (1, [.ref (w 3), .ref (w 4), .ref (w 5), .ref (w 6), .int (nI v.lo)])), ((w 3), aJ g 4800 v.rw), ((w 4), aB g 600 v.bg), ((w 5), aB g 600 v.wt), ((w 6), aB g 600 v.dp), ((w 7), aI g 200 v.tg), ((w 8), aI g 200 v.ca), ((w 9), aI g 200 v.fs), ((w 10), aI g 200 v.sc), ((w 11), aI g 75 v.fa), ((w 12), aI g 75 v.ma), ((w 13), aI g 75 v.co)]) (wc := [(ve, .inr (8, [.ref mh, .ref c0, .ref n0, .ref h0, .ref (w 0), .ref (w 2), .ref fn, .int fr, .int en])), (h0, .inr (3, [.ref (w 0), .ref (w 2), .ref (w 7), .ref (w 8), .ref (w 9), .ref (w 10), .ref (w 11), .ref (w 12), .ref (w 13), .int v.nu, .int v.th, .int v.it, .int (nI v.fi), .int (nI v.me), .int v.mp])), ((w 0), .inr (2, [.ref (w 1), .int (nI v.n)])), ((w 1), aB g 600 v.b), ((w 2), .inr (1, [.ref (w 3), .ref (w 4), .ref (w 5), .ref (w 6), .int (nI v.lo)])), ((w 3), aJ g 4800 v.rw), ((w 4), aB g 600 v.bg), ((w 5), aB g 600 v.wt), ((w 6), aB g 600 v.dp), ((w 7), aI g 200 v.tg), ((w 8), aI g 200 v.ca), ((w 9), aI g 200 v.fs), ((w 10), aI g 200 v.sc), ((w 11), aI g 75 v.fa), ((w 12), aI g 75 v.ma), ((w 13), aI g 75 v.co)]) (As := [.int r2, .int 0]) (rest := []) E hB hK hZ (s_Verifier_toldBy l g H.size ve mh c0 n0 fn h0 w v fr en r2 0 hI) mc_Verifier_toldBy mi_Verifier_toldBy me_Verifier_toldBy wd_745 hP hD hS hA [0, 2, 3, 4, 5, 6, 7, 8, 9, 10, 11, 12, 13, 14, 15, 16] rfl (by decide) 0 rfl rfl rfl rfl rfl (by decide) rfl hl.1 rfl (Nat.le_of_ble_eq_true rfl) (by decide) d_Verifier_areHandlersRight_28) (fun r3 hr3 => ?_)
        refine lv_istore hx hb d_Verifier_areHandlersRight_31 hl (by decide) rfl (fun ls hl => ?_)
        have hl : lv_has ls 8 [(4, .int r3), (3, .int r2), (2, .int j), (1, .int r1), (0, .ref ve)] := hl
        refine lv_aload_n hx hb d_Verifier_areHandlersRight_33 rfl (lv_at hl 4 rfl) ?_
        refine lv_iload_n hx hb d_Verifier_areHandlersRight_34 rfl (lv_at hl 1 rfl) ?_
        refine lv_iconst (v := 1) hx hb d_Verifier_areHandlersRight_35 (by decide) ?_
        refine tw_si (tw_runV (ws := [(ve, .inr (8, [.ref mh, .ref c0, .ref n0, .ref h0, .ref (w 0), .ref (w 2), .ref fn, .int fr, .int en])), (fn, .inr (0, [.int fa9, .int fp9])), (h0, .inr (3, [.ref (w 0), .ref (w 2), .ref (w 7), .ref (w 8), .ref (w 9), .ref (w 10), .ref (w 11), .ref (w 12), .ref (w 13), .int v.nu, .int v.th, .int v.it, .int (nI v.fi), .int (nI v.me), .int v.mp])), ((w 0), .inr (2, [.ref (w 1), .int (nI v.n)])), ((w 1), aB g 600 v.b), ((w 2), .inr (1, [.ref (w 3), .ref (w 4), .ref (w 5), .ref (w 6), .int (nI v.lo)])), ((w 3), aJ g 4800 v.rw), ((w 4), aB g 600 v.bg), ((w 5), aB g 600 v.wt), ((w 6), aB g 600 v.dp), ((w 7), aI g 200 v.tg), ((w 8), aI g 200 v.ca), ((w 9), aI g 200 v.fs), ((w 10), aI g 200 v.sc), ((w 11), aI g 75 v.fa), ((w 12), aI g 75 v.ma), ((w 13), aI g 75 v.co)]) (wc := [(ve, .inr (8, [.ref mh, .ref c0, .ref n0, .ref h0, .ref (w 0), .ref (w 2), .ref fn, .int fr, .int en])), (h0, .inr (3, [.ref (w 0), .ref (w 2), .ref (w 7), .ref (w 8), .ref (w 9), .ref (w 10), .ref (w 11), .ref (w 12), .ref (w 13), .int v.nu, .int v.th, .int v.it, .int (nI v.fi), .int (nI v.me), .int v.mp])), ((w 0), .inr (2, [.ref (w 1), .int (nI v.n)])), ((w 1), aB g 600 v.b), ((w 2), .inr (1, [.ref (w 3), .ref (w 4), .ref (w 5), .ref (w 6), .int (nI v.lo)])), ((w 3), aJ g 4800 v.rw), ((w 4), aB g 600 v.bg), ((w 5), aB g 600 v.wt), ((w 6), aB g 600 v.dp), ((w 7), aI g 200 v.tg), ((w 8), aI g 200 v.ca), ((w 9), aI g 200 v.fs), ((w 10), aI g 200 v.sc), ((w 11), aI g 75 v.fa), ((w 12), aI g 75 v.ma), ((w 13), aI g 75 v.co)]) (As := [.int r2, .int 1]) (rest := []) E hB hK hZ (s_Verifier_toldBy l g H.size ve mh c0 n0 fn h0 w v fr en r2 1 hI) mc_Verifier_toldBy mi_Verifier_toldBy me_Verifier_toldBy wd_745 hP hD hS hA [0, 2, 3, 4, 5, 6, 7, 8, 9, 10, 11, 12, 13, 14, 15, 16] rfl (by decide) 0 rfl rfl rfl rfl rfl (by decide) rfl hl.1 rfl (Nat.le_of_ble_eq_true rfl) (by decide) d_Verifier_areHandlersRight_36) (fun r4 hr4 => ?_)
        refine lv_istore hx hb d_Verifier_areHandlersRight_39 hl (by decide) rfl (fun ls hl => ?_)
        have hl : lv_has ls 8 [(5, .int r4), (4, .int r3), (3, .int r2), (2, .int j), (1, .int r1), (0, .ref ve)] := hl
        refine lv_aload_n hx hb d_Verifier_areHandlersRight_41 rfl (lv_at hl 5 rfl) ?_
        refine va_get (D := g.1) (ci := 8) (v := .ref (w 0)) (C := R_Verifier) (T := F_Verifier) (N := 9) hx hb hts in_Verifier hown hK hP 0 rfl rfl 4 (by decide) (hts _ wd_186) (fun _ h9 => h9) rfl d_Verifier_areHandlersRight_42 ?_
        refine lv_iload_n hx hb d_Verifier_areHandlersRight_45 rfl (lv_at hl 2 rfl) ?_
        refine lv_bipush (v := 6) hx hb d_Verifier_areHandlersRight_46 (by decide) ?_
        refine lv_iadd hx hb d_Verifier_areHandlersRight_48 ?_
        obtain ⟨x5, ex5⟩ : ∃ z : Int32, r2 + 6 = z := ⟨_, rfl⟩
        refine tw_ri (e2 := x5) ex5 ?_
        refine tw_si (tw_runV (ws := [(ve, .inr (8, [.ref mh, .ref c0, .ref n0, .ref h0, .ref (w 0), .ref (w 2), .ref fn, .int fr, .int en])), (fn, .inr (0, [.int fa9, .int fp9])), (h0, .inr (3, [.ref (w 0), .ref (w 2), .ref (w 7), .ref (w 8), .ref (w 9), .ref (w 10), .ref (w 11), .ref (w 12), .ref (w 13), .int v.nu, .int v.th, .int v.it, .int (nI v.fi), .int (nI v.me), .int v.mp])), ((w 0), .inr (2, [.ref (w 1), .int (nI v.n)])), ((w 1), aB g 600 v.b), ((w 2), .inr (1, [.ref (w 3), .ref (w 4), .ref (w 5), .ref (w 6), .int (nI v.lo)])), ((w 3), aJ g 4800 v.rw), ((w 4), aB g 600 v.bg), ((w 5), aB g 600 v.wt), ((w 6), aB g 600 v.dp), ((w 7), aI g 200 v.tg), ((w 8), aI g 200 v.ca), ((w 9), aI g 200 v.fs), ((w 10), aI g 200 v.sc), ((w 11), aI g 75 v.fa), ((w 12), aI g 75 v.ma), ((w 13), aI g 75 v.co)]) (wc := [((w 0), .inr (2, [.ref (w 1), .int (nI v.n)])), ((w 1), aB g 600 v.b)]) (As := [.int x5]) (rest := []) E hB hK hZ (s_Image_twoAt l g H.size (w 0) (w 1) v.n v.b x5 hI.n) mc_Image_twoAt mi_Image_twoAt me_Image_twoAt wd_740 hP hD hS hA [3, 4] rfl (by decide) 0 rfl rfl rfl rfl rfl (by decide) rfl hl.1 rfl (Nat.le_of_ble_eq_true rfl) (by decide) d_Verifier_areHandlersRight_49) (fun r6 hr6 => ?_)
        refine lv_istore hx hb d_Verifier_areHandlersRight_52 hl (by decide) rfl (fun ls hl => ?_)
        have hl : lv_has ls 8 [(6, .int r6), (5, .int r4), (4, .int r3), (3, .int r2), (2, .int j), (1, .int r1), (0, .ref ve)] := hl
        refine lv_iload hx hb d_Verifier_areHandlersRight_54 (lv_at hl 2 rfl) ?_
        refine lv_iload hx hb d_Verifier_areHandlersRight_56 (lv_at hl 1 rfl) ?_
        refine lv_icmp_ge (tgt := 124) hx hb d_Verifier_areHandlersRight_58 (by decide) (fun h58 => ?_) (fun h58 => ?_)
        · refine lv_iconst (v := 0) hx hb d_Verifier_areHandlersRight_124 (by decide) ?_
          refine lv_istore hx hb d_Verifier_areHandlersRight_125 hl (by decide) rfl (fun ls hl => ?_)
          have hl : lv_has ls 8 [(7, .int 0), (6, .int r6), (5, .int r4), (4, .int r3), (3, .int r2), (2, .int j), (1, .int r1), (0, .ref ve)] := hl
          refine lv_iload hx hb d_Verifier_areHandlersRight_127 (lv_at hl 0 rfl) ?_
          refine lv_if_ne (tgt := 143) hx hb d_Verifier_areHandlersRight_129 (by decide) (fun h129 => ?_) (fun h129 => ?_)
          · first | exact absurd h129 (by decide) | exact absurd (by decide) h129
          · refine lv_aload_n hx hb d_Verifier_areHandlersRight_132 rfl (lv_at hl 7 rfl) ?_
            refine va_get (D := g.1) (ci := 8) (v := .ref fn) (C := R_Verifier) (T := F_Verifier) (N := 9) hx hb hts in_Verifier hown hK hP 0 rfl rfl 6 (by decide) (hts _ wd_188) (fun _ h9 => h9) rfl d_Verifier_areHandlersRight_133 ?_
            refine lv_bipush (v := 20) hx hb d_Verifier_areHandlersRight_136 (by decide) ?_
            refine lv_iload_n hx hb d_Verifier_areHandlersRight_138 rfl (lv_at hl 4 rfl) ?_
            refine tw_wi (wr := [(ve, .inr (8, [.ref mh, .ref c0, .ref n0, .ref h0, .ref (w 0), .ref (w 2), .ref fn, .int fr, .int en])), (h0, .inr (3, [.ref (w 0), .ref (w 2), .ref (w 7), .ref (w 8), .ref (w 9), .ref (w 10), .ref (w 11), .ref (w 12), .ref (w 13), .int v.nu, .int v.th, .int v.it, .int (nI v.fi), .int (nI v.me), .int v.mp])), ((w 0), .inr (2, [.ref (w 1), .int (nI v.n)])), ((w 1), aB g 600 v.b), ((w 2), .inr (1, [.ref (w 3), .ref (w 4), .ref (w 5), .ref (w 6), .int (nI v.lo)])), ((w 3), aJ g 4800 v.rw), ((w 4), aB g 600 v.bg), ((w 5), aB g 600 v.wt), ((w 6), aB g 600 v.dp), ((w 7), aI g 200 v.tg), ((w 8), aI g 200 v.ca), ((w 9), aI g 200 v.fs), ((w 10), aI g 200 v.sc), ((w 11), aI g 75 v.fa), ((w 12), aI g 75 v.ma), ((w 13), aI g 75 v.co)]) (tw_runV (ws := [(ve, .inr (8, [.ref mh, .ref c0, .ref n0, .ref h0, .ref (w 0), .ref (w 2), .ref fn, .int fr, .int en])), (fn, .inr (0, [.int fa9, .int fp9])), (h0, .inr (3, [.ref (w 0), .ref (w 2), .ref (w 7), .ref (w 8), .ref (w 9), .ref (w 10), .ref (w 11), .ref (w 12), .ref (w 13), .int v.nu, .int v.th, .int v.it, .int (nI v.fi), .int (nI v.me), .int v.mp])), ((w 0), .inr (2, [.ref (w 1), .int (nI v.n)])), ((w 1), aB g 600 v.b), ((w 2), .inr (1, [.ref (w 3), .ref (w 4), .ref (w 5), .ref (w 6), .int (nI v.lo)])), ((w 3), aJ g 4800 v.rw), ((w 4), aB g 600 v.bg), ((w 5), aB g 600 v.wt), ((w 6), aB g 600 v.dp), ((w 7), aI g 200 v.tg), ((w 8), aI g 200 v.ca), ((w 9), aI g 200 v.fs), ((w 10), aI g 200 v.sc), ((w 11), aI g 75 v.fa), ((w 12), aI g 75 v.ma), ((w 13), aI g 75 v.co)]) (wc := [(fn, .inr (0, [.int fa9, .int fp9]))]) (As := [.int 20, .int r2]) (rest := []) E hB hK hZ (c_Finding_tell l g H.size fn fa9 fp9 20 r2) mc_Finding_tell mi_Finding_tell me_Finding_tell wd_728 hP hD hS hA [1] rfl (by decide) 0 rfl rfl rfl rfl rfl (by decide) rfl hl.1 rfl (Nat.le_of_ble_eq_true rfl) (by decide) d_Verifier_areHandlersRight_139) hP hD hS hA [1] [0, 2, 3, 4, 5, 6, 7, 8, 9, 10, 11, 12, 13, 14, 15, 16] rfl rfl (by decide) (by decide) (fun r7 u8 H locs hr7 hP hD hS => ?_)
            try dsimp only at hr7
            have hP : va_P g.1 classes [(ve, .inr (8, [.ref mh, .ref c0, .ref n0, .ref h0, .ref (w 0), .ref (w 2), .ref fn, .int fr, .int en])), (h0, .inr (3, [.ref (w 0), .ref (w 2), .ref (w 7), .ref (w 8), .ref (w 9), .ref (w 10), .ref (w 11), .ref (w 12), .ref (w 13), .int v.nu, .int v.th, .int v.it, .int (nI v.fi), .int (nI v.me), .int v.mp])), ((w 0), .inr (2, [.ref (w 1), .int (nI v.n)])), ((w 1), aB g 600 v.b), ((w 2), .inr (1, [.ref (w 3), .ref (w 4), .ref (w 5), .ref (w 6), .int (nI v.lo)])), ((w 3), aJ g 4800 v.rw), ((w 4), aB g 600 v.bg), ((w 5), aB g 600 v.wt), ((w 6), aB g 600 v.dp), ((w 7), aI g 200 v.tg), ((w 8), aI g 200 v.ca), ((w 9), aI g 200 v.fs), ((w 10), aI g 200 v.sc), ((w 11), aI g 75 v.fa), ((w 12), aI g 75 v.ma), ((w 13), aI g 75 v.co), (fn, .inr (0, [.int 20, .int r2]))] H := hP
            have hD : va_D A [(ve, .inr (8, [.ref mh, .ref c0, .ref n0, .ref h0, .ref (w 0), .ref (w 2), .ref fn, .int fr, .int en])), (h0, .inr (3, [.ref (w 0), .ref (w 2), .ref (w 7), .ref (w 8), .ref (w 9), .ref (w 10), .ref (w 11), .ref (w 12), .ref (w 13), .int v.nu, .int v.th, .int v.it, .int (nI v.fi), .int (nI v.me), .int v.mp])), ((w 0), .inr (2, [.ref (w 1), .int (nI v.n)])), ((w 1), aB g 600 v.b), ((w 2), .inr (1, [.ref (w 3), .ref (w 4), .ref (w 5), .ref (w 6), .int (nI v.lo)])), ((w 3), aJ g 4800 v.rw), ((w 4), aB g 600 v.bg), ((w 5), aB g 600 v.wt), ((w 6), aB g 600 v.dp), ((w 7), aI g 200 v.tg), ((w 8), aI g 200 v.ca), ((w 9), aI g 200 v.fs), ((w 10), aI g 200 v.sc), ((w 11), aI g 75 v.fa), ((w 12), aI g 75 v.ma), ((w 13), aI g 75 v.co), (fn, .inr (0, [.int 20, .int r2]))] := hD
            obtain rfl : r7 = 0 := hr7
            have hP : va_P g.1 classes [(ve, .inr (8, [.ref mh, .ref c0, .ref n0, .ref h0, .ref (w 0), .ref (w 2), .ref fn, .int fr, .int en])), (fn, .inr (0, [.int 20, .int r2])), (h0, .inr (3, [.ref (w 0), .ref (w 2), .ref (w 7), .ref (w 8), .ref (w 9), .ref (w 10), .ref (w 11), .ref (w 12), .ref (w 13), .int v.nu, .int v.th, .int v.it, .int (nI v.fi), .int (nI v.me), .int v.mp])), ((w 0), .inr (2, [.ref (w 1), .int (nI v.n)])), ((w 1), aB g 600 v.b), ((w 2), .inr (1, [.ref (w 3), .ref (w 4), .ref (w 5), .ref (w 6), .int (nI v.lo)])), ((w 3), aJ g 4800 v.rw), ((w 4), aB g 600 v.bg), ((w 5), aB g 600 v.wt), ((w 6), aB g 600 v.dp), ((w 7), aI g 200 v.tg), ((w 8), aI g 200 v.ca), ((w 9), aI g 200 v.fs), ((w 10), aI g 200 v.sc), ((w 11), aI g 75 v.fa), ((w 12), aI g 75 v.ma), ((w 13), aI g 75 v.co)] H := hP.sub [0, 16, 1, 2, 3, 4, 5, 6, 7, 8, 9, 10, 11, 12, 13, 14, 15] rfl
            have hD : va_D A [(ve, .inr (8, [.ref mh, .ref c0, .ref n0, .ref h0, .ref (w 0), .ref (w 2), .ref fn, .int fr, .int en])), (fn, .inr (0, [.int 20, .int r2])), (h0, .inr (3, [.ref (w 0), .ref (w 2), .ref (w 7), .ref (w 8), .ref (w 9), .ref (w 10), .ref (w 11), .ref (w 12), .ref (w 13), .int v.nu, .int v.th, .int v.it, .int (nI v.fi), .int (nI v.me), .int v.mp])), ((w 0), .inr (2, [.ref (w 1), .int (nI v.n)])), ((w 1), aB g 600 v.b), ((w 2), .inr (1, [.ref (w 3), .ref (w 4), .ref (w 5), .ref (w 6), .int (nI v.lo)])), ((w 3), aJ g 4800 v.rw), ((w 4), aB g 600 v.bg), ((w 5), aB g 600 v.wt), ((w 6), aB g 600 v.dp), ((w 7), aI g 200 v.tg), ((w 8), aI g 200 v.ca), ((w 9), aI g 200 v.fs), ((w 10), aI g 200 v.sc), ((w 11), aI g 75 v.fa), ((w 12), aI g 75 v.ma), ((w 13), aI g 75 v.co)] := hD.sub [0, 16, 1, 2, 3, 4, 5, 6, 7, 8, 9, 10, 11, 12, 13, 14, 15] (by decide) rfl
            exact tw_zret E hS (20, r2) (by decide) (by decide) hP hD d_Verifier_areHandlersRight_142
        · refine lv_aload_n hx hb d_Verifier_areHandlersRight_61 rfl (lv_at hl 6 rfl) ?_
          refine lv_iload hx hb d_Verifier_areHandlersRight_62 (lv_at hl 2 rfl) ?_
          refine tw_si (tw_runV (ws := [(ve, .inr (8, [.ref mh, .ref c0, .ref n0, .ref h0, .ref (w 0), .ref (w 2), .ref fn, .int fr, .int en])), (fn, .inr (0, [.int fa9, .int fp9])), (h0, .inr (3, [.ref (w 0), .ref (w 2), .ref (w 7), .ref (w 8), .ref (w 9), .ref (w 10), .ref (w 11), .ref (w 12), .ref (w 13), .int v.nu, .int v.th, .int v.it, .int (nI v.fi), .int (nI v.me), .int v.mp])), ((w 0), .inr (2, [.ref (w 1), .int (nI v.n)])), ((w 1), aB g 600 v.b), ((w 2), .inr (1, [.ref (w 3), .ref (w 4), .ref (w 5), .ref (w 6), .int (nI v.lo)])), ((w 3), aJ g 4800 v.rw), ((w 4), aB g 600 v.bg), ((w 5), aB g 600 v.wt), ((w 6), aB g 600 v.dp), ((w 7), aI g 200 v.tg), ((w 8), aI g 200 v.ca), ((w 9), aI g 200 v.fs), ((w 10), aI g 200 v.sc), ((w 11), aI g 75 v.fa), ((w 12), aI g 75 v.ma), ((w 13), aI g 75 v.co)]) (wc := [(ve, .inr (8, [.ref mh, .ref c0, .ref n0, .ref h0, .ref (w 0), .ref (w 2), .ref fn, .int fr, .int en])), (h0, .inr (3, [.ref (w 0), .ref (w 2), .ref (w 7), .ref (w 8), .ref (w 9), .ref (w 10), .ref (w 11), .ref (w 12), .ref (w 13), .int v.nu, .int v.th, .int v.it, .int (nI v.fi), .int (nI v.me), .int v.mp])), ((w 0), .inr (2, [.ref (w 1), .int (nI v.n)])), ((w 1), aB g 600 v.b), ((w 2), .inr (1, [.ref (w 3), .ref (w 4), .ref (w 5), .ref (w 6), .int (nI v.lo)])), ((w 3), aJ g 4800 v.rw), ((w 4), aB g 600 v.bg), ((w 5), aB g 600 v.wt), ((w 6), aB g 600 v.dp), ((w 7), aI g 200 v.tg), ((w 8), aI g 200 v.ca), ((w 9), aI g 200 v.fs), ((w 10), aI g 200 v.sc), ((w 11), aI g 75 v.fa), ((w 12), aI g 75 v.ma), ((w 13), aI g 75 v.co)]) (As := [.int r3]) (rest := []) E hB hK hZ (s_Verifier_isInstruction l g H.size ve mh c0 n0 fn h0 w v fr en r3 hI) mc_Verifier_isInstruction mi_Verifier_isInstruction me_Verifier_isInstruction wd_749 hP hD hS hA [0, 2, 3, 4, 5, 6, 7, 8, 9, 10, 11, 12, 13, 14, 15, 16] rfl (by decide) 0 rfl rfl rfl rfl rfl (by decide) rfl hl.1 rfl (Nat.le_of_ble_eq_true rfl) (by decide) d_Verifier_areHandlersRight_64) (fun r9 hr9 => ?_)
          refine lv_if_eq (tgt := 124) hx hb d_Verifier_areHandlersRight_67 (by decide) (fun h67 => ?_) (fun h67 => ?_)
          · refine lv_iconst (v := 0) hx hb d_Verifier_areHandlersRight_124 (by decide) ?_
            refine lv_istore hx hb d_Verifier_areHandlersRight_125 hl (by decide) rfl (fun ls hl => ?_)
            have hl : lv_has ls 8 [(7, .int 0), (6, .int r6), (5, .int r4), (4, .int r3), (3, .int r2), (2, .int j), (1, .int r1), (0, .ref ve)] := hl
            refine lv_iload hx hb d_Verifier_areHandlersRight_127 (lv_at hl 0 rfl) ?_
            refine lv_if_ne (tgt := 143) hx hb d_Verifier_areHandlersRight_129 (by decide) (fun h129 => ?_) (fun h129 => ?_)
            · first | exact absurd h129 (by decide) | exact absurd (by decide) h129
            · refine lv_aload_n hx hb d_Verifier_areHandlersRight_132 rfl (lv_at hl 7 rfl) ?_
              refine va_get (D := g.1) (ci := 8) (v := .ref fn) (C := R_Verifier) (T := F_Verifier) (N := 9) hx hb hts in_Verifier hown hK hP 0 rfl rfl 6 (by decide) (hts _ wd_188) (fun _ h9 => h9) rfl d_Verifier_areHandlersRight_133 ?_
              refine lv_bipush (v := 20) hx hb d_Verifier_areHandlersRight_136 (by decide) ?_
              refine lv_iload_n hx hb d_Verifier_areHandlersRight_138 rfl (lv_at hl 4 rfl) ?_
              refine tw_wi (wr := [(ve, .inr (8, [.ref mh, .ref c0, .ref n0, .ref h0, .ref (w 0), .ref (w 2), .ref fn, .int fr, .int en])), (h0, .inr (3, [.ref (w 0), .ref (w 2), .ref (w 7), .ref (w 8), .ref (w 9), .ref (w 10), .ref (w 11), .ref (w 12), .ref (w 13), .int v.nu, .int v.th, .int v.it, .int (nI v.fi), .int (nI v.me), .int v.mp])), ((w 0), .inr (2, [.ref (w 1), .int (nI v.n)])), ((w 1), aB g 600 v.b), ((w 2), .inr (1, [.ref (w 3), .ref (w 4), .ref (w 5), .ref (w 6), .int (nI v.lo)])), ((w 3), aJ g 4800 v.rw), ((w 4), aB g 600 v.bg), ((w 5), aB g 600 v.wt), ((w 6), aB g 600 v.dp), ((w 7), aI g 200 v.tg), ((w 8), aI g 200 v.ca), ((w 9), aI g 200 v.fs), ((w 10), aI g 200 v.sc), ((w 11), aI g 75 v.fa), ((w 12), aI g 75 v.ma), ((w 13), aI g 75 v.co)]) (tw_runV (ws := [(ve, .inr (8, [.ref mh, .ref c0, .ref n0, .ref h0, .ref (w 0), .ref (w 2), .ref fn, .int fr, .int en])), (fn, .inr (0, [.int fa9, .int fp9])), (h0, .inr (3, [.ref (w 0), .ref (w 2), .ref (w 7), .ref (w 8), .ref (w 9), .ref (w 10), .ref (w 11), .ref (w 12), .ref (w 13), .int v.nu, .int v.th, .int v.it, .int (nI v.fi), .int (nI v.me), .int v.mp])), ((w 0), .inr (2, [.ref (w 1), .int (nI v.n)])), ((w 1), aB g 600 v.b), ((w 2), .inr (1, [.ref (w 3), .ref (w 4), .ref (w 5), .ref (w 6), .int (nI v.lo)])), ((w 3), aJ g 4800 v.rw), ((w 4), aB g 600 v.bg), ((w 5), aB g 600 v.wt), ((w 6), aB g 600 v.dp), ((w 7), aI g 200 v.tg), ((w 8), aI g 200 v.ca), ((w 9), aI g 200 v.fs), ((w 10), aI g 200 v.sc), ((w 11), aI g 75 v.fa), ((w 12), aI g 75 v.ma), ((w 13), aI g 75 v.co)]) (wc := [(fn, .inr (0, [.int fa9, .int fp9]))]) (As := [.int 20, .int r2]) (rest := []) E hB hK hZ (c_Finding_tell l g H.size fn fa9 fp9 20 r2) mc_Finding_tell mi_Finding_tell me_Finding_tell wd_728 hP hD hS hA [1] rfl (by decide) 0 rfl rfl rfl rfl rfl (by decide) rfl hl.1 rfl (Nat.le_of_ble_eq_true rfl) (by decide) d_Verifier_areHandlersRight_139) hP hD hS hA [1] [0, 2, 3, 4, 5, 6, 7, 8, 9, 10, 11, 12, 13, 14, 15, 16] rfl rfl (by decide) (by decide) (fun r10 u11 H locs hr10 hP hD hS => ?_)
              try dsimp only at hr10
              have hP : va_P g.1 classes [(ve, .inr (8, [.ref mh, .ref c0, .ref n0, .ref h0, .ref (w 0), .ref (w 2), .ref fn, .int fr, .int en])), (h0, .inr (3, [.ref (w 0), .ref (w 2), .ref (w 7), .ref (w 8), .ref (w 9), .ref (w 10), .ref (w 11), .ref (w 12), .ref (w 13), .int v.nu, .int v.th, .int v.it, .int (nI v.fi), .int (nI v.me), .int v.mp])), ((w 0), .inr (2, [.ref (w 1), .int (nI v.n)])), ((w 1), aB g 600 v.b), ((w 2), .inr (1, [.ref (w 3), .ref (w 4), .ref (w 5), .ref (w 6), .int (nI v.lo)])), ((w 3), aJ g 4800 v.rw), ((w 4), aB g 600 v.bg), ((w 5), aB g 600 v.wt), ((w 6), aB g 600 v.dp), ((w 7), aI g 200 v.tg), ((w 8), aI g 200 v.ca), ((w 9), aI g 200 v.fs), ((w 10), aI g 200 v.sc), ((w 11), aI g 75 v.fa), ((w 12), aI g 75 v.ma), ((w 13), aI g 75 v.co), (fn, .inr (0, [.int 20, .int r2]))] H := hP
              have hD : va_D A [(ve, .inr (8, [.ref mh, .ref c0, .ref n0, .ref h0, .ref (w 0), .ref (w 2), .ref fn, .int fr, .int en])), (h0, .inr (3, [.ref (w 0), .ref (w 2), .ref (w 7), .ref (w 8), .ref (w 9), .ref (w 10), .ref (w 11), .ref (w 12), .ref (w 13), .int v.nu, .int v.th, .int v.it, .int (nI v.fi), .int (nI v.me), .int v.mp])), ((w 0), .inr (2, [.ref (w 1), .int (nI v.n)])), ((w 1), aB g 600 v.b), ((w 2), .inr (1, [.ref (w 3), .ref (w 4), .ref (w 5), .ref (w 6), .int (nI v.lo)])), ((w 3), aJ g 4800 v.rw), ((w 4), aB g 600 v.bg), ((w 5), aB g 600 v.wt), ((w 6), aB g 600 v.dp), ((w 7), aI g 200 v.tg), ((w 8), aI g 200 v.ca), ((w 9), aI g 200 v.fs), ((w 10), aI g 200 v.sc), ((w 11), aI g 75 v.fa), ((w 12), aI g 75 v.ma), ((w 13), aI g 75 v.co), (fn, .inr (0, [.int 20, .int r2]))] := hD
              obtain rfl : r10 = 0 := hr10
              have hP : va_P g.1 classes [(ve, .inr (8, [.ref mh, .ref c0, .ref n0, .ref h0, .ref (w 0), .ref (w 2), .ref fn, .int fr, .int en])), (fn, .inr (0, [.int 20, .int r2])), (h0, .inr (3, [.ref (w 0), .ref (w 2), .ref (w 7), .ref (w 8), .ref (w 9), .ref (w 10), .ref (w 11), .ref (w 12), .ref (w 13), .int v.nu, .int v.th, .int v.it, .int (nI v.fi), .int (nI v.me), .int v.mp])), ((w 0), .inr (2, [.ref (w 1), .int (nI v.n)])), ((w 1), aB g 600 v.b), ((w 2), .inr (1, [.ref (w 3), .ref (w 4), .ref (w 5), .ref (w 6), .int (nI v.lo)])), ((w 3), aJ g 4800 v.rw), ((w 4), aB g 600 v.bg), ((w 5), aB g 600 v.wt), ((w 6), aB g 600 v.dp), ((w 7), aI g 200 v.tg), ((w 8), aI g 200 v.ca), ((w 9), aI g 200 v.fs), ((w 10), aI g 200 v.sc), ((w 11), aI g 75 v.fa), ((w 12), aI g 75 v.ma), ((w 13), aI g 75 v.co)] H := hP.sub [0, 16, 1, 2, 3, 4, 5, 6, 7, 8, 9, 10, 11, 12, 13, 14, 15] rfl
              have hD : va_D A [(ve, .inr (8, [.ref mh, .ref c0, .ref n0, .ref h0, .ref (w 0), .ref (w 2), .ref fn, .int fr, .int en])), (fn, .inr (0, [.int 20, .int r2])), (h0, .inr (3, [.ref (w 0), .ref (w 2), .ref (w 7), .ref (w 8), .ref (w 9), .ref (w 10), .ref (w 11), .ref (w 12), .ref (w 13), .int v.nu, .int v.th, .int v.it, .int (nI v.fi), .int (nI v.me), .int v.mp])), ((w 0), .inr (2, [.ref (w 1), .int (nI v.n)])), ((w 1), aB g 600 v.b), ((w 2), .inr (1, [.ref (w 3), .ref (w 4), .ref (w 5), .ref (w 6), .int (nI v.lo)])), ((w 3), aJ g 4800 v.rw), ((w 4), aB g 600 v.bg), ((w 5), aB g 600 v.wt), ((w 6), aB g 600 v.dp), ((w 7), aI g 200 v.tg), ((w 8), aI g 200 v.ca), ((w 9), aI g 200 v.fs), ((w 10), aI g 200 v.sc), ((w 11), aI g 75 v.fa), ((w 12), aI g 75 v.ma), ((w 13), aI g 75 v.co)] := hD.sub [0, 16, 1, 2, 3, 4, 5, 6, 7, 8, 9, 10, 11, 12, 13, 14, 15] (by decide) rfl
              exact tw_zret E hS (20, r2) (by decide) (by decide) hP hD d_Verifier_areHandlersRight_142
          · refine lv_aload_n hx hb d_Verifier_areHandlersRight_70 rfl (lv_at hl 6 rfl) ?_
            refine lv_iload hx hb d_Verifier_areHandlersRight_71 (lv_at hl 1 rfl) ?_
            refine tw_si (tw_runV (ws := [(ve, .inr (8, [.ref mh, .ref c0, .ref n0, .ref h0, .ref (w 0), .ref (w 2), .ref fn, .int fr, .int en])), (fn, .inr (0, [.int fa9, .int fp9])), (h0, .inr (3, [.ref (w 0), .ref (w 2), .ref (w 7), .ref (w 8), .ref (w 9), .ref (w 10), .ref (w 11), .ref (w 12), .ref (w 13), .int v.nu, .int v.th, .int v.it, .int (nI v.fi), .int (nI v.me), .int v.mp])), ((w 0), .inr (2, [.ref (w 1), .int (nI v.n)])), ((w 1), aB g 600 v.b), ((w 2), .inr (1, [.ref (w 3), .ref (w 4), .ref (w 5), .ref (w 6), .int (nI v.lo)])), ((w 3), aJ g 4800 v.rw), ((w 4), aB g 600 v.bg), ((w 5), aB g 600 v.wt), ((w 6), aB g 600 v.dp), ((w 7), aI g 200 v.tg), ((w 8), aI g 200 v.ca), ((w 9), aI g 200 v.fs), ((w 10), aI g 200 v.sc), ((w 11), aI g 75 v.fa), ((w 12), aI g 75 v.ma), ((w 13), aI g 75 v.co)]) (wc := [(ve, .inr (8, [.ref mh, .ref c0, .ref n0, .ref h0, .ref (w 0), .ref (w 2), .ref fn, .int fr, .int en])), (h0, .inr (3, [.ref (w 0), .ref (w 2), .ref (w 7), .ref (w 8), .ref (w 9), .ref (w 10), .ref (w 11), .ref (w 12), .ref (w 13), .int v.nu, .int v.th, .int v.it, .int (nI v.fi), .int (nI v.me), .int v.mp])), ((w 0), .inr (2, [.ref (w 1), .int (nI v.n)])), ((w 1), aB g 600 v.b), ((w 2), .inr (1, [.ref (w 3), .ref (w 4), .ref (w 5), .ref (w 6), .int (nI v.lo)])), ((w 3), aJ g 4800 v.rw), ((w 4), aB g 600 v.bg), ((w 5), aB g 600 v.wt), ((w 6), aB g 600 v.dp), ((w 7), aI g 200 v.tg), ((w 8), aI g 200 v.ca), ((w 9), aI g 200 v.fs), ((w 10), aI g 200 v.sc), ((w 11), aI g 75 v.fa), ((w 12), aI g 75 v.ma), ((w 13), aI g 75 v.co)]) (As := [.int r4]) (rest := []) E hB hK hZ (s_Verifier_isInstruction l g H.size ve mh c0 n0 fn h0 w v fr en r4 hI) mc_Verifier_isInstruction mi_Verifier_isInstruction me_Verifier_isInstruction wd_749 hP hD hS hA [0, 2, 3, 4, 5, 6, 7, 8, 9, 10, 11, 12, 13, 14, 15, 16] rfl (by decide) 0 rfl rfl rfl rfl rfl (by decide) rfl hl.1 rfl (Nat.le_of_ble_eq_true rfl) (by decide) d_Verifier_areHandlersRight_73) (fun r12 hr12 => ?_)
            refine lv_if_ne (tgt := 88) hx hb d_Verifier_areHandlersRight_76 (by decide) (fun h76 => ?_) (fun h76 => ?_)
            · refine lv_aload_n hx hb d_Verifier_areHandlersRight_88 rfl (lv_at hl 6 rfl) ?_
              refine lv_aload_n hx hb d_Verifier_areHandlersRight_89 rfl (lv_at hl 6 rfl) ?_
              refine lv_iload_n hx hb d_Verifier_areHandlersRight_90 rfl (lv_at hl 3 rfl) ?_
              refine lv_iconst (v := 2) hx hb d_Verifier_areHandlersRight_91 (by decide) ?_
              refine tw_si (tw_runV (ws := [(ve, .inr (8, [.ref mh, .ref c0, .ref n0, .ref h0, .ref (w 0), .ref (w 2), .ref fn, .int fr, .int en])), (fn, .inr (0, [.int fa9, .int fp9])), (h0, .inr (3, [.ref (w 0), .ref (w 2), .ref (w 7), .ref (w 8), .ref (w 9), .ref (w 10), .ref (w 11), .ref (w 12), .ref (w 13), .int v.nu, .int v.th, .int v.it, .int (nI v.fi), .int (nI v.me), .int v.mp])), ((w 0), .inr (2, [.ref (w 1), .int (nI v.n)])), ((w 1), aB g 600 v.b), ((w 2), .inr (1, [.ref (w 3), .ref (w 4), .ref (w 5), .ref (w 6), .int (nI v.lo)])), ((w 3), aJ g 4800 v.rw), ((w 4), aB g 600 v.bg), ((w 5), aB g 600 v.wt), ((w 6), aB g 600 v.dp), ((w 7), aI g 200 v.tg), ((w 8), aI g 200 v.ca), ((w 9), aI g 200 v.fs), ((w 10), aI g 200 v.sc), ((w 11), aI g 75 v.fa), ((w 12), aI g 75 v.ma), ((w 13), aI g 75 v.co)]) (wc := [(ve, .inr (8, [.ref mh, .ref c0, .ref n0, .ref h0, .ref (w 0), .ref (w 2), .ref fn, .int fr, .int en])), (h0, .inr (3, [.ref (w 0), .ref (w 2), .ref (w 7), .ref (w 8), .ref (w 9), .ref (w 10), .ref (w 11), .ref (w 12), .ref (w 13), .int v.nu, .int v.th, .int v.it, .int (nI v.fi), .int (nI v.me), .int v.mp])), ((w 0), .inr (2, [.ref (w 1), .int (nI v.n)])), ((w 1), aB g 600 v.b), ((w 2), .inr (1, [.ref (w 3), .ref (w 4), .ref (w 5), .ref (w 6), .int (nI v.lo)])), ((w 3), aJ g 4800 v.rw), ((w 4), aB g 600 v.bg), ((w 5), aB g 600 v.wt), ((w 6), aB g 600 v.dp), ((w 7), aI g 200 v.tg), ((w 8), aI g 200 v.ca), ((w 9), aI g 200 v.fs), ((w 10), aI g 200 v.sc), ((w 11), aI g 75 v.fa), ((w 12), aI g 75 v.ma), ((w 13), aI g 75 v.co)]) (As := [.int r2, .int 2]) (rest := [.ref ve]) E hB hK hZ (s_Verifier_toldBy l g H.size ve mh c0 n0 fn h0 w v fr en r2 2 hI) mc_Verifier_toldBy mi_Verifier_toldBy me_Verifier_toldBy wd_745 hP hD hS hA [0, 2, 3, 4, 5, 6, 7, 8, 9, 10, 11, 12, 13, 14, 15, 16] rfl (by decide) 0 rfl rfl rfl rfl rfl (by decide) rfl hl.1 rfl (Nat.le_of_ble_eq_true rfl) (by decide) d_Verifier_areHandlersRight_92) (fun r13 hr13 => ?_)
              refine tw_si (tw_runV (ws := [(ve, .inr (8, [.ref mh, .ref c0, .ref n0, .ref h0, .ref (w 0), .ref (w 2), .ref fn, .int fr, .int en])), (fn, .inr (0, [.int fa9, .int fp9])), (h0, .inr (3, [.ref (w 0), .ref (w 2), .ref (w 7), .ref (w 8), .ref (w 9), .ref (w 10), .ref (w 11), .ref (w 12), .ref (w 13), .int v.nu, .int v.th, .int v.it, .int (nI v.fi), .int (nI v.me), .int v.mp])), ((w 0), .inr (2, [.ref (w 1), .int (nI v.n)])), ((w 1), aB g 600 v.b), ((w 2), .inr (1, [.ref (w 3), .ref (w 4), .ref (w 5), .ref (w 6), .int (nI v.lo)])), ((w 3), aJ g 4800 v.rw), ((w 4), aB g 600 v.bg), ((w 5), aB g 600 v.wt), ((w 6), aB g 600 v.dp), ((w 7), aI g 200 v.tg), ((w 8), aI g 200 v.ca), ((w 9), aI g 200 v.fs), ((w 10), aI g 200 v.sc), ((w 11), aI g 75 v.fa), ((w 12), aI g 75 v.ma), ((w 13), aI g 75 v.co)]) (wc := [(ve, .inr (8, [.ref mh, .ref c0, .ref n0, .ref h0, .ref (w 0), .ref (w 2), .ref fn, .int fr, .int en])), (h0, .inr (3, [.ref (w 0), .ref (w 2), .ref (w 7), .ref (w 8), .ref (w 9), .ref (w 10), .ref (w 11), .ref (w 12), .ref (w 13), .int v.nu, .int v.th, .int v.it, .int (nI v.fi), .int (nI v.me), .int v.mp])), ((w 0), .inr (2, [.ref (w 1), .int (nI v.n)])), ((w 1), aB g 600 v.b), ((w 2), .inr (1, [.ref (w 3), .ref (w 4), .ref (w 5), .ref (w 6), .int (nI v.lo)])), ((w 3), aJ g 4800 v.rw), ((w 4), aB g 600 v.bg), ((w 5), aB g 600 v.wt), ((w 6), aB g 600 v.dp), ((w 7), aI g 200 v.tg), ((w 8), aI g 200 v.ca), ((w 9), aI g 200 v.fs), ((w 10), aI g 200 v.sc), ((w 11), aI g 75 v.fa), ((w 12), aI g 75 v.ma), ((w 13), aI g 75 v.co)]) (As := [.int r13]) (rest := []) E hB hK hZ (s_Verifier_isInstruction l g H.size ve mh c0 n0 fn h0 w v fr en r13 hI) mc_Verifier_isInstruction mi_Verifier_isInstruction me_Verifier_isInstruction wd_749 hP hD hS hA [0, 2, 3, 4, 5, 6, 7, 8, 9, 10, 11, 12, 13, 14, 15, 16] rfl (by decide) 0 rfl rfl rfl rfl rfl (by decide) rfl hl.1 rfl (Nat.le_of_ble_eq_true rfl) (by decide) d_Verifier_areHandlersRight_95) (fun r14 hr14 => ?_)
              refine lv_if_eq (tgt := 124) hx hb d_Verifier_areHandlersRight_98 (by decide) (fun h98 => ?_) (fun h98 => ?_)
              · refine lv_iconst (v := 0) hx hb d_Verifier_areHandlersRight_124 (by decide) ?_
                refine lv_istore hx hb d_Verifier_areHandlersRight_125 hl (by decide) rfl (fun ls hl => ?_)
                have hl : lv_has ls 8 [(7, .int 0), (6, .int r6), (5, .int r4), (4, .int r3), (3, .int r2), (2, .int j), (1, .int r1), (0, .ref ve)] := hl
                refine lv_iload hx hb d_Verifier_areHandlersRight_127 (lv_at hl 0 rfl) ?_
                refine lv_if_ne (tgt := 143) hx hb d_Verifier_areHandlersRight_129 (by decide) (fun h129 => ?_) (fun h129 => ?_)
                · first | exact absurd h129 (by decide) | exact absurd (by decide) h129
                · refine lv_aload_n hx hb d_Verifier_areHandlersRight_132 rfl (lv_at hl 7 rfl) ?_
                  refine va_get (D := g.1) (ci := 8) (v := .ref fn) (C := R_Verifier) (T := F_Verifier) (N := 9) hx hb hts in_Verifier hown hK hP 0 rfl rfl 6 (by decide) (hts _ wd_188) (fun _ h9 => h9) rfl d_Verifier_areHandlersRight_133 ?_
                  refine lv_bipush (v := 20) hx hb d_Verifier_areHandlersRight_136 (by decide) ?_
                  refine lv_iload_n hx hb d_Verifier_areHandlersRight_138 rfl (lv_at hl 4 rfl) ?_
                  refine tw_wi (wr := [(ve, .inr (8, [.ref mh, .ref c0, .ref n0, .ref h0, .ref (w 0), .ref (w 2), .ref fn, .int fr, .int en])), (h0, .inr (3, [.ref (w 0), .ref (w 2), .ref (w 7), .ref (w 8), .ref (w 9), .ref (w 10), .ref (w 11), .ref (w 12), .ref (w 13), .int v.nu, .int v.th, .int v.it, .int (nI v.fi), .int (nI v.me), .int v.mp])), ((w 0), .inr (2, [.ref (w 1), .int (nI v.n)])), ((w 1), aB g 600 v.b), ((w 2), .inr (1, [.ref (w 3), .ref (w 4), .ref (w 5), .ref (w 6), .int (nI v.lo)])), ((w 3), aJ g 4800 v.rw), ((w 4), aB g 600 v.bg), ((w 5), aB g 600 v.wt), ((w 6), aB g 600 v.dp), ((w 7), aI g 200 v.tg), ((w 8), aI g 200 v.ca), ((w 9), aI g 200 v.fs), ((w 10), aI g 200 v.sc), ((w 11), aI g 75 v.fa), ((w 12), aI g 75 v.ma), ((w 13), aI g 75 v.co)]) (tw_runV (ws := [(ve, .inr (8, [.ref mh, .ref c0, .ref n0, .ref h0, .ref (w 0), .ref (w 2), .ref fn, .int fr, .int en])), (fn, .inr (0, [.int fa9, .int fp9])), (h0, .inr (3, [.ref (w 0), .ref (w 2), .ref (w 7), .ref (w 8), .ref (w 9), .ref (w 10), .ref (w 11), .ref (w 12), .ref (w 13), .int v.nu, .int v.th, .int v.it, .int (nI v.fi), .int (nI v.me), .int v.mp])), ((w 0), .inr (2, [.ref (w 1), .int (nI v.n)])), ((w 1), aB g 600 v.b), ((w 2), .inr (1, [.ref (w 3), .ref (w 4), .ref (w 5), .ref (w 6), .int (nI v.lo)])), ((w 3), aJ g 4800 v.rw), ((w 4), aB g 600 v.bg), ((w 5), aB g 600 v.wt), ((w 6), aB g 600 v.dp), ((w 7), aI g 200 v.tg), ((w 8), aI g 200 v.ca), ((w 9), aI g 200 v.fs), ((w 10), aI g 200 v.sc), ((w 11), aI g 75 v.fa), ((w 12), aI g 75 v.ma), ((w 13), aI g 75 v.co)]) (wc := [(fn, .inr (0, [.int fa9, .int fp9]))]) (As := [.int 20, .int r2]) (rest := []) E hB hK hZ (c_Finding_tell l g H.size fn fa9 fp9 20 r2) mc_Finding_tell mi_Finding_tell me_Finding_tell wd_728 hP hD hS hA [1] rfl (by decide) 0 rfl rfl rfl rfl rfl (by decide) rfl hl.1 rfl (Nat.le_of_ble_eq_true rfl) (by decide) d_Verifier_areHandlersRight_139) hP hD hS hA [1] [0, 2, 3, 4, 5, 6, 7, 8, 9, 10, 11, 12, 13, 14, 15, 16] rfl rfl (by decide) (by decide) (fun r15 u16 H locs hr15 hP hD hS => ?_)
                  try dsimp only at hr15
                  have hP : va_P g.1 classes [(ve, .inr (8, [.ref mh, .ref c0, .ref n0, .ref h0, .ref (w 0), .ref (w 2), .ref fn, .int fr, .int en])), (h0, .inr (3, [.ref (w 0), .ref (w 2), .ref (w 7), .ref (w 8), .ref (w 9), .ref (w 10), .ref (w 11), .ref (w 12), .ref (w 13), .int v.nu, .int v.th, .int v.it, .int (nI v.fi), .int (nI v.me), .int v.mp])), ((w 0), .inr (2, [.ref (w 1), .int (nI v.n)])), ((w 1), aB g 600 v.b), ((w 2), .inr (1, [.ref (w 3), .ref (w 4), .ref (w 5), .ref (w 6), .int (nI v.lo)])), ((w 3), aJ g 4800 v.rw), ((w 4), aB g 600 v.bg), ((w 5), aB g 600 v.wt), ((w 6), aB g 600 v.dp), ((w 7), aI g 200 v.tg), ((w 8), aI g 200 v.ca), ((w 9), aI g 200 v.fs), ((w 10), aI g 200 v.sc), ((w 11), aI g 75 v.fa), ((w 12), aI g 75 v.ma), ((w 13), aI g 75 v.co), (fn, .inr (0, [.int 20, .int r2]))] H := hP
                  have hD : va_D A [(ve, .inr (8, [.ref mh, .ref c0, .ref n0, .ref h0, .ref (w 0), .ref (w 2), .ref fn, .int fr, .int en])), (h0, .inr (3, [.ref (w 0), .ref (w 2), .ref (w 7), .ref (w 8), .ref (w 9), .ref (w 10), .ref (w 11), .ref (w 12), .ref (w 13), .int v.nu, .int v.th, .int v.it, .int (nI v.fi), .int (nI v.me), .int v.mp])), ((w 0), .inr (2, [.ref (w 1), .int (nI v.n)])), ((w 1), aB g 600 v.b), ((w 2), .inr (1, [.ref (w 3), .ref (w 4), .ref (w 5), .ref (w 6), .int (nI v.lo)])), ((w 3), aJ g 4800 v.rw), ((w 4), aB g 600 v.bg), ((w 5), aB g 600 v.wt), ((w 6), aB g 600 v.dp), ((w 7), aI g 200 v.tg), ((w 8), aI g 200 v.ca), ((w 9), aI g 200 v.fs), ((w 10), aI g 200 v.sc), ((w 11), aI g 75 v.fa), ((w 12), aI g 75 v.ma), ((w 13), aI g 75 v.co), (fn, .inr (0, [.int 20, .int r2]))] := hD
                  obtain rfl : r15 = 0 := hr15
                  have hP : va_P g.1 classes [(ve, .inr (8, [.ref mh, .ref c0, .ref n0, .ref h0, .ref (w 0), .ref (w 2), .ref fn, .int fr, .int en])), (fn, .inr (0, [.int 20, .int r2])), (h0, .inr (3, [.ref (w 0), .ref (w 2), .ref (w 7), .ref (w 8), .ref (w 9), .ref (w 10), .ref (w 11), .ref (w 12), .ref (w 13), .int v.nu, .int v.th, .int v.it, .int (nI v.fi), .int (nI v.me), .int v.mp])), ((w 0), .inr (2, [.ref (w 1), .int (nI v.n)])), ((w 1), aB g 600 v.b), ((w 2), .inr (1, [.ref (w 3), .ref (w 4), .ref (w 5), .ref (w 6), .int (nI v.lo)])), ((w 3), aJ g 4800 v.rw), ((w 4), aB g 600 v.bg), ((w 5), aB g 600 v.wt), ((w 6), aB g 600 v.dp), ((w 7), aI g 200 v.tg), ((w 8), aI g 200 v.ca), ((w 9), aI g 200 v.fs), ((w 10), aI g 200 v.sc), ((w 11), aI g 75 v.fa), ((w 12), aI g 75 v.ma), ((w 13), aI g 75 v.co)] H := hP.sub [0, 16, 1, 2, 3, 4, 5, 6, 7, 8, 9, 10, 11, 12, 13, 14, 15] rfl
                  have hD : va_D A [(ve, .inr (8, [.ref mh, .ref c0, .ref n0, .ref h0, .ref (w 0), .ref (w 2), .ref fn, .int fr, .int en])), (fn, .inr (0, [.int 20, .int r2])), (h0, .inr (3, [.ref (w 0), .ref (w 2), .ref (w 7), .ref (w 8), .ref (w 9), .ref (w 10), .ref (w 11), .ref (w 12), .ref (w 13), .int v.nu, .int v.th, .int v.it, .int (nI v.fi), .int (nI v.me), .int v.mp])), ((w 0), .inr (2, [.ref (w 1), .int (nI v.n)])), ((w 1), aB g 600 v.b), ((w 2), .inr (1, [.ref (w 3), .ref (w 4), .ref (w 5), .ref (w 6), .int (nI v.lo)])), ((w 3), aJ g 4800 v.rw), ((w 4), aB g 600 v.bg), ((w 5), aB g 600 v.wt), ((w 6), aB g 600 v.dp), ((w 7), aI g 200 v.tg), ((w 8), aI g 200 v.ca), ((w 9), aI g 200 v.fs), ((w 10), aI g 200 v.sc), ((w 11), aI g 75 v.fa), ((w 12), aI g 75 v.ma), ((w 13), aI g 75 v.co)] := hD.sub [0, 16, 1, 2, 3, 4, 5, 6, 7, 8, 9, 10, 11, 12, 13, 14, 15] (by decide) rfl
                  exact tw_zret E hS (20, r2) (by decide) (by decide) hP hD d_Verifier_areHandlersRight_142
              · refine lv_iload hx hb d_Verifier_areHandlersRight_101 (lv_at hl 0 rfl) ?_
                refine lv_if_eq (tgt := 120) hx hb d_Verifier_areHandlersRight_103 (by decide) (fun h103 => ?_) (fun h103 => ?_)
                · refine lv_iconst (v := 1) hx hb d_Verifier_areHandlersRight_120 (by decide) ?_
                  refine lv_goto (tgt := 125) hx hb d_Verifier_areHandlersRight_121 (by decide) ?_
                  refine lv_istore hx hb d_Verifier_areHandlersRight_125 hl (by decide) rfl (fun ls hl => ?_)
                  have hl : lv_has ls 8 [(7, .int 1), (6, .int r6), (5, .int r4), (4, .int r3), (3, .int r2), (2, .int j), (1, .int r1), (0, .ref ve)] := hl
                  refine lv_iload hx hb d_Verifier_areHandlersRight_127 (lv_at hl 0 rfl) ?_
                  refine lv_if_ne (tgt := 143) hx hb d_Verifier_areHandlersRight_129 (by decide) (fun h129 => ?_) (fun h129 => ?_)
                  · refine lv_iinc (k := 5) (v := j + 1) hx hb d_Verifier_areHandlersRight_143 hl rfl rfl (by decide) rfl (fun ls hl => ?_)
                    have hl : lv_has ls 8 [(2, .int (j + 1)), (7, .int 1), (6, .int r6), (5, .int r4), (4, .int r3), (3, .int r2), (1, .int r1), (0, .ref ve)] := hl
                    refine lv_goto (tgt := 14) hx hb d_Verifier_areHandlersRight_146 (by decide) ?_
                    have hP : va_P g.1 classes [(ve, .inr (8, [.ref mh, .ref c0, .ref n0, .ref h0, .ref (w 0), .ref (w 2), .ref fn, .int fr, .int en])), (fn, .inr (0, [.int fa9, .int fp9])), (h0, .inr (3, [.ref (w 0), .ref (w 2), .ref (w 7), .ref (w 8), .ref (w 9), .ref (w 10), .ref (w 11), .ref (w 12), .ref (w 13), .int v.nu, .int v.th, .int v.it, .int (nI v.fi), .int (nI v.me), .int v.mp])), ((w 0), .inr (2, [.ref (w 1), .int (nI v.n)])), ((w 1), aB g 600 v.b), ((w 2), .inr (1, [.ref (w 3), .ref (w 4), .ref (w 5), .ref (w 6), .int (nI v.lo)])), ((w 3), aJ g 4800 v.rw), ((w 4), aB g 600 v.bg), ((w 5), aB g 600 v.wt), ((w 6), aB g 600 v.dp), ((w 7), aI g 200 v.tg), ((w 8), aI g 200 v.ca), ((w 9), aI g 200 v.fs), ((w 10), aI g 200 v.sc), ((w 11), aI g 75 v.fa), ((w 12), aI g 75 v.ma), ((w 13), aI g 75 v.co)] H := hP.sub [0, 1, 2, 3, 4, 5, 6, 7, 8, 9, 10, 11, 12, 13, 14, 15, 16] rfl
                    have hD : va_D A [(ve, .inr (8, [.ref mh, .ref c0, .ref n0, .ref h0, .ref (w 0), .ref (w 2), .ref fn, .int fr, .int en])), (fn, .inr (0, [.int fa9, .int fp9])), (h0, .inr (3, [.ref (w 0), .ref (w 2), .ref (w 7), .ref (w 8), .ref (w 9), .ref (w 10), .ref (w 11), .ref (w 12), .ref (w 13), .int v.nu, .int v.th, .int v.it, .int (nI v.fi), .int (nI v.me), .int v.mp])), ((w 0), .inr (2, [.ref (w 1), .int (nI v.n)])), ((w 1), aB g 600 v.b), ((w 2), .inr (1, [.ref (w 3), .ref (w 4), .ref (w 5), .ref (w 6), .int (nI v.lo)])), ((w 3), aJ g 4800 v.rw), ((w 4), aB g 600 v.bg), ((w 5), aB g 600 v.wt), ((w 6), aB g 600 v.dp), ((w 7), aI g 200 v.tg), ((w 8), aI g 200 v.ca), ((w 9), aI g 200 v.fs), ((w 10), aI g 200 v.sc), ((w 11), aI g 75 v.fa), ((w 12), aI g 75 v.ma), ((w 13), aI g 75 v.co)] := hD.sub [0, 1, 2, 3, 4, 5, 6, 7, 8, 9, 10, 11, 12, 13, 14, 15, 16] (by decide) rfl
                    exact ih _ (hk ▸ ims_dec h16) (j + 1) fa9 fp9 ls _ _ rfl  (lv_sub hl [0, 6, 7] rfl) hP hD hS
                  · first | exact absurd h129 (by decide) | exact absurd (by decide) h129
                · refine lv_aload_n hx hb d_Verifier_areHandlersRight_106 rfl (lv_at hl 6 rfl) ?_
                  refine va_get (D := g.1) (ci := 8) (v := .ref h0) (C := R_Verifier) (T := F_Verifier) (N := 9) hx hb hts in_Verifier hown hK hP 0 rfl rfl 3 (by decide) (hts _ wd_185) (fun _ h9 => h9) rfl d_Verifier_areHandlersRight_107 ?_
                  refine lv_iload hx hb d_Verifier_areHandlersRight_110 (lv_at hl 0 rfl) ?_
                  refine tw_si (tw_runV (ws := [(ve, .inr (8, [.ref mh, .ref c0, .ref n0, .ref h0, .ref (w 0), .ref (w 2), .ref fn, .int fr, .int en])), (fn, .inr (0, [.int fa9, .int fp9])), (h0, .inr (3, [.ref (w 0), .ref (w 2), .ref (w 7), .ref (w 8), .ref (w 9), .ref (w 10), .ref (w 11), .ref (w 12), .ref (w 13), .int v.nu, .int v.th, .int v.it, .int (nI v.fi), .int (nI v.me), .int v.mp])), ((w 0), .inr (2, [.ref (w 1), .int (nI v.n)])), ((w 1), aB g 600 v.b), ((w 2), .inr (1, [.ref (w 3), .ref (w 4), .ref (w 5), .ref (w 6), .int (nI v.lo)])), ((w 3), aJ g 4800 v.rw), ((w 4), aB g 600 v.bg), ((w 5), aB g 600 v.wt), ((w 6), aB g 600 v.dp), ((w 7), aI g 200 v.tg), ((w 8), aI g 200 v.ca), ((w 9), aI g 200 v.fs), ((w 10), aI g 200 v.sc), ((w 11), aI g 75 v.fa), ((w 12), aI g 75 v.ma), ((w 13), aI g 75 v.co)]) (wc := [(h0, .inr (3, [.ref (w 0), .ref (w 2), .ref (w 7), .ref (w 8), .ref (w 9), .ref (w 10), .ref (w 11), .ref (w 12), .ref (w 13), .int v.nu, .int v.th, .int v.it, .int (nI v.fi), .int (nI v.me), .int v.mp])), ((w 0), .inr (2, [.ref (w 1), .int (nI v.n)])), ((w 1), aB g 600 v.b), ((w 2), .inr (1, [.ref (w 3), .ref (w 4), .ref (w 5), .ref (w 6), .int (nI v.lo)])), ((w 3), aJ g 4800 v.rw), ((w 4), aB g 600 v.bg), ((w 5), aB g 600 v.wt), ((w 6), aB g 600 v.dp), ((w 7), aI g 200 v.tg), ((w 8), aI g 200 v.ca), ((w 9), aI g 200 v.fs), ((w 10), aI g 200 v.sc), ((w 11), aI g 75 v.fa), ((w 12), aI g 75 v.ma), ((w 13), aI g 75 v.co)]) (As := [.int r6]) (rest := []) E hB hK hZ (s_Layout_tagOf l g H.size h0 w v r6 hI) mc_Layout_tagOf mi_Layout_tagOf me_Layout_tagOf wd_757 hP hD hS hA [2, 3, 4, 5, 6, 7, 8, 9, 10, 11, 12, 13, 14, 15, 16] rfl (by decide) 0 rfl rfl rfl rfl rfl (by decide) rfl hl.1 rfl (Nat.le_of_ble_eq_true rfl) (by decide) d_Verifier_areHandlersRight_112) (fun r17 hr17 => ?_)
                  refine lv_bipush (v := 7) hx hb d_Verifier_areHandlersRight_115 (by decide) ?_
                  refine lv_icmp_ne (tgt := 124) hx hb d_Verifier_areHandlersRight_117 (by decide) (fun h117 => ?_) (fun h117 => ?_)
                  · refine lv_iconst (v := 0) hx hb d_Verifier_areHandlersRight_124 (by decide) ?_
                    refine lv_istore hx hb d_Verifier_areHandlersRight_125 hl (by decide) rfl (fun ls hl => ?_)
                    have hl : lv_has ls 8 [(7, .int 0), (6, .int r6), (5, .int r4), (4, .int r3), (3, .int r2), (2, .int j), (1, .int r1), (0, .ref ve)] := hl
                    refine lv_iload hx hb d_Verifier_areHandlersRight_127 (lv_at hl 0 rfl) ?_
                    refine lv_if_ne (tgt := 143) hx hb d_Verifier_areHandlersRight_129 (by decide) (fun h129 => ?_) (fun h129 => ?_)
                    · first | exact absurd h129 (by decide) | exact absurd (by decide) h129
                    · refine lv_aload_n hx hb d_Verifier_areHandlersRight_132 rfl (lv_at hl 7 rfl) ?_
                      refine va_get (D := g.1) (ci := 8) (v := .ref fn) (C := R_Verifier) (T := F_Verifier) (N := 9) hx hb hts in_Verifier hown hK hP 0 rfl rfl 6 (by decide) (hts _ wd_188) (fun _ h9 => h9) rfl d_Verifier_areHandlersRight_133 ?_
                      refine lv_bipush (v := 20) hx hb d_Verifier_areHandlersRight_136 (by decide) ?_
                      refine lv_iload_n hx hb d_Verifier_areHandlersRight_138 rfl (lv_at hl 4 rfl) ?_
                      refine tw_wi (wr := [(ve, .inr (8, [.ref mh, .ref c0, .ref n0, .ref h0, .ref (w 0), .ref (w 2), .ref fn, .int fr, .int en])), (h0, .inr (3, [.ref (w 0), .ref (w 2), .ref (w 7), .ref (w 8), .ref (w 9), .ref (w 10), .ref (w 11), .ref (w 12), .ref (w 13), .int v.nu, .int v.th, .int v.it, .int (nI v.fi), .int (nI v.me), .int v.mp])), ((w 0), .inr (2, [.ref (w 1), .int (nI v.n)])), ((w 1), aB g 600 v.b), ((w 2), .inr (1, [.ref (w 3), .ref (w 4), .ref (w 5), .ref (w 6), .int (nI v.lo)])), ((w 3), aJ g 4800 v.rw), ((w 4), aB g 600 v.bg), ((w 5), aB g 600 v.wt), ((w 6), aB g 600 v.dp), ((w 7), aI g 200 v.tg), ((w 8), aI g 200 v.ca), ((w 9), aI g 200 v.fs), ((w 10), aI g 200 v.sc), ((w 11), aI g 75 v.fa), ((w 12), aI g 75 v.ma), ((w 13), aI g 75 v.co)]) (tw_runV (ws := [(ve, .inr (8, [.ref mh, .ref c0, .ref n0, .ref h0, .ref (w 0), .ref (w 2), .ref fn, .int fr, .int en])), (fn, .inr (0, [.int fa9, .int fp9])), (h0, .inr (3, [.ref (w 0), .ref (w 2), .ref (w 7), .ref (w 8), .ref (w 9), .ref (w 10), .ref (w 11), .ref (w 12), .ref (w 13), .int v.nu, .int v.th, .int v.it, .int (nI v.fi), .int (nI v.me), .int v.mp])), ((w 0), .inr (2, [.ref (w 1), .int (nI v.n)])), ((w 1), aB g 600 v.b), ((w 2), .inr (1, [.ref (w 3), .ref (w 4), .ref (w 5), .ref (w 6), .int (nI v.lo)])), ((w 3), aJ g 4800 v.rw), ((w 4), aB g 600 v.bg), ((w 5), aB g 600 v.wt), ((w 6), aB g 600 v.dp), ((w 7), aI g 200 v.tg), ((w 8), aI g 200 v.ca), ((w 9), aI g 200 v.fs), ((w 10), aI g 200 v.sc), ((w 11), aI g 75 v.fa), ((w 12), aI g 75 v.ma), ((w 13), aI g 75 v.co)]) (wc := [(fn, .inr (0, [.int fa9, .int fp9]))]) (As := [.int 20, .int r2]) (rest := []) E hB hK hZ (c_Finding_tell l g H.size fn fa9 fp9 20 r2) mc_Finding_tell mi_Finding_tell me_Finding_tell wd_728 hP hD hS hA [1] rfl (by decide) 0 rfl rfl rfl rfl rfl (by decide) rfl hl.1 rfl (Nat.le_of_ble_eq_true rfl) (by decide) d_Verifier_areHandlersRight_139) hP hD hS hA [1] [0, 2, 3, 4, 5, 6, 7, 8, 9, 10, 11, 12, 13, 14, 15, 16] rfl rfl (by decide) (by decide) (fun r18 u19 H locs hr18 hP hD hS => ?_)
                      try dsimp only at hr18
                      have hP : va_P g.1 classes [(ve, .inr (8, [.ref mh, .ref c0, .ref n0, .ref h0, .ref (w 0), .ref (w 2), .ref fn, .int fr, .int en])), (h0, .inr (3, [.ref (w 0), .ref (w 2), .ref (w 7), .ref (w 8), .ref (w 9), .ref (w 10), .ref (w 11), .ref (w 12), .ref (w 13), .int v.nu, .int v.th, .int v.it, .int (nI v.fi), .int (nI v.me), .int v.mp])), ((w 0), .inr (2, [.ref (w 1), .int (nI v.n)])), ((w 1), aB g 600 v.b), ((w 2), .inr (1, [.ref (w 3), .ref (w 4), .ref (w 5), .ref (w 6), .int (nI v.lo)])), ((w 3), aJ g 4800 v.rw), ((w 4), aB g 600 v.bg), ((w 5), aB g 600 v.wt), ((w 6), aB g 600 v.dp), ((w 7), aI g 200 v.tg), ((w 8), aI g 200 v.ca), ((w 9), aI g 200 v.fs), ((w 10), aI g 200 v.sc), ((w 11), aI g 75 v.fa), ((w 12), aI g 75 v.ma), ((w 13), aI g 75 v.co), (fn, .inr (0, [.int 20, .int r2]))] H := hP
                      have hD : va_D A [(ve, .inr (8, [.ref mh, .ref c0, .ref n0, .ref h0, .ref (w 0), .ref (w 2), .ref fn, .int fr, .int en])), (h0, .inr (3, [.ref (w 0), .ref (w 2), .ref (w 7), .ref (w 8), .ref (w 9), .ref (w 10), .ref (w 11), .ref (w 12), .ref (w 13), .int v.nu, .int v.th, .int v.it, .int (nI v.fi), .int (nI v.me), .int v.mp])), ((w 0), .inr (2, [.ref (w 1), .int (nI v.n)])), ((w 1), aB g 600 v.b), ((w 2), .inr (1, [.ref (w 3), .ref (w 4), .ref (w 5), .ref (w 6), .int (nI v.lo)])), ((w 3), aJ g 4800 v.rw), ((w 4), aB g 600 v.bg), ((w 5), aB g 600 v.wt), ((w 6), aB g 600 v.dp), ((w 7), aI g 200 v.tg), ((w 8), aI g 200 v.ca), ((w 9), aI g 200 v.fs), ((w 10), aI g 200 v.sc), ((w 11), aI g 75 v.fa), ((w 12), aI g 75 v.ma), ((w 13), aI g 75 v.co), (fn, .inr (0, [.int 20, .int r2]))] := hD
                      obtain rfl : r18 = 0 := hr18
                      have hP : va_P g.1 classes [(ve, .inr (8, [.ref mh, .ref c0, .ref n0, .ref h0, .ref (w 0), .ref (w 2), .ref fn, .int fr, .int en])), (fn, .inr (0, [.int 20, .int r2])), (h0, .inr (3, [.ref (w 0), .ref (w 2), .ref (w 7), .ref (w 8), .ref (w 9), .ref (w 10), .ref (w 11), .ref (w 12), .ref (w 13), .int v.nu, .int v.th, .int v.it, .int (nI v.fi), .int (nI v.me), .int v.mp])), ((w 0), .inr (2, [.ref (w 1), .int (nI v.n)])), ((w 1), aB g 600 v.b), ((w 2), .inr (1, [.ref (w 3), .ref (w 4), .ref (w 5), .ref (w 6), .int (nI v.lo)])), ((w 3), aJ g 4800 v.rw), ((w 4), aB g 600 v.bg), ((w 5), aB g 600 v.wt), ((w 6), aB g 600 v.dp), ((w 7), aI g 200 v.tg), ((w 8), aI g 200 v.ca), ((w 9), aI g 200 v.fs), ((w 10), aI g 200 v.sc), ((w 11), aI g 75 v.fa), ((w 12), aI g 75 v.ma), ((w 13), aI g 75 v.co)] H := hP.sub [0, 16, 1, 2, 3, 4, 5, 6, 7, 8, 9, 10, 11, 12, 13, 14, 15] rfl
                      have hD : va_D A [(ve, .inr (8, [.ref mh, .ref c0, .ref n0, .ref h0, .ref (w 0), .ref (w 2), .ref fn, .int fr, .int en])), (fn, .inr (0, [.int 20, .int r2])), (h0, .inr (3, [.ref (w 0), .ref (w 2), .ref (w 7), .ref (w 8), .ref (w 9), .ref (w 10), .ref (w 11), .ref (w 12), .ref (w 13), .int v.nu, .int v.th, .int v.it, .int (nI v.fi), .int (nI v.me), .int v.mp])), ((w 0), .inr (2, [.ref (w 1), .int (nI v.n)])), ((w 1), aB g 600 v.b), ((w 2), .inr (1, [.ref (w 3), .ref (w 4), .ref (w 5), .ref (w 6), .int (nI v.lo)])), ((w 3), aJ g 4800 v.rw), ((w 4), aB g 600 v.bg), ((w 5), aB g 600 v.wt), ((w 6), aB g 600 v.dp), ((w 7), aI g 200 v.tg), ((w 8), aI g 200 v.ca), ((w 9), aI g 200 v.fs), ((w 10), aI g 200 v.sc), ((w 11), aI g 75 v.fa), ((w 12), aI g 75 v.ma), ((w 13), aI g 75 v.co)] := hD.sub [0, 16, 1, 2, 3, 4, 5, 6, 7, 8, 9, 10, 11, 12, 13, 14, 15] (by decide) rfl
                      exact tw_zret E hS (20, r2) (by decide) (by decide) hP hD d_Verifier_areHandlersRight_142
                  · refine lv_iconst (v := 1) hx hb d_Verifier_areHandlersRight_120 (by decide) ?_
                    refine lv_goto (tgt := 125) hx hb d_Verifier_areHandlersRight_121 (by decide) ?_
                    refine lv_istore hx hb d_Verifier_areHandlersRight_125 hl (by decide) rfl (fun ls hl => ?_)
                    have hl : lv_has ls 8 [(7, .int 1), (6, .int r6), (5, .int r4), (4, .int r3), (3, .int r2), (2, .int j), (1, .int r1), (0, .ref ve)] := hl
                    refine lv_iload hx hb d_Verifier_areHandlersRight_127 (lv_at hl 0 rfl) ?_
                    refine lv_if_ne (tgt := 143) hx hb d_Verifier_areHandlersRight_129 (by decide) (fun h129 => ?_) (fun h129 => ?_)
                    · refine lv_iinc (k := 5) (v := j + 1) hx hb d_Verifier_areHandlersRight_143 hl rfl rfl (by decide) rfl (fun ls hl => ?_)
                      have hl : lv_has ls 8 [(2, .int (j + 1)), (7, .int 1), (6, .int r6), (5, .int r4), (4, .int r3), (3, .int r2), (1, .int r1), (0, .ref ve)] := hl
                      refine lv_goto (tgt := 14) hx hb d_Verifier_areHandlersRight_146 (by decide) ?_
                      have hP : va_P g.1 classes [(ve, .inr (8, [.ref mh, .ref c0, .ref n0, .ref h0, .ref (w 0), .ref (w 2), .ref fn, .int fr, .int en])), (fn, .inr (0, [.int fa9, .int fp9])), (h0, .inr (3, [.ref (w 0), .ref (w 2), .ref (w 7), .ref (w 8), .ref (w 9), .ref (w 10), .ref (w 11), .ref (w 12), .ref (w 13), .int v.nu, .int v.th, .int v.it, .int (nI v.fi), .int (nI v.me), .int v.mp])), ((w 0), .inr (2, [.ref (w 1), .int (nI v.n)])), ((w 1), aB g 600 v.b), ((w 2), .inr (1, [.ref (w 3), .ref (w 4), .ref (w 5), .ref (w 6), .int (nI v.lo)])), ((w 3), aJ g 4800 v.rw), ((w 4), aB g 600 v.bg), ((w 5), aB g 600 v.wt), ((w 6), aB g 600 v.dp), ((w 7), aI g 200 v.tg), ((w 8), aI g 200 v.ca), ((w 9), aI g 200 v.fs), ((w 10), aI g 200 v.sc), ((w 11), aI g 75 v.fa), ((w 12), aI g 75 v.ma), ((w 13), aI g 75 v.co)] H := hP.sub [0, 1, 2, 3, 4, 5, 6, 7, 8, 9, 10, 11, 12, 13, 14, 15, 16] rfl
                      have hD : va_D A [(ve, .inr (8, [.ref mh, .ref c0, .ref n0, .ref h0, .ref (w 0), .ref (w 2), .ref fn, .int fr, .int en])), (fn, .inr (0, [.int fa9, .int fp9])), (h0, .inr (3, [.ref (w 0), .ref (w 2), .ref (w 7), .ref (w 8), .ref (w 9), .ref (w 10), .ref (w 11), .ref (w 12), .ref (w 13), .int v.nu, .int v.th, .int v.it, .int (nI v.fi), .int (nI v.me), .int v.mp])), ((w 0), .inr (2, [.ref (w 1), .int (nI v.n)])), ((w 1), aB g 600 v.b), ((w 2), .inr (1, [.ref (w 3), .ref (w 4), .ref (w 5), .ref (w 6), .int (nI v.lo)])), ((w 3), aJ g 4800 v.rw), ((w 4), aB g 600 v.bg), ((w 5), aB g 600 v.wt), ((w 6), aB g 600 v.dp), ((w 7), aI g 200 v.tg), ((w 8), aI g 200 v.ca), ((w 9), aI g 200 v.fs), ((w 10), aI g 200 v.sc), ((w 11), aI g 75 v.fa), ((w 12), aI g 75 v.ma), ((w 13), aI g 75 v.co)] := hD.sub [0, 1, 2, 3, 4, 5, 6, 7, 8, 9, 10, 11, 12, 13, 14, 15, 16] (by decide) rfl
                      exact ih _ (hk ▸ ims_dec h16) (j + 1) fa9 fp9 ls _ _ rfl  (lv_sub hl [0, 6, 7] rfl) hP hD hS
                    · first | exact absurd h129 (by decide) | exact absurd (by decide) h129
            · refine lv_iload hx hb d_Verifier_areHandlersRight_79 (lv_at hl 1 rfl) ?_
              refine lv_aload_n hx hb d_Verifier_areHandlersRight_81 rfl (lv_at hl 6 rfl) ?_
              refine va_get (D := g.1) (ci := 8) (v := .int en) (C := R_Verifier) (T := F_Verifier) (N := 9) hx hb hts in_Verifier hown hK hP 0 rfl rfl 8 (by decide) (hts _ wd_190) (fun _ h9 => h9) rfl d_Verifier_areHandlersRight_82 ?_
              refine lv_icmp_ne (tgt := 124) hx hb d_Verifier_areHandlersRight_85 (by decide) (fun h85 => ?_) (fun h85 => ?_)
              · refine lv_iconst (v := 0) hx hb d_Verifier_areHandlersRight_124 (by decide) ?_
                refine lv_istore hx hb d_Verifier_areHandlersRight_125 hl (by decide) rfl (fun ls hl => ?_)
                have hl : lv_has ls 8 [(7, .int 0), (6, .int r6), (5, .int r4), (4, .int r3), (3, .int r2), (2, .int j), (1, .int r1), (0, .ref ve)] := hl
                refine lv_iload hx hb d_Verifier_areHandlersRight_127 (lv_at hl 0 rfl) ?_
                refine lv_if_ne (tgt := 143) hx hb d_Verifier_areHandlersRight_129 (by decide) (fun h129 => ?_) (fun h129 => ?_)
                · first | exact absurd h129 (by decide) | exact absurd (by decide) h129
                · refine lv_aload_n hx hb d_Verifier_areHandlersRight_132 rfl (lv_at hl 7 rfl) ?_
                  refine va_get (D := g.1) (ci := 8) (v := .ref fn) (C := R_Verifier) (T := F_Verifier) (N := 9) hx hb hts in_Verifier hown hK hP 0 rfl rfl 6 (by decide) (hts _ wd_188) (fun _ h9 => h9) rfl d_Verifier_areHandlersRight_133 ?_
                  refine lv_bipush (v := 20) hx hb d_Verifier_areHandlersRight_136 (by decide) ?_
                  refine lv_iload_n hx hb d_Verifier_areHandlersRight_138 rfl (lv_at hl 4 rfl) ?_
                  refine tw_wi (wr := [(ve, .inr (8, [.ref mh, .ref c0, .ref n0, .ref h0, .ref (w 0), .ref (w 2), .ref fn, .int fr, .int en])), (h0, .inr (3, [.ref (w 0), .ref (w 2), .ref (w 7), .ref (w 8), .ref (w 9), .ref (w 10), .ref (w 11), .ref (w 12), .ref (w 13), .int v.nu, .int v.th, .int v.it, .int (nI v.fi), .int (nI v.me), .int v.mp])), ((w 0), .inr (2, [.ref (w 1), .int (nI v.n)])), ((w 1), aB g 600 v.b), ((w 2), .inr (1, [.ref (w 3), .ref (w 4), .ref (w 5), .ref (w 6), .int (nI v.lo)])), ((w 3), aJ g 4800 v.rw), ((w 4), aB g 600 v.bg), ((w 5), aB g 600 v.wt), ((w 6), aB g 600 v.dp), ((w 7), aI g 200 v.tg), ((w 8), aI g 200 v.ca), ((w 9), aI g 200 v.fs), ((w 10), aI g 200 v.sc), ((w 11), aI g 75 v.fa), ((w 12), aI g 75 v.ma), ((w 13), aI g 75 v.co)]) (tw_runV (ws := [(ve, .inr (8, [.ref mh, .ref c0, .ref n0, .ref h0, .ref (w 0), .ref (w 2), .ref fn, .int fr, .int en])), (fn, .inr (0, [.int fa9, .int fp9])), (h0, .inr (3, [.ref (w 0), .ref (w 2), .ref (w 7), .ref (w 8), .ref (w 9), .ref (w 10), .ref (w 11), .ref (w 12), .ref (w 13), .int v.nu, .int v.th, .int v.it, .int (nI v.fi), .int (nI v.me), .int v.mp])), ((w 0), .inr (2, [.ref (w 1), .int (nI v.n)])), ((w 1), aB g 600 v.b), ((w 2), .inr (1, [.ref (w 3), .ref (w 4), .ref (w 5), .ref (w 6), .int (nI v.lo)])), ((w 3), aJ g 4800 v.rw), ((w 4), aB g 600 v.bg), ((w 5), aB g 600 v.wt), ((w 6), aB g 600 v.dp), ((w 7), aI g 200 v.tg), ((w 8), aI g 200 v.ca), ((w 9), aI g 200 v.fs), ((w 10), aI g 200 v.sc), ((w 11), aI g 75 v.fa), ((w 12), aI g 75 v.ma), ((w 13), aI g 75 v.co)]) (wc := [(fn, .inr (0, [.int fa9, .int fp9]))]) (As := [.int 20, .int r2]) (rest := []) E hB hK hZ (c_Finding_tell l g H.size fn fa9 fp9 20 r2) mc_Finding_tell mi_Finding_tell me_Finding_tell wd_728 hP hD hS hA [1] rfl (by decide) 0 rfl rfl rfl rfl rfl (by decide) rfl hl.1 rfl (Nat.le_of_ble_eq_true rfl) (by decide) d_Verifier_areHandlersRight_139) hP hD hS hA [1] [0, 2, 3, 4, 5, 6, 7, 8, 9, 10, 11, 12, 13, 14, 15, 16] rfl rfl (by decide) (by decide) (fun r20 u21 H locs hr20 hP hD hS => ?_)
                  try dsimp only at hr20
                  have hP : va_P g.1 classes [(ve, .inr (8, [.ref mh, .ref c0, .ref n0, .ref h0, .ref (w 0), .ref (w 2), .ref fn, .int fr, .int en])), (h0, .inr (3, [.ref (w 0), .ref (w 2), .ref (w 7), .ref (w 8), .ref (w 9), .ref (w 10), .ref (w 11), .ref (w 12), .ref (w 13), .int v.nu, .int v.th, .int v.it, .int (nI v.fi), .int (nI v.me), .int v.mp])), ((w 0), .inr (2, [.ref (w 1), .int (nI v.n)])), ((w 1), aB g 600 v.b), ((w 2), .inr (1, [.ref (w 3), .ref (w 4), .ref (w 5), .ref (w 6), .int (nI v.lo)])), ((w 3), aJ g 4800 v.rw), ((w 4), aB g 600 v.bg), ((w 5), aB g 600 v.wt), ((w 6), aB g 600 v.dp), ((w 7), aI g 200 v.tg), ((w 8), aI g 200 v.ca), ((w 9), aI g 200 v.fs), ((w 10), aI g 200 v.sc), ((w 11), aI g 75 v.fa), ((w 12), aI g 75 v.ma), ((w 13), aI g 75 v.co), (fn, .inr (0, [.int 20, .int r2]))] H := hP
                  have hD : va_D A [(ve, .inr (8, [.ref mh, .ref c0, .ref n0, .ref h0, .ref (w 0), .ref (w 2), .ref fn, .int fr, .int en])), (h0, .inr (3, [.ref (w 0), .ref (w 2), .ref (w 7), .ref (w 8), .ref (w 9), .ref (w 10), .ref (w 11), .ref (w 12), .ref (w 13), .int v.nu, .int v.th, .int v.it, .int (nI v.fi), .int (nI v.me), .int v.mp])), ((w 0), .inr (2, [.ref (w 1), .int (nI v.n)])), ((w 1), aB g 600 v.b), ((w 2), .inr (1, [.ref (w 3), .ref (w 4), .ref (w 5), .ref (w 6), .int (nI v.lo)])), ((w 3), aJ g 4800 v.rw), ((w 4), aB g 600 v.bg), ((w 5), aB g 600 v.wt), ((w 6), aB g 600 v.dp), ((w 7), aI g 200 v.tg), ((w 8), aI g 200 v.ca), ((w 9), aI g 200 v.fs), ((w 10), aI g 200 v.sc), ((w 11), aI g 75 v.fa), ((w 12), aI g 75 v.ma), ((w 13), aI g 75 v.co), (fn, .inr (0, [.int 20, .int r2]))] := hD
                  obtain rfl : r20 = 0 := hr20
                  have hP : va_P g.1 classes [(ve, .inr (8, [.ref mh, .ref c0, .ref n0, .ref h0, .ref (w 0), .ref (w 2), .ref fn, .int fr, .int en])), (fn, .inr (0, [.int 20, .int r2])), (h0, .inr (3, [.ref (w 0), .ref (w 2), .ref (w 7), .ref (w 8), .ref (w 9), .ref (w 10), .ref (w 11), .ref (w 12), .ref (w 13), .int v.nu, .int v.th, .int v.it, .int (nI v.fi), .int (nI v.me), .int v.mp])), ((w 0), .inr (2, [.ref (w 1), .int (nI v.n)])), ((w 1), aB g 600 v.b), ((w 2), .inr (1, [.ref (w 3), .ref (w 4), .ref (w 5), .ref (w 6), .int (nI v.lo)])), ((w 3), aJ g 4800 v.rw), ((w 4), aB g 600 v.bg), ((w 5), aB g 600 v.wt), ((w 6), aB g 600 v.dp), ((w 7), aI g 200 v.tg), ((w 8), aI g 200 v.ca), ((w 9), aI g 200 v.fs), ((w 10), aI g 200 v.sc), ((w 11), aI g 75 v.fa), ((w 12), aI g 75 v.ma), ((w 13), aI g 75 v.co)] H := hP.sub [0, 16, 1, 2, 3, 4, 5, 6, 7, 8, 9, 10, 11, 12, 13, 14, 15] rfl
                  have hD : va_D A [(ve, .inr (8, [.ref mh, .ref c0, .ref n0, .ref h0, .ref (w 0), .ref (w 2), .ref fn, .int fr, .int en])), (fn, .inr (0, [.int 20, .int r2])), (h0, .inr (3, [.ref (w 0), .ref (w 2), .ref (w 7), .ref (w 8), .ref (w 9), .ref (w 10), .ref (w 11), .ref (w 12), .ref (w 13), .int v.nu, .int v.th, .int v.it, .int (nI v.fi), .int (nI v.me), .int v.mp])), ((w 0), .inr (2, [.ref (w 1), .int (nI v.n)])), ((w 1), aB g 600 v.b), ((w 2), .inr (1, [.ref (w 3), .ref (w 4), .ref (w 5), .ref (w 6), .int (nI v.lo)])), ((w 3), aJ g 4800 v.rw), ((w 4), aB g 600 v.bg), ((w 5), aB g 600 v.wt), ((w 6), aB g 600 v.dp), ((w 7), aI g 200 v.tg), ((w 8), aI g 200 v.ca), ((w 9), aI g 200 v.fs), ((w 10), aI g 200 v.sc), ((w 11), aI g 75 v.fa), ((w 12), aI g 75 v.ma), ((w 13), aI g 75 v.co)] := hD.sub [0, 16, 1, 2, 3, 4, 5, 6, 7, 8, 9, 10, 11, 12, 13, 14, 15] (by decide) rfl
                  exact tw_zret E hS (20, r2) (by decide) (by decide) hP hD d_Verifier_areHandlersRight_142
              · refine lv_aload_n hx hb d_Verifier_areHandlersRight_88 rfl (lv_at hl 6 rfl) ?_
                refine lv_aload_n hx hb d_Verifier_areHandlersRight_89 rfl (lv_at hl 6 rfl) ?_
                refine lv_iload_n hx hb d_Verifier_areHandlersRight_90 rfl (lv_at hl 3 rfl) ?_
                refine lv_iconst (v := 2) hx hb d_Verifier_areHandlersRight_91 (by decide) ?_
                refine tw_si (tw_runV (ws := [(ve, .inr (8, [.ref mh, .ref c0, .ref n0, .ref h0, .ref (w 0), .ref (w 2), .ref fn, .int fr, .int en])), (fn, .inr (0, [.int fa9, .int fp9])), (h0, .inr (3, [.ref (w 0), .ref (w 2), .ref (w 7), .ref (w 8), .ref (w 9), .ref (w 10), .ref (w 11), .ref (w 12), .ref (w 13), .int v.nu, .int v.th, .int v.it, .int (nI v.fi), .int (nI v.me), .int v.mp])), ((w 0), .inr (2, [.ref (w 1), .int (nI v.n)])), ((w 1), aB g 600 v.b), ((w 2), .inr (1, [.ref (w 3), .ref (w 4), .ref (w 5), .ref (w 6), .int (nI v.lo)])), ((w 3), aJ g 4800 v.rw), ((w 4), aB g 600 v.bg), ((w 5), aB g 600 v.wt), ((w 6), aB g 600 v.dp), ((w 7), aI g 200 v.tg), ((w 8), aI g 200 v.ca), ((w 9), aI g 200 v.fs), ((w 10), aI g 200 v.sc), ((w 11), aI g 75 v.fa), ((w 12), aI g 75 v.ma), ((w 13), aI g 75 v.co)]) (wc := [(ve, .inr (8, [.ref mh, .ref c0, .ref n0, .ref h0, .ref (w 0), .ref (w 2), .ref fn, .int fr, .int en])), (h0, .inr (3, [.ref (w 0), .ref (w 2), .ref (w 7), .ref (w 8), .ref (w 9), .ref (w 10), .ref (w 11), .ref (w 12), .ref (w 13), .int v.nu, .int v.th, .int v.it, .int (nI v.fi), .int (nI v.me), .int v.mp])), ((w 0), .inr (2, [.ref (w 1), .int (nI v.n)])), ((w 1), aB g 600 v.b), ((w 2), .inr (1, [.ref (w 3), .ref (w 4), .ref (w 5), .ref (w 6), .int (nI v.lo)])), ((w 3), aJ g 4800 v.rw), ((w 4), aB g 600 v.bg), ((w 5), aB g 600 v.wt), ((w 6), aB g 600 v.dp), ((w 7), aI g 200 v.tg), ((w 8), aI g 200 v.ca), ((w 9), aI g 200 v.fs), ((w 10), aI g 200 v.sc), ((w 11), aI g 75 v.fa), ((w 12), aI g 75 v.ma), ((w 13), aI g 75 v.co)]) (As := [.int r2, .int 2]) (rest := [.ref ve]) E hB hK hZ (s_Verifier_toldBy l g H.size ve mh c0 n0 fn h0 w v fr en r2 2 hI) mc_Verifier_toldBy mi_Verifier_toldBy me_Verifier_toldBy wd_745 hP hD hS hA [0, 2, 3, 4, 5, 6, 7, 8, 9, 10, 11, 12, 13, 14, 15, 16] rfl (by decide) 0 rfl rfl rfl rfl rfl (by decide) rfl hl.1 rfl (Nat.le_of_ble_eq_true rfl) (by decide) d_Verifier_areHandlersRight_92) (fun r22 hr22 => ?_)
                refine tw_si (tw_runV (ws := [(ve, .inr (8, [.ref mh, .ref c0, .ref n0, .ref h0, .ref (w 0), .ref (w 2), .ref fn, .int fr, .int en])), (fn, .inr (0, [.int fa9, .int fp9])), (h0, .inr (3, [.ref (w 0), .ref (w 2), .ref (w 7), .ref (w 8), .ref (w 9), .ref (w 10), .ref (w 11), .ref (w 12), .ref (w 13), .int v.nu, .int v.th, .int v.it, .int (nI v.fi), .int (nI v.me), .int v.mp])), ((w 0), .inr (2, [.ref (w 1), .int (nI v.n)])), ((w 1), aB g 600 v.b), ((w 2), .inr (1, [.ref (w 3), .ref (w 4), .ref (w 5), .ref (w 6), .int (nI v.lo)])), ((w 3), aJ g 4800 v.rw), ((w 4), aB g 600 v.bg), ((w 5), aB g 600 v.wt), ((w 6), aB g 600 v.dp), ((w 7), aI g 200 v.tg), ((w 8), aI g 200 v.ca), ((w 9), aI g 200 v.fs), ((w 10), aI g 200 v.sc), ((w 11), aI g 75 v.fa), ((w 12), aI g 75 v.ma), ((w 13), aI g 75 v.co)]) (wc := [(ve, .inr (8, [.ref mh, .ref c0, .ref n0, .ref h0, .ref (w 0), .ref (w 2), .ref fn, .int fr, .int en])), (h0, .inr (3, [.ref (w 0), .ref (w 2), .ref (w 7), .ref (w 8), .ref (w 9), .ref (w 10), .ref (w 11), .ref (w 12), .ref (w 13), .int v.nu, .int v.th, .int v.it, .int (nI v.fi), .int (nI v.me), .int v.mp])), ((w 0), .inr (2, [.ref (w 1), .int (nI v.n)])), ((w 1), aB g 600 v.b), ((w 2), .inr (1, [.ref (w 3), .ref (w 4), .ref (w 5), .ref (w 6), .int (nI v.lo)])), ((w 3), aJ g 4800 v.rw), ((w 4), aB g 600 v.bg), ((w 5), aB g 600 v.wt), ((w 6), aB g 600 v.dp), ((w 7), aI g 200 v.tg), ((w 8), aI g 200 v.ca), ((w 9), aI g 200 v.fs), ((w 10), aI g 200 v.sc), ((w 11), aI g 75 v.fa), ((w 12), aI g 75 v.ma), ((w 13), aI g 75 v.co)]) (As := [.int r22]) (rest := []) E hB hK hZ (s_Verifier_isInstruction l g H.size ve mh c0 n0 fn h0 w v fr en r22 hI) mc_Verifier_isInstruction mi_Verifier_isInstruction me_Verifier_isInstruction wd_749 hP hD hS hA [0, 2, 3, 4, 5, 6, 7, 8, 9, 10, 11, 12, 13, 14, 15, 16] rfl (by decide) 0 rfl rfl rfl rfl rfl (by decide) rfl hl.1 rfl (Nat.le_of_ble_eq_true rfl) (by decide) d_Verifier_areHandlersRight_95) (fun r23 hr23 => ?_)
                refine lv_if_eq (tgt := 124) hx hb d_Verifier_areHandlersRight_98 (by decide) (fun h98 => ?_) (fun h98 => ?_)
                · refine lv_iconst (v := 0) hx hb d_Verifier_areHandlersRight_124 (by decide) ?_
                  refine lv_istore hx hb d_Verifier_areHandlersRight_125 hl (by decide) rfl (fun ls hl => ?_)
                  have hl : lv_has ls 8 [(7, .int 0), (6, .int r6), (5, .int r4), (4, .int r3), (3, .int r2), (2, .int j), (1, .int r1), (0, .ref ve)] := hl
                  refine lv_iload hx hb d_Verifier_areHandlersRight_127 (lv_at hl 0 rfl) ?_
                  refine lv_if_ne (tgt := 143) hx hb d_Verifier_areHandlersRight_129 (by decide) (fun h129 => ?_) (fun h129 => ?_)
                  · first | exact absurd h129 (by decide) | exact absurd (by decide) h129
                  · refine lv_aload_n hx hb d_Verifier_areHandlersRight_132 rfl (lv_at hl 7 rfl) ?_
                    refine va_get (D := g.1) (ci := 8) (v := .ref fn) (C := R_Verifier) (T := F_Verifier) (N := 9) hx hb hts in_Verifier hown hK hP 0 rfl rfl 6 (by decide) (hts _ wd_188) (fun _ h9 => h9) rfl d_Verifier_areHandlersRight_133 ?_
                    refine lv_bipush (v := 20) hx hb d_Verifier_areHandlersRight_136 (by decide) ?_
                    refine lv_iload_n hx hb d_Verifier_areHandlersRight_138 rfl (lv_at hl 4 rfl) ?_
                    refine tw_wi (wr := [(ve, .inr (8, [.ref mh, .ref c0, .ref n0, .ref h0, .ref (w 0), .ref (w 2), .ref fn, .int fr, .int en])), (h0, .inr (3, [.ref (w 0), .ref (w 2), .ref (w 7), .ref (w 8), .ref (w 9), .ref (w 10), .ref (w 11), .ref (w 12), .ref (w 13), .int v.nu, .int v.th, .int v.it, .int (nI v.fi), .int (nI v.me), .int v.mp])), ((w 0), .inr (2, [.ref (w 1), .int (nI v.n)])), ((w 1), aB g 600 v.b), ((w 2), .inr (1, [.ref (w 3), .ref (w 4), .ref (w 5), .ref (w 6), .int (nI v.lo)])), ((w 3), aJ g 4800 v.rw), ((w 4), aB g 600 v.bg), ((w 5), aB g 600 v.wt), ((w 6), aB g 600 v.dp), ((w 7), aI g 200 v.tg), ((w 8), aI g 200 v.ca), ((w 9), aI g 200 v.fs), ((w 10), aI g 200 v.sc), ((w 11), aI g 75 v.fa), ((w 12), aI g 75 v.ma), ((w 13), aI g 75 v.co)]) (tw_runV (ws := [(ve, .inr (8, [.ref mh, .ref c0, .ref n0, .ref h0, .ref (w 0), .ref (w 2), .ref fn, .int fr, .int en])), (fn, .inr (0, [.int fa9, .int fp9])), (h0, .inr (3, [.ref (w 0), .ref (w 2), .ref (w 7), .ref (w 8), .ref (w 9), .ref (w 10), .ref (w 11), .ref (w 12), .ref (w 13), .int v.nu, .int v.th, .int v.it, .int (nI v.fi), .int (nI v.me), .int v.mp])), ((w 0), .inr (2, [.ref (w 1), .int (nI v.n)])), ((w 1), aB g 600 v.b), ((w 2), .inr (1, [.ref (w 3), .ref (w 4), .ref (w 5), .ref (w 6), .int (nI v.lo)])), ((w 3), aJ g 4800 v.rw), ((w 4), aB g 600 v.bg), ((w 5), aB g 600 v.wt), ((w 6), aB g 600 v.dp), ((w 7), aI g 200 v.tg), ((w 8), aI g 200 v.ca), ((w 9), aI g 200 v.fs), ((w 10), aI g 200 v.sc), ((w 11), aI g 75 v.fa), ((w 12), aI g 75 v.ma), ((w 13), aI g 75 v.co)]) (wc := [(fn, .inr (0, [.int fa9, .int fp9]))]) (As := [.int 20, .int r2]) (rest := []) E hB hK hZ (c_Finding_tell l g H.size fn fa9 fp9 20 r2) mc_Finding_tell mi_Finding_tell me_Finding_tell wd_728 hP hD hS hA [1] rfl (by decide) 0 rfl rfl rfl rfl rfl (by decide) rfl hl.1 rfl (Nat.le_of_ble_eq_true rfl) (by decide) d_Verifier_areHandlersRight_139) hP hD hS hA [1] [0, 2, 3, 4, 5, 6, 7, 8, 9, 10, 11, 12, 13, 14, 15, 16] rfl rfl (by decide) (by decide) (fun r24 u25 H locs hr24 hP hD hS => ?_)
                    try dsimp only at hr24
                    have hP : va_P g.1 classes [(ve, .inr (8, [.ref mh, .ref c0, .ref n0, .ref h0, .ref (w 0), .ref (w 2), .ref fn, .int fr, .int en])), (h0, .inr (3, [.ref (w 0), .ref (w 2), .ref (w 7), .ref (w 8), .ref (w 9), .ref (w 10), .ref (w 11), .ref (w 12), .ref (w 13), .int v.nu, .int v.th, .int v.it, .int (nI v.fi), .int (nI v.me), .int v.mp])), ((w 0), .inr (2, [.ref (w 1), .int (nI v.n)])), ((w 1), aB g 600 v.b), ((w 2), .inr (1, [.ref (w 3), .ref (w 4), .ref (w 5), .ref (w 6), .int (nI v.lo)])), ((w 3), aJ g 4800 v.rw), ((w 4), aB g 600 v.bg), ((w 5), aB g 600 v.wt), ((w 6), aB g 600 v.dp), ((w 7), aI g 200 v.tg), ((w 8), aI g 200 v.ca), ((w 9), aI g 200 v.fs), ((w 10), aI g 200 v.sc), ((w 11), aI g 75 v.fa), ((w 12), aI g 75 v.ma), ((w 13), aI g 75 v.co), (fn, .inr (0, [.int 20, .int r2]))] H := hP
                    have hD : va_D A [(ve, .inr (8, [.ref mh, .ref c0, .ref n0, .ref h0, .ref (w 0), .ref (w 2), .ref fn, .int fr, .int en])), (h0, .inr (3, [.ref (w 0), .ref (w 2), .ref (w 7), .ref (w 8), .ref (w 9), .ref (w 10), .ref (w 11), .ref (w 12), .ref (w 13), .int v.nu, .int v.th, .int v.it, .int (nI v.fi), .int (nI v.me), .int v.mp])), ((w 0), .inr (2, [.ref (w 1), .int (nI v.n)])), ((w 1), aB g 600 v.b), ((w 2), .inr (1, [.ref (w 3), .ref (w 4), .ref (w 5), .ref (w 6), .int (nI v.lo)])), ((w 3), aJ g 4800 v.rw), ((w 4), aB g 600 v.bg), ((w 5), aB g 600 v.wt), ((w 6), aB g 600 v.dp), ((w 7), aI g 200 v.tg), ((w 8), aI g 200 v.ca), ((w 9), aI g 200 v.fs), ((w 10), aI g 200 v.sc), ((w 11), aI g 75 v.fa), ((w 12), aI g 75 v.ma), ((w 13), aI g 75 v.co), (fn, .inr (0, [.int 20, .int r2]))] := hD
                    obtain rfl : r24 = 0 := hr24
                    have hP : va_P g.1 classes [(ve, .inr (8, [.ref mh, .ref c0, .ref n0, .ref h0, .ref (w 0), .ref (w 2), .ref fn, .int fr, .int en])), (fn, .inr (0, [.int 20, .int r2])), (h0, .inr (3, [.ref (w 0), .ref (w 2), .ref (w 7), .ref (w 8), .ref (w 9), .ref (w 10), .ref (w 11), .ref (w 12), .ref (w 13), .int v.nu, .int v.th, .int v.it, .int (nI v.fi), .int (nI v.me), .int v.mp])), ((w 0), .inr (2, [.ref (w 1), .int (nI v.n)])), ((w 1), aB g 600 v.b), ((w 2), .inr (1, [.ref (w 3), .ref (w 4), .ref (w 5), .ref (w 6), .int (nI v.lo)])), ((w 3), aJ g 4800 v.rw), ((w 4), aB g 600 v.bg), ((w 5), aB g 600 v.wt), ((w 6), aB g 600 v.dp), ((w 7), aI g 200 v.tg), ((w 8), aI g 200 v.ca), ((w 9), aI g 200 v.fs), ((w 10), aI g 200 v.sc), ((w 11), aI g 75 v.fa), ((w 12), aI g 75 v.ma), ((w 13), aI g 75 v.co)] H := hP.sub [0, 16, 1, 2, 3, 4, 5, 6, 7, 8, 9, 10, 11, 12, 13, 14, 15] rfl
                    have hD : va_D A [(ve, .inr (8, [.ref mh, .ref c0, .ref n0, .ref h0, .ref (w 0), .ref (w 2), .ref fn, .int fr, .int en])), (fn, .inr (0, [.int 20, .int r2])), (h0, .inr (3, [.ref (w 0), .ref (w 2), .ref (w 7), .ref (w 8), .ref (w 9), .ref (w 10), .ref (w 11), .ref (w 12), .ref (w 13), .int v.nu, .int v.th, .int v.it, .int (nI v.fi), .int (nI v.me), .int v.mp])), ((w 0), .inr (2, [.ref (w 1), .int (nI v.n)])), ((w 1), aB g 600 v.b), ((w 2), .inr (1, [.ref (w 3), .ref (w 4), .ref (w 5), .ref (w 6), .int (nI v.lo)])), ((w 3), aJ g 4800 v.rw), ((w 4), aB g 600 v.bg), ((w 5), aB g 600 v.wt), ((w 6), aB g 600 v.dp), ((w 7), aI g 200 v.tg), ((w 8), aI g 200 v.ca), ((w 9), aI g 200 v.fs), ((w 10), aI g 200 v.sc), ((w 11), aI g 75 v.fa), ((w 12), aI g 75 v.ma), ((w 13), aI g 75 v.co)] := hD.sub [0, 16, 1, 2, 3, 4, 5, 6, 7, 8, 9, 10, 11, 12, 13, 14, 15] (by decide) rfl
                    exact tw_zret E hS (20, r2) (by decide) (by decide) hP hD d_Verifier_areHandlersRight_142
                · refine lv_iload hx hb d_Verifier_areHandlersRight_101 (lv_at hl 0 rfl) ?_
                  refine lv_if_eq (tgt := 120) hx hb d_Verifier_areHandlersRight_103 (by decide) (fun h103 => ?_) (fun h103 => ?_)
                  · refine lv_iconst (v := 1) hx hb d_Verifier_areHandlersRight_120 (by decide) ?_
                    refine lv_goto (tgt := 125) hx hb d_Verifier_areHandlersRight_121 (by decide) ?_
                    refine lv_istore hx hb d_Verifier_areHandlersRight_125 hl (by decide) rfl (fun ls hl => ?_)
                    have hl : lv_has ls 8 [(7, .int 1), (6, .int r6), (5, .int r4), (4, .int r3), (3, .int r2), (2, .int j), (1, .int r1), (0, .ref ve)] := hl
                    refine lv_iload hx hb d_Verifier_areHandlersRight_127 (lv_at hl 0 rfl) ?_
                    refine lv_if_ne (tgt := 143) hx hb d_Verifier_areHandlersRight_129 (by decide) (fun h129 => ?_) (fun h129 => ?_)
                    · refine lv_iinc (k := 5) (v := j + 1) hx hb d_Verifier_areHandlersRight_143 hl rfl rfl (by decide) rfl (fun ls hl => ?_)
                      have hl : lv_has ls 8 [(2, .int (j + 1)), (7, .int 1), (6, .int r6), (5, .int r4), (4, .int r3), (3, .int r2), (1, .int r1), (0, .ref ve)] := hl
                      refine lv_goto (tgt := 14) hx hb d_Verifier_areHandlersRight_146 (by decide) ?_
                      have hP : va_P g.1 classes [(ve, .inr (8, [.ref mh, .ref c0, .ref n0, .ref h0, .ref (w 0), .ref (w 2), .ref fn, .int fr, .int en])), (fn, .inr (0, [.int fa9, .int fp9])), (h0, .inr (3, [.ref (w 0), .ref (w 2), .ref (w 7), .ref (w 8), .ref (w 9), .ref (w 10), .ref (w 11), .ref (w 12), .ref (w 13), .int v.nu, .int v.th, .int v.it, .int (nI v.fi), .int (nI v.me), .int v.mp])), ((w 0), .inr (2, [.ref (w 1), .int (nI v.n)])), ((w 1), aB g 600 v.b), ((w 2), .inr (1, [.ref (w 3), .ref (w 4), .ref (w 5), .ref (w 6), .int (nI v.lo)])), ((w 3), aJ g 4800 v.rw), ((w 4), aB g 600 v.bg), ((w 5), aB g 600 v.wt), ((w 6), aB g 600 v.dp), ((w 7), aI g 200 v.tg), ((w 8), aI g 200 v.ca), ((w 9), aI g 200 v.fs), ((w 10), aI g 200 v.sc), ((w 11), aI g 75 v.fa), ((w 12), aI g 75 v.ma), ((w 13), aI g 75 v.co)] H := hP.sub [0, 1, 2, 3, 4, 5, 6, 7, 8, 9, 10, 11, 12, 13, 14, 15, 16] rfl
                      have hD : va_D A [(ve, .inr (8, [.ref mh, .ref c0, .ref n0, .ref h0, .ref (w 0), .ref (w 2), .ref fn, .int fr, .int en])), (fn, .inr (0, [.int fa9, .int fp9])), (h0, .inr (3, [.ref (w 0), .ref (w 2), .ref (w 7), .ref (w 8), .ref (w 9), .ref (w 10), .ref (w 11), .ref (w 12), .ref (w 13), .int v.nu, .int v.th, .int v.it, .int (nI v.fi), .int (nI v.me), .int v.mp])), ((w 0), .inr (2, [.ref (w 1), .int (nI v.n)])), ((w 1), aB g 600 v.b), ((w 2), .inr (1, [.ref (w 3), .ref (w 4), .ref (w 5), .ref (w 6), .int (nI v.lo)])), ((w 3), aJ g 4800 v.rw), ((w 4), aB g 600 v.bg), ((w 5), aB g 600 v.wt), ((w 6), aB g 600 v.dp), ((w 7), aI g 200 v.tg), ((w 8), aI g 200 v.ca), ((w 9), aI g 200 v.fs), ((w 10), aI g 200 v.sc), ((w 11), aI g 75 v.fa), ((w 12), aI g 75 v.ma), ((w 13), aI g 75 v.co)] := hD.sub [0, 1, 2, 3, 4, 5, 6, 7, 8, 9, 10, 11, 12, 13, 14, 15, 16] (by decide) rfl
                      exact ih _ (hk ▸ ims_dec h16) (j + 1) fa9 fp9 ls _ _ rfl  (lv_sub hl [0, 6, 7] rfl) hP hD hS
                    · first | exact absurd h129 (by decide) | exact absurd (by decide) h129
                  · refine lv_aload_n hx hb d_Verifier_areHandlersRight_106 rfl (lv_at hl 6 rfl) ?_
                    refine va_get (D := g.1) (ci := 8) (v := .ref h0) (C := R_Verifier) (T := F_Verifier) (N := 9) hx hb hts in_Verifier hown hK hP 0 rfl rfl 3 (by decide) (hts _ wd_185) (fun _ h9 => h9) rfl d_Verifier_areHandlersRight_107 ?_
                    refine lv_iload hx hb d_Verifier_areHandlersRight_110 (lv_at hl 0 rfl) ?_
                    refine tw_si (tw_runV (ws := [(ve, .inr (8, [.ref mh, .ref c0, .ref n0, .ref h0, .ref (w 0), .ref (w 2), .ref fn, .int fr, .int en])), (fn, .inr (0, [.int fa9, .int fp9])), (h0, .inr (3, [.ref (w 0), .ref (w 2), .ref (w 7), .ref (w 8), .ref (w 9), .ref (w 10), .ref (w 11), .ref (w 12), .ref (w 13), .int v.nu, .int v.th, .int v.it, .int (nI v.fi), .int (nI v.me), .int v.mp])), ((w 0), .inr (2, [.ref (w 1), .int (nI v.n)])), ((w 1), aB g 600 v.b), ((w 2), .inr (1, [.ref (w 3), .ref (w 4), .ref (w 5), .ref (w 6), .int (nI v.lo)])), ((w 3), aJ g 4800 v.rw), ((w 4), aB g 600 v.bg), ((w 5), aB g 600 v.wt), ((w 6), aB g 600 v.dp), ((w 7), aI g 200 v.tg), ((w 8), aI g 200 v.ca), ((w 9), aI g 200 v.fs), ((w 10), aI g 200 v.sc), ((w 11), aI g 75 v.fa), ((w 12), aI g 75 v.ma), ((w 13), aI g 75 v.co)]) (wc := [(h0, .inr (3, [.ref (w 0), .ref (w 2), .ref (w 7), .ref (w 8), .ref (w 9), .ref (w 10), .ref (w 11), .ref (w 12), .ref (w 13), .int v.nu, .int v.th, .int v.it, .int (nI v.fi), .int (nI v.me), .int v.mp])), ((w 0), .inr (2, [.ref (w 1), .int (nI v.n)])), ((w 1), aB g 600 v.b), ((w 2), .inr (1, [.ref (w 3), .ref (w 4), .ref (w 5), .ref (w 6), .int (nI v.lo)])), ((w 3), aJ g 4800 v.rw), ((w 4), aB g 600 v.bg), ((w 5), aB g 600 v.wt), ((w 6), aB g 600 v.dp), ((w 7), aI g 200 v.tg), ((w 8), aI g 200 v.ca), ((w 9), aI g 200 v.fs), ((w 10), aI g 200 v.sc), ((w 11), aI g 75 v.fa), ((w 12), aI g 75 v.ma), ((w 13), aI g 75 v.co)]) (As := [.int r6]) (rest := []) E hB hK hZ (s_Layout_tagOf l g H.size h0 w v r6 hI) mc_Layout_tagOf mi_Layout_tagOf me_Layout_tagOf wd_757 hP hD hS hA [2, 3, 4, 5, 6, 7, 8, 9, 10, 11, 12, 13, 14, 15, 16] rfl (by decide) 0 rfl rfl rfl rfl rfl (by decide) rfl hl.1 rfl (Nat.le_of_ble_eq_true rfl) (by decide) d_Verifier_areHandlersRight_112) (fun r26 hr26 => ?_)
                    refine lv_bipush (v := 7) hx hb d_Verifier_areHandlersRight_115 (by decide) ?_
                    refine lv_icmp_ne (tgt := 124) hx hb d_Verifier_areHandlersRight_117 (by decide) (fun h117 => ?_) (fun h117 => ?_)
                    · refine lv_iconst (v := 0) hx hb d_Verifier_areHandlersRight_124 (by decide) ?_
                      refine lv_istore hx hb d_Verifier_areHandlersRight_125 hl (by decide) rfl (fun ls hl => ?_)
                      have hl : lv_has ls 8 [(7, .int 0), (6, .int r6), (5, .int r4), (4, .int r3), (3, .int r2), (2, .int j), (1, .int r1), (0, .ref ve)] := hl
                      refine lv_iload hx hb d_Verifier_areHandlersRight_127 (lv_at hl 0 rfl) ?_
                      refine lv_if_ne (tgt := 143) hx hb d_Verifier_areHandlersRight_129 (by decide) (fun h129 => ?_) (fun h129 => ?_)
                      · first | exact absurd h129 (by decide) | exact absurd (by decide) h129
                      · refine lv_aload_n hx hb d_Verifier_areHandlersRight_132 rfl (lv_at hl 7 rfl) ?_
                        refine va_get (D := g.1) (ci := 8) (v := .ref fn) (C := R_Verifier) (T := F_Verifier) (N := 9) hx hb hts in_Verifier hown hK hP 0 rfl rfl 6 (by decide) (hts _ wd_188) (fun _ h9 => h9) rfl d_Verifier_areHandlersRight_133 ?_
                        refine lv_bipush (v := 20) hx hb d_Verifier_areHandlersRight_136 (by decide) ?_
                        refine lv_iload_n hx hb d_Verifier_areHandlersRight_138 rfl (lv_at hl 4 rfl) ?_
                        refine tw_wi (wr := [(ve, .inr (8, [.ref mh, .ref c0, .ref n0, .ref h0, .ref (w 0), .ref (w 2), .ref fn, .int fr, .int en])), (h0, .inr (3, [.ref (w 0), .ref (w 2), .ref (w 7), .ref (w 8), .ref (w 9), .ref (w 10), .ref (w 11), .ref (w 12), .ref (w 13), .int v.nu, .int v.th, .int v.it, .int (nI v.fi), .int (nI v.me), .int v.mp])), ((w 0), .inr (2, [.ref (w 1), .int (nI v.n)])), ((w 1), aB g 600 v.b), ((w 2), .inr (1, [.ref (w 3), .ref (w 4), .ref (w 5), .ref (w 6), .int (nI v.lo)])), ((w 3), aJ g 4800 v.rw), ((w 4), aB g 600 v.bg), ((w 5), aB g 600 v.wt), ((w 6), aB g 600 v.dp), ((w 7), aI g 200 v.tg), ((w 8), aI g 200 v.ca), ((w 9), aI g 200 v.fs), ((w 10), aI g 200 v.sc), ((w 11), aI g 75 v.fa), ((w 12), aI g 75 v.ma), ((w 13), aI g 75 v.co)]) (tw_runV (ws := [(ve, .inr (8, [.ref mh, .ref c0, .ref n0, .ref h0, .ref (w 0), .ref (w 2), .ref fn, .int fr, .int en])), (fn, .inr (0, [.int fa9, .int fp9])), (h0, .inr (3, [.ref (w 0), .ref (w 2), .ref (w 7), .ref (w 8), .ref (w 9), .ref (w 10), .ref (w 11), .ref (w 12), .ref (w 13), .int v.nu, .int v.th, .int v.it, .int (nI v.fi), .int (nI v.me), .int v.mp])), ((w 0), .inr (2, [.ref (w 1), .int (nI v.n)])), ((w 1), aB g 600 v.b), ((w 2), .inr (1, [.ref (w 3), .ref (w 4), .ref (w 5), .ref (w 6), .int (nI v.lo)])), ((w 3), aJ g 4800 v.rw), ((w 4), aB g 600 v.bg), ((w 5), aB g 600 v.wt), ((w 6), aB g 600 v.dp), ((w 7), aI g 200 v.tg), ((w 8), aI g 200 v.ca), ((w 9), aI g 200 v.fs), ((w 10), aI g 200 v.sc), ((w 11), aI g 75 v.fa), ((w 12), aI g 75 v.ma), ((w 13), aI g 75 v.co)]) (wc := [(fn, .inr (0, [.int fa9, .int fp9]))]) (As := [.int 20, .int r2]) (rest := []) E hB hK hZ (c_Finding_tell l g H.size fn fa9 fp9 20 r2) mc_Finding_tell mi_Finding_tell me_Finding_tell wd_728 hP hD hS hA [1] rfl (by decide) 0 rfl rfl rfl rfl rfl (by decide) rfl hl.1 rfl (Nat.le_of_ble_eq_true rfl) (by decide) d_Verifier_areHandlersRight_139) hP hD hS hA [1] [0, 2, 3, 4, 5, 6, 7, 8, 9, 10, 11, 12, 13, 14, 15, 16] rfl rfl (by decide) (by decide) (fun r27 u28 H locs hr27 hP hD hS => ?_)
                        try dsimp only at hr27
                        have hP : va_P g.1 classes [(ve, .inr (8, [.ref mh, .ref c0, .ref n0, .ref h0, .ref (w 0), .ref (w 2), .ref fn, .int fr, .int en])), (h0, .inr (3, [.ref (w 0), .ref (w 2), .ref (w 7), .ref (w 8), .ref (w 9), .ref (w 10), .ref (w 11), .ref (w 12), .ref (w 13), .int v.nu, .int v.th, .int v.it, .int (nI v.fi), .int (nI v.me), .int v.mp])), ((w 0), .inr (2, [.ref (w 1), .int (nI v.n)])), ((w 1), aB g 600 v.b), ((w 2), .inr (1, [.ref (w 3), .ref (w 4), .ref (w 5), .ref (w 6), .int (nI v.lo)])), ((w 3), aJ g 4800 v.rw), ((w 4), aB g 600 v.bg), ((w 5), aB g 600 v.wt), ((w 6), aB g 600 v.dp), ((w 7), aI g 200 v.tg), ((w 8), aI g 200 v.ca), ((w 9), aI g 200 v.fs), ((w 10), aI g 200 v.sc), ((w 11), aI g 75 v.fa), ((w 12), aI g 75 v.ma), ((w 13), aI g 75 v.co), (fn, .inr (0, [.int 20, .int r2]))] H := hP
                        have hD : va_D A [(ve, .inr (8, [.ref mh, .ref c0, .ref n0, .ref h0, .ref (w 0), .ref (w 2), .ref fn, .int fr, .int en])), (h0, .inr (3, [.ref (w 0), .ref (w 2), .ref (w 7), .ref (w 8), .ref (w 9), .ref (w 10), .ref (w 11), .ref (w 12), .ref (w 13), .int v.nu, .int v.th, .int v.it, .int (nI v.fi), .int (nI v.me), .int v.mp])), ((w 0), .inr (2, [.ref (w 1), .int (nI v.n)])), ((w 1), aB g 600 v.b), ((w 2), .inr (1, [.ref (w 3), .ref (w 4), .ref (w 5), .ref (w 6), .int (nI v.lo)])), ((w 3), aJ g 4800 v.rw), ((w 4), aB g 600 v.bg), ((w 5), aB g 600 v.wt), ((w 6), aB g 600 v.dp), ((w 7), aI g 200 v.tg), ((w 8), aI g 200 v.ca), ((w 9), aI g 200 v.fs), ((w 10), aI g 200 v.sc), ((w 11), aI g 75 v.fa), ((w 12), aI g 75 v.ma), ((w 13), aI g 75 v.co), (fn, .inr (0, [.int 20, .int r2]))] := hD
                        obtain rfl : r27 = 0 := hr27
                        have hP : va_P g.1 classes [(ve, .inr (8, [.ref mh, .ref c0, .ref n0, .ref h0, .ref (w 0), .ref (w 2), .ref fn, .int fr, .int en])), (fn, .inr (0, [.int 20, .int r2])), (h0, .inr (3, [.ref (w 0), .ref (w 2), .ref (w 7), .ref (w 8), .ref (w 9), .ref (w 10), .ref (w 11), .ref (w 12), .ref (w 13), .int v.nu, .int v.th, .int v.it, .int (nI v.fi), .int (nI v.me), .int v.mp])), ((w 0), .inr (2, [.ref (w 1), .int (nI v.n)])), ((w 1), aB g 600 v.b), ((w 2), .inr (1, [.ref (w 3), .ref (w 4), .ref (w 5), .ref (w 6), .int (nI v.lo)])), ((w 3), aJ g 4800 v.rw), ((w 4), aB g 600 v.bg), ((w 5), aB g 600 v.wt), ((w 6), aB g 600 v.dp), ((w 7), aI g 200 v.tg), ((w 8), aI g 200 v.ca), ((w 9), aI g 200 v.fs), ((w 10), aI g 200 v.sc), ((w 11), aI g 75 v.fa), ((w 12), aI g 75 v.ma), ((w 13), aI g 75 v.co)] H := hP.sub [0, 16, 1, 2, 3, 4, 5, 6, 7, 8, 9, 10, 11, 12, 13, 14, 15] rfl
                        have hD : va_D A [(ve, .inr (8, [.ref mh, .ref c0, .ref n0, .ref h0, .ref (w 0), .ref (w 2), .ref fn, .int fr, .int en])), (fn, .inr (0, [.int 20, .int r2])), (h0, .inr (3, [.ref (w 0), .ref (w 2), .ref (w 7), .ref (w 8), .ref (w 9), .ref (w 10), .ref (w 11), .ref (w 12), .ref (w 13), .int v.nu, .int v.th, .int v.it, .int (nI v.fi), .int (nI v.me), .int v.mp])), ((w 0), .inr (2, [.ref (w 1), .int (nI v.n)])), ((w 1), aB g 600 v.b), ((w 2), .inr (1, [.ref (w 3), .ref (w 4), .ref (w 5), .ref (w 6), .int (nI v.lo)])), ((w 3), aJ g 4800 v.rw), ((w 4), aB g 600 v.bg), ((w 5), aB g 600 v.wt), ((w 6), aB g 600 v.dp), ((w 7), aI g 200 v.tg), ((w 8), aI g 200 v.ca), ((w 9), aI g 200 v.fs), ((w 10), aI g 200 v.sc), ((w 11), aI g 75 v.fa), ((w 12), aI g 75 v.ma), ((w 13), aI g 75 v.co)] := hD.sub [0, 16, 1, 2, 3, 4, 5, 6, 7, 8, 9, 10, 11, 12, 13, 14, 15] (by decide) rfl
                        exact tw_zret E hS (20, r2) (by decide) (by decide) hP hD d_Verifier_areHandlersRight_142
                    · refine lv_iconst (v := 1) hx hb d_Verifier_areHandlersRight_120 (by decide) ?_
                      refine lv_goto (tgt := 125) hx hb d_Verifier_areHandlersRight_121 (by decide) ?_
                      refine lv_istore hx hb d_Verifier_areHandlersRight_125 hl (by decide) rfl (fun ls hl => ?_)
                      have hl : lv_has ls 8 [(7, .int 1), (6, .int r6), (5, .int r4), (4, .int r3), (3, .int r2), (2, .int j), (1, .int r1), (0, .ref ve)] := hl
                      refine lv_iload hx hb d_Verifier_areHandlersRight_127 (lv_at hl 0 rfl) ?_
                      refine lv_if_ne (tgt := 143) hx hb d_Verifier_areHandlersRight_129 (by decide) (fun h129 => ?_) (fun h129 => ?_)
                      · refine lv_iinc (k := 5) (v := j + 1) hx hb d_Verifier_areHandlersRight_143 hl rfl rfl (by decide) rfl (fun ls hl => ?_)
                        have hl : lv_has ls 8 [(2, .int (j + 1)), (7, .int 1), (6, .int r6), (5, .int r4), (4, .int r3), (3, .int r2), (1, .int r1), (0, .ref ve)] := hl
                        refine lv_goto (tgt := 14) hx hb d_Verifier_areHandlersRight_146 (by decide) ?_
                        have hP : va_P g.1 classes [(ve, .inr (8, [.ref mh, .ref c0, .ref n0, .ref h0, .ref (w 0), .ref (w 2), .ref fn, .int fr, .int en])), (fn, .inr (0, [.int fa9, .int fp9])), (h0, .inr (3, [.ref (w 0), .ref (w 2), .ref (w 7), .ref (w 8), .ref (w 9), .ref (w 10), .ref (w 11), .ref (w 12), .ref (w 13), .int v.nu, .int v.th, .int v.it, .int (nI v.fi), .int (nI v.me), .int v.mp])), ((w 0), .inr (2, [.ref (w 1), .int (nI v.n)])), ((w 1), aB g 600 v.b), ((w 2), .inr (1, [.ref (w 3), .ref (w 4), .ref (w 5), .ref (w 6), .int (nI v.lo)])), ((w 3), aJ g 4800 v.rw), ((w 4), aB g 600 v.bg), ((w 5), aB g 600 v.wt), ((w 6), aB g 600 v.dp), ((w 7), aI g 200 v.tg), ((w 8), aI g 200 v.ca), ((w 9), aI g 200 v.fs), ((w 10), aI g 200 v.sc), ((w 11), aI g 75 v.fa), ((w 12), aI g 75 v.ma), ((w 13), aI g 75 v.co)] H := hP.sub [0, 1, 2, 3, 4, 5, 6, 7, 8, 9, 10, 11, 12, 13, 14, 15, 16] rfl
                        have hD : va_D A [(ve, .inr (8, [.ref mh, .ref c0, .ref n0, .ref h0, .ref (w 0), .ref (w 2), .ref fn, .int fr, .int en])), (fn, .inr (0, [.int fa9, .int fp9])), (h0, .inr (3, [.ref (w 0), .ref (w 2), .ref (w 7), .ref (w 8), .ref (w 9), .ref (w 10), .ref (w 11), .ref (w 12), .ref (w 13), .int v.nu, .int v.th, .int v.it, .int (nI v.fi), .int (nI v.me), .int v.mp])), ((w 0), .inr (2, [.ref (w 1), .int (nI v.n)])), ((w 1), aB g 600 v.b), ((w 2), .inr (1, [.ref (w 3), .ref (w 4), .ref (w 5), .ref (w 6), .int (nI v.lo)])), ((w 3), aJ g 4800 v.rw), ((w 4), aB g 600 v.bg), ((w 5), aB g 600 v.wt), ((w 6), aB g 600 v.dp), ((w 7), aI g 200 v.tg), ((w 8), aI g 200 v.ca), ((w 9), aI g 200 v.fs), ((w 10), aI g 200 v.sc), ((w 11), aI g 75 v.fa), ((w 12), aI g 75 v.ma), ((w 13), aI g 75 v.co)] := hD.sub [0, 1, 2, 3, 4, 5, 6, 7, 8, 9, 10, 11, 12, 13, 14, 15, 16] (by decide) rfl
                        exact ih _ (hk ▸ ims_dec h16) (j + 1) fa9 fp9 ls _ _ rfl  (lv_sub hl [0, 6, 7] rfl) hP hD hS
                      · first | exact absurd h129 (by decide) | exact absurd (by decide) h129
  exact loop14 _ 0 fa fp ls _ _ rfl  (hl) hP hD hS
end
section
theorem sf_sh4 {n : Nat} (h : n < 2 ^ 31) : nI n >>> (4 &&& 31) = nI (n / 16) := pk_shrN h (4 &&& 31) 4 (by decide)
theorem sf_nib {x : Int64} (h : x.toInt32 &&& 15 = 3) : x &&& 15 = 3 := by
  have h2 := congrArg (fun z : Int32 => z.toBitVec.toNat) h
  apply Int64.toBitVec_inj.mp
  apply BitVec.eq_of_toNat_eq
  simp only [Int32.toBitVec_and, BitVec.toNat_and] at h2
  rw [Int64.toBitVec_and, BitVec.toNat_and]
  have e1 : (x.toInt32).toBitVec.toNat = x.toBitVec.toNat % 2 ^ 32 := by
    have e0 : (x.toInt32).toBitVec = x.toBitVec.signExtend 32 := rfl
    rw [e0, BitVec.signExtend_eq_setWidth_of_le _ (by decide), BitVec.toNat_setWidth]
  have e2 : ((15 : Int32).toBitVec.toNat) = 2 ^ 4 - 1 := by decide
  have e3 : ((15 : Int64).toBitVec.toNat) = 2 ^ 4 - 1 := by decide
  have e4 : ((3 : Int32).toBitVec.toNat) = 3 := by decide
  have e5 : ((3 : Int64).toBitVec.toNat) = 3 := by decide
  rw [e1, e2, e4, Nat.and_two_pow_sub_one_eq_mod] at h2
  rw [e3, e5, Nat.and_two_pow_sub_one_eq_mod]
  omega
end
section
theorem sf_us0 (x : Int64) : (x.toUInt64 >>> 0).toInt64 = x := by
  apply Int64.toBitVec_inj.mp
  apply BitVec.eq_of_toNat_eq
  simp
theorem sf_k3 {f : Nat → Int64} {bs sn : Nat} (hs : sn = 0) (h : (((f (bs + sn / 16)).toUInt64 >>> ((nI (sn % 16 * 4)).toInt64.toUInt64 &&& Int64.toUInt64 63)).toInt64).toInt32 &&& 15 = 3) : f bs &&& 15 = 3 := by
  subst hs
  have e : ((nI (0 % 16 * 4)).toInt64.toUInt64 &&& Int64.toUInt64 63) = 0 := by decide
  rw [e, sf_us0] at h
  exact sf_nib h
end
section
theorem d_Frames_kindIn_0 : decode b_Frames_kindIn 0 = .ok (.aload_n 0, 1) := by decide +kernel
theorem d_Frames_kindIn_1 : decode b_Frames_kindIn 1 = .ok (.iload_n 1, 1) := by decide +kernel
theorem d_Frames_kindIn_2 : decode b_Frames_kindIn 2 = .ok (.iload_n 2, 1) := by decide +kernel
theorem d_Frames_kindIn_3 : decode b_Frames_kindIn 3 = .ok (.iconst 4, 1) := by decide +kernel
theorem d_Frames_kindIn_4 : decode b_Frames_kindIn 4 = .ok (.ishr, 1) := by decide +kernel
theorem d_Frames_kindIn_5 : decode b_Frames_kindIn 5 = .ok (.iadd, 1) := by decide +kernel
theorem d_Frames_kindIn_6 : decode b_Frames_kindIn 6 = .ok (.laload, 1) := by decide +kernel
theorem d_Frames_kindIn_7 : decode b_Frames_kindIn 7 = .ok (.iload_n 2, 1) := by decide +kernel
theorem d_Frames_kindIn_8 : decode b_Frames_kindIn 8 = .ok (.bipush 15, 2) := by decide +kernel
theorem d_Frames_kindIn_10 : decode b_Frames_kindIn 10 = .ok (.iand, 1) := by decide +kernel
theorem d_Frames_kindIn_11 : decode b_Frames_kindIn 11 = .ok (.iconst 2, 1) := by decide +kernel
theorem d_Frames_kindIn_12 : decode b_Frames_kindIn 12 = .ok (.ishl, 1) := by decide +kernel
theorem d_Frames_kindIn_13 : decode b_Frames_kindIn 13 = .ok (.lushr, 1) := by decide +kernel
theorem d_Frames_kindIn_14 : decode b_Frames_kindIn 14 = .ok (.l2i, 1) := by decide +kernel
theorem d_Frames_kindIn_15 : decode b_Frames_kindIn 15 = .ok (.bipush 15, 2) := by decide +kernel
theorem d_Frames_kindIn_17 : decode b_Frames_kindIn 17 = .ok (.iand, 1) := by decide +kernel
theorem d_Frames_kindIn_18 : decode b_Frames_kindIn 18 = .ok (.ireturn, 1) := by decide +kernel
end
section
set_option maxHeartbeats 4000000 in
set_option maxRecDepth 100000 in
theorem s_Frames_kindIn (l : Launch) (g : tw_G) (sz : Nat) (a N : Nat) (f : Nat → Int64) (bs sn : Nat) (hsn : sn < 128) (hbs : bs + sn / 16 < N) (hN : N ≤ 4800) : Met l y_Frames_kindIn [.code y_Frames_kindIn b_Frames_kindIn 3 (some .int)] ({ frames := 0, cells := 0, slots := 0, locals := 0 }) (tw_P g [.ref a, .int (nI bs), .int (nI sn)] [(a, aJ g N f)] sz) (vp_Si (fun r => (∃ k, k < 16 ∧ r = nI k) ∧ (sn = 0 → ¬ f bs &&& 15 = 3 → ¬ r = 3))) 0 0 (fun _ => False) := by
  refine tw_met (l := l) (g := g) (y := y_Frames_kindIn) (cc := b_Frames_kindIn) (maxL := 3) (ret := (some .int)) (rm := { frames := 0, cells := 0, slots := 0, locals := 0 }) (mc := 0) (ms := 0) (av := [.ref a, .int (nI bs), .int (nI sn)]) (ws := [(a, aJ g N f)]) (sz := sz) (Qc := fun _ => (vp_Si (fun r => (∃ k, k < 16 ∧ r = nI k) ∧ (sn = 0 → ¬ f bs &&& 15 = 3 → ¬ r = 3)))) (free := fun _ _ => False) (by decide) (Nat.le_of_ble_eq_true rfl) ?_
  intro p e s m below meth c ls A E hB hK hZ hP hD hS hA hl
  obtain ⟨hx, hb, hml, hr, hown, hts, hlocks, hin⟩ := id E
  have hl : lv_has ls 3 [(0, .ref a), (1, .int (nI bs)), (2, .int (nI sn))] := hl
  refine lv_aload_n hx hb d_Frames_kindIn_0 rfl (lv_at hl 0 rfl) ?_
  refine lv_iload_n hx hb d_Frames_kindIn_1 rfl (lv_at hl 1 rfl) ?_
  refine lv_iload_n hx hb d_Frames_kindIn_2 rfl (lv_at hl 2 rfl) ?_
  refine lv_iconst (v := 4) hx hb d_Frames_kindIn_3 (by decide) ?_
  refine lv_ishr hx hb d_Frames_kindIn_4 ?_
  refine tw_ri (e2 := nI (sn / 16)) (sf_sh4 (by omega)) ?_
  refine lv_iadd hx hb d_Frames_kindIn_5 ?_
  refine tw_ri (e2 := nI (bs + sn / 16)) (nI_add _ _) ?_
  refine va_lald hx hb hK hP 0 2 rfl rfl (vp_in_nI hbs (by omega)) d_Frames_kindIn_6 ?_
  refine tw_rl (e2 := f (bs + sn / 16)) (by rw [nI_clamp (by omega)]) ?_
  refine lv_iload_n hx hb d_Frames_kindIn_7 rfl (lv_at hl 2 rfl) ?_
  refine lv_bipush (v := 15) hx hb d_Frames_kindIn_8 (by decide) ?_
  refine lv_iand hx hb d_Frames_kindIn_10 ?_
  refine tw_ri (e2 := nI (sn % 16)) (pk_andN (by omega) 4 (by decide)) ?_
  refine lv_iconst (v := 2) hx hb d_Frames_kindIn_11 (by decide) ?_
  refine lv_ishl hx hb d_Frames_kindIn_12 ?_
  refine tw_ri (e2 := nI (sn % 16 * 4)) (pk_shlN (2 &&& 31) 2 (by decide) (by omega)) ?_
  refine lv_lushr (v := ((f (bs + sn / 16)).toUInt64 >>> ((nI (sn % 16 * 4)).toInt64.toUInt64 &&& Int64.toUInt64 63)).toInt64) hx hb d_Frames_kindIn_13 rfl ?_
  refine lv_l2i (v := (((f (bs + sn / 16)).toUInt64 >>> ((nI (sn % 16 * 4)).toInt64.toUInt64 &&& Int64.toUInt64 63)).toInt64).toInt32) hx hb d_Frames_kindIn_14 rfl ?_
  refine lv_bipush (v := 15) hx hb d_Frames_kindIn_15 (by decide) ?_
  refine lv_iand hx hb d_Frames_kindIn_17 ?_
  obtain ⟨x1, ex1⟩ : ∃ z : Int32, ((((f (bs + sn / 16)).toUInt64 >>> ((nI (sn % 16 * 4)).toInt64.toUInt64 &&& Int64.toUInt64 63)).toInt64).toInt32) &&& 15 = z := ⟨_, rfl⟩
  refine tw_ri (e2 := x1) ex1 ?_
  exact tw_isret E ⟨ex1 ▸ pk_andE _ (m := 15) 4 (by decide), fun hs hf h => hf (sf_k3 hs (ex1.trans h))⟩ d_Frames_kindIn_18
end
section
theorem bv_15 (i : Nat) (h : ¬ i < 4) : (15#64).getLsbD i = false := by
  rw [BitVec.getLsbD_ofNat]
  have : Nat.testBit 15 i = false := Nat.testBit_lt_two_pow (Nat.lt_of_lt_of_le (by decide : 15 < 2 ^ 4) (Nat.pow_le_pow_right (by decide) (by omega)))
  simp [this]
theorem bv_set (F K : BitVec 64) (s : Nat) (h : 4 ≤ s) : ((F &&& ((15#64 <<< s) ^^^ BitVec.allOnes 64)) ||| (K <<< s)) &&& 15#64 = F &&& 15#64 := by
  apply BitVec.eq_of_getLsbD_eq
  intro i hi
  simp only [BitVec.getLsbD_and, BitVec.getLsbD_or, BitVec.getLsbD_xor, BitVec.getLsbD_shiftLeft, BitVec.getLsbD_allOnes]
  by_cases h4 : i < 4
  · have h5 : i < s := by omega
    simp [h5, hi]
  · simp [bv_15 i h4]
theorem bv_set0 (F K : BitVec 64) : ((F &&& ((15#64 <<< 0) ^^^ BitVec.allOnes 64)) ||| (K <<< 0)) &&& 15#64 = K &&& 15#64 := by
  apply BitVec.eq_of_getLsbD_eq
  intro i hi
  simp only [BitVec.getLsbD_and, BitVec.getLsbD_or, BitVec.getLsbD_xor, BitVec.getLsbD_shiftLeft, BitVec.getLsbD_allOnes]
  by_cases h4 : i < 4
  · have h5 : (15#64).getLsbD i = true := (by decide : ∀ i, i < 4 → (15#64).getLsbD i = true) i h4
    simp only [Nat.sub_zero, h5]
    simp [hi]
  · simp [bv_15 i h4]
theorem bv_sh : ∀ s, s < 64 → (((nI s).toInt64 &&& 63).toBitVec.smod 64).toNat = s := by decide +kernel
theorem sf_set {F xa xb xc K : Int64} {s : Nat} (hs : s < 64) (ea : (15 : Int64) <<< ((nI s).toInt64 &&& 63) ^^^ (-1) = xa) (eb : F &&& xa = xb) (ec : xb ||| K <<< ((nI s).toInt64 &&& 63) = xc) : xc.toBitVec = (F.toBitVec &&& ((15#64 <<< s) ^^^ BitVec.allOnes 64)) ||| (K.toBitVec <<< s) := by
  subst ea eb ec
  rw [Int64.toBitVec_or, Int64.toBitVec_and, Int64.toBitVec_xor, Int64.toBitVec_shiftLeft, Int64.toBitVec_shiftLeft]
  rw [BitVec.shiftLeft_eq', BitVec.shiftLeft_eq', bv_sh s hs]
  rfl
theorem sf_setA {F xa xb xc K : Int64} {s : Nat} (hs : s < 64) (h4 : 4 ≤ s) (ea : (15 : Int64) <<< ((nI s).toInt64 &&& 63) ^^^ (-1) = xa) (eb : F &&& xa = xb) (ec : xb ||| K <<< ((nI s).toInt64 &&& 63) = xc) : xc &&& 15 = F &&& 15 := by
  apply Int64.toBitVec_inj.mp
  rw [Int64.toBitVec_and, Int64.toBitVec_and, sf_set hs ea eb ec]
  exact bv_set _ _ s h4
theorem sf_setB {F xa xb xc K : Int64} (ea : (15 : Int64) <<< ((nI 0).toInt64 &&& 63) ^^^ (-1) = xa) (eb : F &&& xa = xb) (ec : xb ||| K <<< ((nI 0).toInt64 &&& 63) = xc) : xc &&& 15 = K &&& 15 := by
  apply Int64.toBitVec_inj.mp
  rw [Int64.toBitVec_and, Int64.toBitVec_and, sf_set (by decide) ea eb ec]
  exact bv_set0 _ _
theorem sf_kd3 : ∀ k, k < 16 → (nI k).toInt64 &&& 15 = 3 → k = 3 := by decide +kernel
/-- what a row keeps when one of its kinds is set -/
def KS (f u : Nat → Int64) (bs sn kd : Nat) : Prop := (∀ j, j ≠ bs + sn / 16 → u j = f j) ∧ (sn ≠ 0 → ¬ f bs &&& 15 = 3 → ¬ u bs &&& 15 = 3) ∧ (sn = 0 → kd ≠ 3 → ¬ u bs &&& 15 = 3)
theorem KS.of {f : Nat → Int64} {bs sn kd : Nat} {xa xb xc : Int64} (hsn : sn < 128) (hk : kd < 16) (ea : (15 : Int64) <<< ((nI (sn % 16 * 4)).toInt64 &&& 63) ^^^ (-1) = xa) (eb : f (bs + sn / 16) &&& xa = xb) (ec : xb ||| (nI kd).toInt64 <<< ((nI (sn % 16 * 4)).toInt64 &&& 63) = xc) : KS f (vp_updL f (bs + sn / 16) xc) bs sn kd := by
  refine ⟨fun j hj => by simp only [vp_updL, if_neg hj], ?_, ?_⟩
  · intro h0 hf
    by_cases h16 : sn < 16
    · have e1 : sn / 16 = 0 := by omega
      have e2 := sf_setA (s := sn % 16 * 4) (by omega) (by omega) ea eb ec
      rw [e1] at e2 ⊢
      simp only [vp_updL, Nat.add_zero, if_true]
      rw [e2]; exact hf
    · have e1 : bs ≠ bs + sn / 16 := by omega
      simp only [vp_updL, if_neg e1]; exact hf
  · intro h0 h3
    subst h0
    have e2 := sf_setB ea eb ec
    simp only [vp_updL, Nat.zero_div, Nat.add_zero, if_true]
    rw [e2]
    exact fun h => h3 (sf_kd3 kd hk h)
end
section
theorem d_Frames_setKindIn_0 : decode b_Frames_setKindIn 0 = .ok (.iload_n 2, 1) := by decide +kernel
theorem d_Frames_setKindIn_1 : decode b_Frames_setKindIn 1 = .ok (.bipush 15, 2) := by decide +kernel
theorem d_Frames_setKindIn_3 : decode b_Frames_setKindIn 3 = .ok (.iand, 1) := by decide +kernel
theorem d_Frames_setKindIn_4 : decode b_Frames_setKindIn 4 = .ok (.iconst 2, 1) := by decide +kernel
theorem d_Frames_setKindIn_5 : decode b_Frames_setKindIn 5 = .ok (.ishl, 1) := by decide +kernel
theorem d_Frames_setKindIn_6 : decode b_Frames_setKindIn 6 = .ok (.istore 4, 2) := by decide +kernel
theorem d_Frames_setKindIn_8 : decode b_Frames_setKindIn 8 = .ok (.iload_n 1, 1) := by decide +kernel
theorem d_Frames_setKindIn_9 : decode b_Frames_setKindIn 9 = .ok (.iload_n 2, 1) := by decide +kernel
theorem d_Frames_setKindIn_10 : decode b_Frames_setKindIn 10 = .ok (.iconst 4, 1) := by decide +kernel
theorem d_Frames_setKindIn_11 : decode b_Frames_setKindIn 11 = .ok (.ishr, 1) := by decide +kernel
theorem d_Frames_setKindIn_12 : decode b_Frames_setKindIn 12 = .ok (.iadd, 1) := by decide +kernel
theorem d_Frames_setKindIn_13 : decode b_Frames_setKindIn 13 = .ok (.istore 5, 2) := by decide +kernel
theorem d_Frames_setKindIn_15 : decode b_Frames_setKindIn 15 = .ok (.aload_n 0, 1) := by decide +kernel
theorem d_Frames_setKindIn_16 : decode b_Frames_setKindIn 16 = .ok (.iload 5, 2) := by decide +kernel
theorem d_Frames_setKindIn_18 : decode b_Frames_setKindIn 18 = .ok (.aload_n 0, 1) := by decide +kernel
theorem d_Frames_setKindIn_19 : decode b_Frames_setKindIn 19 = .ok (.iload 5, 2) := by decide +kernel
theorem d_Frames_setKindIn_21 : decode b_Frames_setKindIn 21 = .ok (.laload, 1) := by decide +kernel
theorem d_Frames_setKindIn_22 : decode b_Frames_setKindIn 22 = .ok (.ldc2_w 43, 3) := by decide +kernel
theorem d_Frames_setKindIn_25 : decode b_Frames_setKindIn 25 = .ok (.iload 4, 2) := by decide +kernel
theorem d_Frames_setKindIn_27 : decode b_Frames_setKindIn 27 = .ok (.lshl, 1) := by decide +kernel
theorem d_Frames_setKindIn_28 : decode b_Frames_setKindIn 28 = .ok (.ldc2_w 45, 3) := by decide +kernel
theorem d_Frames_setKindIn_31 : decode b_Frames_setKindIn 31 = .ok (.lxor, 1) := by decide +kernel
theorem d_Frames_setKindIn_32 : decode b_Frames_setKindIn 32 = .ok (.land, 1) := by decide +kernel
theorem d_Frames_setKindIn_33 : decode b_Frames_setKindIn 33 = .ok (.iload_n 3, 1) := by decide +kernel
theorem d_Frames_setKindIn_34 : decode b_Frames_setKindIn 34 = .ok (.i2l, 1) := by decide +kernel
theorem d_Frames_setKindIn_35 : decode b_Frames_setKindIn 35 = .ok (.iload 4, 2) := by decide +kernel
theorem d_Frames_setKindIn_37 : decode b_Frames_setKindIn 37 = .ok (.lshl, 1) := by decide +kernel
theorem d_Frames_setKindIn_38 : decode b_Frames_setKindIn 38 = .ok (.lor, 1) := by decide +kernel
theorem d_Frames_setKindIn_39 : decode b_Frames_setKindIn 39 = .ok (.lastore, 1) := by decide +kernel
theorem d_Frames_setKindIn_40 : decode b_Frames_setKindIn 40 = .ok (.return_, 1) := by decide +kernel
end
section
set_option maxHeartbeats 4000000 in
set_option maxRecDepth 100000 in
theorem s_Frames_setKindIn (l : Launch) (g : tw_G) (sz : Nat) (a N : Nat) (f : Nat → Int64) (bs sn kd : Nat) (hsn : sn < 128) (hbs : bs + sn / 16 < N) (hN : N ≤ 4800) (hk : kd < 16) : Met l y_Frames_setKindIn [.code y_Frames_setKindIn b_Frames_setKindIn 6 none] ({ frames := 0, cells := 0, slots := 0, locals := 0 }) (tw_P g [.ref a, .int (nI bs), .int (nI sn), .int (nI kd)] [(a, aJ g N f)] sz) (tw_Qv g (fun u => KS f u bs sn kd) (fun u : Nat → Int64 => [(a, aJ g N u)]) (va_A [(a, aJ g N f)] sz)) 0 0 (va_A [(a, aJ g N f)] sz) := by
  refine tw_metW (l := l) (g := g) (y := y_Frames_setKindIn) (cc := b_Frames_setKindIn) (maxL := 6) (ret := none) (rm := { frames := 0, cells := 0, slots := 0, locals := 0 }) (mc := 0) (ms := 0) (av := [.ref a, .int (nI bs), .int (nI sn), .int (nI kd)]) (ws := [(a, aJ g N f)]) (sz := sz) (Qc := fun A => (tw_Qv g (fun u => KS f u bs sn kd) (fun u : Nat → Int64 => [(a, aJ g N u)]) A)) (by decide) (Nat.le_of_ble_eq_true rfl) ?_
  intro p e s m below meth c ls H A E hB hK hZ hP hD hS hA hl
  obtain ⟨hx, hb, hml, hr, hown, hts, hlocks, hin⟩ := id E
  have hl : lv_has ls 6 [(0, .ref a), (1, .int (nI bs)), (2, .int (nI sn)), (3, .int (nI kd))] := hl
  refine lv_iload_n hx hb d_Frames_setKindIn_0 rfl (lv_at hl 2 rfl) ?_
  refine lv_bipush (v := 15) hx hb d_Frames_setKindIn_1 (by decide) ?_
  refine lv_iand hx hb d_Frames_setKindIn_3 ?_
  refine tw_ri (e2 := nI (sn % 16)) (pk_andN (by omega) 4 (by decide)) ?_
  refine lv_iconst (v := 2) hx hb d_Frames_setKindIn_4 (by decide) ?_
  refine lv_ishl hx hb d_Frames_setKindIn_5 ?_
  refine tw_ri (e2 := nI (sn % 16 * 4)) (pk_shlN (2 &&& 31) 2 (by decide) (by omega)) ?_
  refine lv_istore hx hb d_Frames_setKindIn_6 hl (by decide) rfl (fun ls hl => ?_)
  have hl : lv_has ls 6 [(4, .int (nI (sn % 16 * 4))), (0, .ref a), (1, .int (nI bs)), (2, .int (nI sn)), (3, .int (nI kd))] := hl
  refine lv_iload_n hx hb d_Frames_setKindIn_8 rfl (lv_at hl 2 rfl) ?_
  refine lv_iload_n hx hb d_Frames_setKindIn_9 rfl (lv_at hl 3 rfl) ?_
  refine lv_iconst (v := 4) hx hb d_Frames_setKindIn_10 (by decide) ?_
  refine lv_ishr hx hb d_Frames_setKindIn_11 ?_
  refine tw_ri (e2 := nI (sn / 16)) (sf_sh4 (by omega)) ?_
  refine lv_iadd hx hb d_Frames_setKindIn_12 ?_
  refine tw_ri (e2 := nI (bs + sn / 16)) (nI_add _ _) ?_
  refine lv_istore hx hb d_Frames_setKindIn_13 hl (by decide) rfl (fun ls hl => ?_)
  have hl : lv_has ls 6 [(5, .int (nI (bs + sn / 16))), (4, .int (nI (sn % 16 * 4))), (0, .ref a), (1, .int (nI bs)), (2, .int (nI sn)), (3, .int (nI kd))] := hl
  refine lv_aload_n hx hb d_Frames_setKindIn_15 rfl (lv_at hl 2 rfl) ?_
  refine lv_iload hx hb d_Frames_setKindIn_16 (lv_at hl 0 rfl) ?_
  refine lv_aload_n hx hb d_Frames_setKindIn_18 rfl (lv_at hl 2 rfl) ?_
  refine lv_iload hx hb d_Frames_setKindIn_19 (lv_at hl 0 rfl) ?_
  refine va_lald hx hb hK hP 0 2 rfl rfl (vp_in_nI hbs (by omega)) d_Frames_setKindIn_21 ?_
  refine tw_rl (e2 := f (bs + sn / 16)) (by rw [nI_clamp (by omega)]) ?_
  refine lv_ldc2 (v := 15) hx hb hown (hts _ wd_797) d_Frames_setKindIn_22 ?_
  refine lv_iload hx hb d_Frames_setKindIn_25 (lv_at hl 1 rfl) ?_
  refine lv_lshl (v := (15 : Int64) <<< ((nI (sn % 16 * 4)).toInt64 &&& 63)) hx hb d_Frames_setKindIn_27 rfl ?_
  refine lv_ldc2 (v := -1) hx hb hown (hts _ wd_798) d_Frames_setKindIn_28 ?_
  refine lv_lxor hx hb d_Frames_setKindIn_31 ?_
  obtain ⟨x1, ex1⟩ : ∃ z : Int64, ((15 : Int64) <<< ((nI (sn % 16 * 4)).toInt64 &&& 63)) ^^^ (-1 : Int64) = z := ⟨_, rfl⟩
  refine tw_rl (e2 := x1) ex1 ?_
  refine lv_land hx hb d_Frames_setKindIn_32 ?_
  obtain ⟨x2, ex2⟩ : ∃ z : Int64, (f (bs + sn / 16)) &&& x1 = z := ⟨_, rfl⟩
  refine tw_rl (e2 := x2) ex2 ?_
  refine lv_iload_n hx hb d_Frames_setKindIn_33 rfl (lv_at hl 5 rfl) ?_
  refine lv_i2l (v := (nI kd).toInt64) hx hb d_Frames_setKindIn_34 rfl ?_
  refine lv_iload hx hb d_Frames_setKindIn_35 (lv_at hl 1 rfl) ?_
  refine lv_lshl (v := ((nI kd).toInt64) <<< ((nI (sn % 16 * 4)).toInt64 &&& 63)) hx hb d_Frames_setKindIn_37 rfl ?_
  refine lv_lor hx hb d_Frames_setKindIn_38 ?_
  obtain ⟨x3, ex3⟩ : ∃ z : Int64, x2 ||| (((nI kd).toInt64) <<< ((nI (sn % 16 * 4)).toInt64 &&& 63)) = z := ⟨_, rfl⟩
  refine tw_rl (e2 := x3) ex3 ?_
  refine va_last hx hb hK hP hD hS 0 2 rfl rfl (vp_in_nI hbs (by omega)) d_Frames_setKindIn_39 (fun H locs hP hD hS => ?_)
  have hP : va_P g.1 classes [(a, aJ g N (vp_updL f (nI (bs + sn / 16)).toNatClampNeg x3))] H := hP
  have hD : va_D A [(a, aJ g N (vp_updL f (nI (bs + sn / 16)).toNatClampNeg x3))] := hD
  have e9 : vp_updL f (nI (bs + sn / 16)).toNatClampNeg x3 = vp_updL f (bs + sn / 16) x3 := by rw [nI_clamp (by omega)]
  rw [e9] at hP hD
  exact tw_vret E hS (vp_updL f (bs + sn / 16) x3) (KS.of hsn hk ex1 ex2 ex3) hP hD d_Frames_setKindIn_40
end
section
theorem sf_minL {a b : Nat} (ha : a < 2 ^ 31) (hb : b < 2 ^ 31) : (if nI b < nI a then nI b else nI a) = nI (min a b) := by
  by_cases h : b < a
  · rw [if_pos ((nI_ltI hb ha).mpr h), Nat.min_eq_right (by omega)]
  · rw [if_neg (fun q => h ((nI_ltI hb ha).mp q)), Nat.min_eq_left (by omega)]
theorem FI.low {lo l2 : Nat} {rw : Nat → Int64} {wt dp : Nat → Int32} (h : FI lo rw wt dp) (h2 : l2 ≤ 600) : FI l2 rw wt dp := ⟨h2, h.2⟩
theorem FI.wait {lo p : Nat} {rw : Nat → Int64} {wt dp : Nat → Int32} (h : FI lo rw wt dp) (hp : ¬ dp p = -1) : FI lo rw (upd wt p 1) dp := by
  refine ⟨h.1, h.2.1, h.2.2.1, fun q hq => ?_⟩
  by_cases e : q = p
  · subst e; exact fun _ => hp
  · simp only [upd, if_neg e]; exact h.2.2.2 q hq
theorem FI.quiet {lo p : Nat} {rw : Nat → Int64} {wt dp : Nat → Int32} (h : FI lo rw wt dp) : FI lo rw (upd wt p 0) dp := by
  refine ⟨h.1, h.2.1, h.2.2.1, fun q hq => ?_⟩
  by_cases e : q = p
  · subst e; simp only [upd, if_true]; exact fun h9 => absurd h9 (by decide)
  · simp only [upd, if_neg e]; exact h.2.2.2 q hq
theorem FI.set {lo bs sn kd : Nat} {rw u : Nat → Int64} {wt dp : Nat → Int32} (h : FI lo rw wt dp) (hb : bs % 8 = 0) (h1 : 64 ≤ sn) (h2 : sn < 128) (hk : KS rw u bs sn kd) : FI lo u wt dp := by
  refine ⟨h.1, h.2.1, fun p hp => ?_, h.2.2.2⟩
  rw [hk.1 (8 * p) (by omega)]
  exact h.2.2.1 p hp
theorem sf_n1 : vp_nar .byte 1 = 1 := by rw [vp_nar_byte]; decide
theorem sf_n0 : vp_nar .byte 0 = 0 := by rw [vp_nar_byte]; decide
theorem sf_nm1 : ∀ d, d ≤ 64 → ¬ nI d = -1 := by decide +kernel
theorem sf_upn {dp : Nat → Int32} {p d : Nat} (hd : d ≤ 64) : ¬ upd dp p (nI d) p = -1 := by simp only [upd, if_true]; exact sf_nm1 d hd
end
section
theorem d_Frames_makeWait_0 : decode b_Frames_makeWait 0 = .ok (.aload_n 0, 1) := by decide +kernel
theorem d_Frames_makeWait_1 : decode b_Frames_makeWait 1 = .ok (.getfield 19, 3) := by decide +kernel
theorem d_Frames_makeWait_4 : decode b_Frames_makeWait 4 = .ok (.iload_n 1, 1) := by decide +kernel
theorem d_Frames_makeWait_5 : decode b_Frames_makeWait 5 = .ok (.iconst 1, 1) := by decide +kernel
theorem d_Frames_makeWait_6 : decode b_Frames_makeWait 6 = .ok (.bastore, 1) := by decide +kernel
theorem d_Frames_makeWait_7 : decode b_Frames_makeWait 7 = .ok (.aload_n 0, 1) := by decide +kernel
theorem d_Frames_makeWait_8 : decode b_Frames_makeWait 8 = .ok (.aload_n 0, 1) := by decide +kernel
theorem d_Frames_makeWait_9 : decode b_Frames_makeWait 9 = .ok (.getfield 25, 3) := by decide +kernel
theorem d_Frames_makeWait_12 : decode b_Frames_makeWait 12 = .ok (.iload_n 1, 1) := by decide +kernel
theorem d_Frames_makeWait_13 : decode b_Frames_makeWait 13 = .ok (.invokestatic 53, 3) := by decide +kernel
theorem d_Frames_makeWait_16 : decode b_Frames_makeWait 16 = .ok (.putfield 25, 3) := by decide +kernel
theorem d_Frames_makeWait_19 : decode b_Frames_makeWait 19 = .ok (.return_, 1) := by decide +kernel
end
section
set_option maxHeartbeats 4000000 in
set_option maxRecDepth 100000 in
theorem s_Frames_makeWait (l : Launch) (g : tw_G) (sz : Nat) (f0 : Nat) (w : Nat → Nat) (rw : Nat → Int64) (bg dp : Nat → Int32) (lo : Nat) (wt : Nat → Int32) (p1 : Nat) (hF : FI lo rw wt dp) (hp : p1 < 600) (hd : ¬ dp p1 = -1) : Met l y_Frames_makeWait [.code y_Frames_makeWait b_Frames_makeWait 2 none] ({ frames := 1, cells := 0, slots := 0, locals := 21 }) (tw_P g [.ref f0, .int (nI p1)] [(f0, .inr (1, [.ref (w 3), .ref (w 4), .ref (w 5), .ref (w 6), .int (nI lo)])), ((w 3), aJ g 4800 rw), ((w 4), aB g 600 bg), ((w 5), aB g 600 wt), ((w 6), aB g 600 dp)] sz) (tw_Qv g (fun (u : Nat × (Nat → Int32)) => FI u.1 rw u.2 dp) (fun u : Nat × (Nat → Int32) => [(f0, .inr (1, [.ref (w 3), .ref (w 4), .ref (w 5), .ref (w 6), .int (nI u.1)])), ((w 3), aJ g 4800 rw), ((w 4), aB g 600 bg), ((w 5), aB g 600 u.2), ((w 6), aB g 600 dp)]) (va_A [(f0, .inr (1, [.ref (w 3), .ref (w 4), .ref (w 5), .ref (w 6), .int (nI lo)])), ((w 3), aJ g 4800 rw), ((w 4), aB g 600 bg), ((w 5), aB g 600 wt), ((w 6), aB g 600 dp)] sz)) 0 0 (va_A [(f0, .inr (1, [.ref (w 3), .ref (w 4), .ref (w 5), .ref (w 6), .int (nI lo)])), ((w 3), aJ g 4800 rw), ((w 4), aB g 600 bg), ((w 5), aB g 600 wt), ((w 6), aB g 600 dp)] sz) := by
  refine tw_metW (l := l) (g := g) (y := y_Frames_makeWait) (cc := b_Frames_makeWait) (maxL := 2) (ret := none) (rm := { frames := 1, cells := 0, slots := 0, locals := 21 }) (mc := 0) (ms := 0) (av := [.ref f0, .int (nI p1)]) (ws := [(f0, .inr (1, [.ref (w 3), .ref (w 4), .ref (w 5), .ref (w 6), .int (nI lo)])), ((w 3), aJ g 4800 rw), ((w 4), aB g 600 bg), ((w 5), aB g 600 wt), ((w 6), aB g 600 dp)]) (sz := sz) (Qc := fun A => (tw_Qv g (fun (u : Nat × (Nat → Int32)) => FI u.1 rw u.2 dp) (fun u : Nat × (Nat → Int32) => [(f0, .inr (1, [.ref (w 3), .ref (w 4), .ref (w 5), .ref (w 6), .int (nI u.1)])), ((w 3), aJ g 4800 rw), ((w 4), aB g 600 bg), ((w 5), aB g 600 u.2), ((w 6), aB g 600 dp)]) A)) (by decide) (Nat.le_of_ble_eq_true rfl) ?_
  intro p e s m below meth c ls H A E hB hK hZ hP hD hS hA hl
  obtain ⟨hx, hb, hml, hr, hown, hts, hlocks, hin⟩ := id E
  have hl : lv_has ls 2 [(0, .ref f0), (1, .int (nI p1))] := hl
  refine lv_aload_n hx hb d_Frames_makeWait_0 rfl (lv_at hl 0 rfl) ?_
  refine va_get (D := g.1) (ci := 1) (v := .ref (w 5)) (C := R_Frames) (T := F_Frames) (N := 5) hx hb hts in_Frames hown hK hP 0 rfl rfl 2 (by decide) (hts _ wd_227) (fun _ h9 => h9) rfl d_Frames_makeWait_1 ?_
  refine lv_iload_n hx hb d_Frames_makeWait_4 rfl (lv_at hl 1 rfl) ?_
  refine lv_iconst (v := 1) hx hb d_Frames_makeWait_5 (by decide) ?_
  refine va_bast hx hb hK hP hD hS 3 1 rfl rfl (vp_in_nI hp (by decide)) d_Frames_makeWait_6 (fun H locs hP hD hS => ?_)
  have hP : va_P g.1 classes [(f0, .inr (1, [.ref (w 3), .ref (w 4), .ref (w 5), .ref (w 6), .int (nI lo)])), ((w 3), aJ g 4800 rw), ((w 4), aB g 600 bg), ((w 5), aB g 600 (upd wt (nI p1).toNatClampNeg (vp_nar .byte 1))), ((w 6), aB g 600 dp)] H := hP
  have hD : va_D A [(f0, .inr (1, [.ref (w 3), .ref (w 4), .ref (w 5), .ref (w 6), .int (nI lo)])), ((w 3), aJ g 4800 rw), ((w 4), aB g 600 bg), ((w 5), aB g 600 (upd wt (nI p1).toNatClampNeg (vp_nar .byte 1))), ((w 6), aB g 600 dp)] := hD
  have e9 : upd wt (nI p1).toNatClampNeg (vp_nar .byte 1) = upd wt p1 1 := by rw [nI_clamp (by omega), sf_n1]
  rw [e9] at hP hD
  refine lv_aload_n hx hb d_Frames_makeWait_7 rfl (lv_at hl 0 rfl) ?_
  refine lv_aload_n hx hb d_Frames_makeWait_8 rfl (lv_at hl 0 rfl) ?_
  refine va_get (D := g.1) (ci := 1) (v := .int (nI lo)) (C := R_Frames) (T := F_Frames) (N := 5) hx hb hts in_Frames hown hK hP 0 rfl rfl 4 (by decide) (hts _ wd_229) (fun _ h9 => h9) rfl d_Frames_makeWait_9 ?_
  refine lv_iload_n hx hb d_Frames_makeWait_12 rfl (lv_at hl 1 rfl) ?_
  refine va_mmin (x := (nI lo)) (y := (nI p1)) hx hb (by rw [hml]; exact hl.1.symm) hown (hts _ wd_808) (hts _ wd_764) (hts _ wd_26) (hts _ wd_765) (Nat.le_of_ble_eq_true rfl) (Nat.le_of_ble_eq_true rfl) (Nat.le_of_ble_eq_true rfl) (Nat.le_of_ble_eq_true rfl) d_Frames_makeWait_13 ?_
  refine tw_ri (e2 := nI (min lo p1)) (sf_minL (by have := hF.1; omega) (by omega)) ?_
  refine va_put (D := g.1) (ci := 1) (v := .int (nI (min lo p1))) (ty := .int) (C := R_Frames) (T := F_Frames) (N := 5) hx hb hts in_Frames t_Frames t_Frames_ok n_Frames hown hK hP hD hS 0 rfl rfl 4 (by decide) (hts _ wd_229) (fun _ h9 => h9) rfl (t_Frames_ok 4 (by decide)) rfl rfl (Nat.le_of_ble_eq_true rfl) d_Frames_makeWait_16 (fun H locs hP hD hS => ?_)
  have hP : va_P g.1 classes [(f0, .inr (1, [.ref (w 3), .ref (w 4), .ref (w 5), .ref (w 6), .int (nI (min lo p1))])), ((w 3), aJ g 4800 rw), ((w 4), aB g 600 bg), ((w 5), aB g 600 (upd wt p1 1)), ((w 6), aB g 600 dp)] H := hP
  have hD : va_D A [(f0, .inr (1, [.ref (w 3), .ref (w 4), .ref (w 5), .ref (w 6), .int (nI (min lo p1))])), ((w 3), aJ g 4800 rw), ((w 4), aB g 600 bg), ((w 5), aB g 600 (upd wt p1 1)), ((w 6), aB g 600 dp)] := hD
  exact tw_vret E hS (min lo p1, upd wt p1 1) ((hF.wait hd).low (Nat.le_trans (Nat.min_le_left _ _) hF.1)) hP hD d_Frames_makeWait_19
end
section
theorem d_Frames_meetWord_0 : decode b_Frames_meetWord 0 = .ok (.iconst 0, 1) := by decide +kernel
theorem d_Frames_meetWord_1 : decode b_Frames_meetWord 1 = .ok (.istore 4, 2) := by decide +kernel
theorem d_Frames_meetWord_3 : decode b_Frames_meetWord 3 = .ok (.bipush 16, 2) := by decide +kernel
theorem d_Frames_meetWord_5 : decode b_Frames_meetWord 5 = .ok (.iload_n 3, 1) := by decide +kernel
theorem d_Frames_meetWord_6 : decode b_Frames_meetWord 6 = .ok (.imul, 1) := by decide +kernel
theorem d_Frames_meetWord_7 : decode b_Frames_meetWord 7 = .ok (.istore 5, 2) := by decide +kernel
theorem d_Frames_meetWord_9 : decode b_Frames_meetWord 9 = .ok (.iload 5, 2) := by decide +kernel
theorem d_Frames_meetWord_11 : decode b_Frames_meetWord 11 = .ok (.bipush 16, 2) := by decide +kernel
theorem d_Frames_meetWord_13 : decode b_Frames_meetWord 13 = .ok (.iload_n 3, 1) := by decide +kernel
theorem d_Frames_meetWord_14 : decode b_Frames_meetWord 14 = .ok (.imul, 1) := by decide +kernel
theorem d_Frames_meetWord_15 : decode b_Frames_meetWord 15 = .ok (.bipush 16, 2) := by decide +kernel
theorem d_Frames_meetWord_17 : decode b_Frames_meetWord 17 = .ok (.iadd, 1) := by decide +kernel
theorem d_Frames_meetWord_18 : decode b_Frames_meetWord 18 = .ok (.if_icmp .ge 52, 3) := by decide +kernel
theorem d_Frames_meetWord_21 : decode b_Frames_meetWord 21 = .ok (.aload_n 0, 1) := by decide +kernel
theorem d_Frames_meetWord_22 : decode b_Frames_meetWord 22 = .ok (.getfield 11, 3) := by decide +kernel
theorem d_Frames_meetWord_25 : decode b_Frames_meetWord 25 = .ok (.iload_n 1, 1) := by decide +kernel
theorem d_Frames_meetWord_26 : decode b_Frames_meetWord 26 = .ok (.iload 5, 2) := by decide +kernel
theorem d_Frames_meetWord_28 : decode b_Frames_meetWord 28 = .ok (.invokestatic 39, 3) := by decide +kernel
theorem d_Frames_meetWord_31 : decode b_Frames_meetWord 31 = .ok (.istore 6, 2) := by decide +kernel
theorem d_Frames_meetWord_33 : decode b_Frames_meetWord 33 = .ok (.iload 6, 2) := by decide +kernel
theorem d_Frames_meetWord_35 : decode b_Frames_meetWord 35 = .ok (.ifCond .eq 29, 3) := by decide +kernel
theorem d_Frames_meetWord_38 : decode b_Frames_meetWord 38 = .ok (.iload 6, 2) := by decide +kernel
theorem d_Frames_meetWord_40 : decode b_Frames_meetWord 40 = .ok (.aload_n 2, 1) := by decide +kernel
theorem d_Frames_meetWord_41 : decode b_Frames_meetWord 41 = .ok (.iconst 0, 1) := by decide +kernel
theorem d_Frames_meetWord_42 : decode b_Frames_meetWord 42 = .ok (.iload 5, 2) := by decide +kernel
theorem d_Frames_meetWord_44 : decode b_Frames_meetWord 44 = .ok (.invokestatic 39, 3) := by decide +kernel
theorem d_Frames_meetWord_47 : decode b_Frames_meetWord 47 = .ok (.if_icmp .eq 17, 3) := by decide +kernel
theorem d_Frames_meetWord_50 : decode b_Frames_meetWord 50 = .ok (.aload_n 0, 1) := by decide +kernel
theorem d_Frames_meetWord_51 : decode b_Frames_meetWord 51 = .ok (.getfield 11, 3) := by decide +kernel
theorem d_Frames_meetWord_54 : decode b_Frames_meetWord 54 = .ok (.iload_n 1, 1) := by decide +kernel
theorem d_Frames_meetWord_55 : decode b_Frames_meetWord 55 = .ok (.iload 5, 2) := by decide +kernel
theorem d_Frames_meetWord_57 : decode b_Frames_meetWord 57 = .ok (.iconst 0, 1) := by decide +kernel
theorem d_Frames_meetWord_58 : decode b_Frames_meetWord 58 = .ok (.invokestatic 74, 3) := by decide +kernel
theorem d_Frames_meetWord_61 : decode b_Frames_meetWord 61 = .ok (.iconst 1, 1) := by decide +kernel
theorem d_Frames_meetWord_62 : decode b_Frames_meetWord 62 = .ok (.istore 4, 2) := by decide +kernel
theorem d_Frames_meetWord_64 : decode b_Frames_meetWord 64 = .ok (.iinc 5 1, 3) := by decide +kernel
theorem d_Frames_meetWord_67 : decode b_Frames_meetWord 67 = .ok (.goto (-58), 3) := by decide +kernel
theorem d_Frames_meetWord_70 : decode b_Frames_meetWord 70 = .ok (.iload 4, 2) := by decide +kernel
theorem d_Frames_meetWord_72 : decode b_Frames_meetWord 72 = .ok (.ireturn, 1) := by decide +kernel
end
section
set_option maxHeartbeats 4000000 in
set_option maxRecDepth 100000 in
theorem s_Frames_meetWord (l : Launch) (g : tw_G) (sz : Nat) (f0 ra : Nat) (w : Nat → Nat) (rf : Nat → Int64) (lo : Nat) (bg wt dp : Nat → Int32) (rw : Nat → Int64) (bs wn : Nat) (hF : FI lo rw wt dp) (hb8 : bs % 8 = 0) (hbs : bs + 8 ≤ 4800) (hw4 : 4 ≤ wn) (hw7 : wn < 8) : Met l y_Frames_meetWord [.code y_Frames_meetWord b_Frames_meetWord 7 (some .boolean)] ({ frames := 1, cells := 0, slots := 0, locals := 25 }) (tw_P g [.ref f0, .int (nI bs), .ref ra, .int (nI wn)] [(f0, .inr (1, [.ref (w 3), .ref (w 4), .ref (w 5), .ref (w 6), .int (nI lo)])), ((w 3), aJ g 4800 rw), ((w 4), aB g 600 bg), ((w 5), aB g 600 wt), ((w 6), aB g 600 dp), (ra, aJ g 8 rf)] sz) (tw_Qi g (fun r (u : (Nat → Int64)) => (r = 0 ∨ r = 1) ∧ FI lo u wt dp) (fun u : (Nat → Int64) => [(f0, .inr (1, [.ref (w 3), .ref (w 4), .ref (w 5), .ref (w 6), .int (nI lo)])), ((w 3), aJ g 4800 u), ((w 4), aB g 600 bg), ((w 5), aB g 600 wt), ((w 6), aB g 600 dp), (ra, aJ g 8 rf)]) (va_A [(f0, .inr (1, [.ref (w 3), .ref (w 4), .ref (w 5), .ref (w 6), .int (nI lo)])), ((w 3), aJ g 4800 rw), ((w 4), aB g 600 bg), ((w 5), aB g 600 wt), ((w 6), aB g 600 dp), (ra, aJ g 8 rf)] sz)) 0 0 (va_A [(f0, .inr (1, [.ref (w 3), .ref (w 4), .ref (w 5), .ref (w 6), .int (nI lo)])), ((w 3), aJ g 4800 rw), ((w 4), aB g 600 bg), ((w 5), aB g 600 wt), ((w 6), aB g 600 dp), (ra, aJ g 8 rf)] sz) := by
  refine tw_metW (l := l) (g := g) (y := y_Frames_meetWord) (cc := b_Frames_meetWord) (maxL := 7) (ret := (some .boolean)) (rm := { frames := 1, cells := 0, slots := 0, locals := 25 }) (mc := 0) (ms := 0) (av := [.ref f0, .int (nI bs), .ref ra, .int (nI wn)]) (ws := [(f0, .inr (1, [.ref (w 3), .ref (w 4), .ref (w 5), .ref (w 6), .int (nI lo)])), ((w 3), aJ g 4800 rw), ((w 4), aB g 600 bg), ((w 5), aB g 600 wt), ((w 6), aB g 600 dp), (ra, aJ g 8 rf)]) (sz := sz) (Qc := fun A => (tw_Qi g (fun r (u : (Nat → Int64)) => (r = 0 ∨ r = 1) ∧ FI lo u wt dp) (fun u : (Nat → Int64) => [(f0, .inr (1, [.ref (w 3), .ref (w 4), .ref (w 5), .ref (w 6), .int (nI lo)])), ((w 3), aJ g 4800 u), ((w 4), aB g 600 bg), ((w 5), aB g 600 wt), ((w 6), aB g 600 dp), (ra, aJ g 8 rf)]) A)) (by decide) (Nat.le_of_ble_eq_true rfl) ?_
  intro p e s m below meth c ls H A E hB hK hZ hP hD hS hA hl
  obtain ⟨hx, hb, hml, hr, hown, hts, hlocks, hin⟩ := id E
  have hl : lv_has ls 7 [(0, .ref f0), (1, .int (nI bs)), (2, .ref ra), (3, .int (nI wn))] := hl
  refine lv_iconst (v := 0) hx hb d_Frames_meetWord_0 (by decide) ?_
  refine lv_istore hx hb d_Frames_meetWord_1 hl (by decide) rfl (fun ls hl => ?_)
  have hl : lv_has ls 7 [(4, .int 0), (0, .ref f0), (1, .int (nI bs)), (2, .ref ra), (3, .int (nI wn))] := hl
  refine lv_bipush (v := 16) hx hb d_Frames_meetWord_3 (by decide) ?_
  refine lv_iload_n hx hb d_Frames_meetWord_5 rfl (lv_at hl 4 rfl) ?_
  refine lv_imul hx hb d_Frames_meetWord_6 ?_
  refine tw_ri (e2 := nI (16 * wn)) (pk_mul 16 wn) ?_
  refine lv_istore hx hb d_Frames_meetWord_7 hl (by decide) rfl (fun ls hl => ?_)
  have hl : lv_has ls 7 [(5, .int (nI (16 * wn))), (4, .int 0), (0, .ref f0), (1, .int (nI bs)), (2, .ref ra), (3, .int (nI wn))] := hl
  have loop9 : ∀ (kq : Nat) (sn : Nat) (c9 : Int32) (rw9 : Nat → Int64) (ls : Array Slot) (H : Heap) (locs : List Loc) , 16 * wn + 16 - sn = kq → (hc9 : c9 = 0 ∨ c9 = 1) → (hF9 : FI lo rw9 wt dp) → (hs1 : 16 * wn ≤ sn) → (hs2 : sn ≤ 16 * wn + 16) → lv_has ls 7 [(5, .int (nI sn)), (4, .int c9), (0, .ref f0), (1, .int (nI bs)), (2, .ref ra), (3, .int (nI wn))] → va_P g.1 classes [(f0, .inr (1, [.ref (w 3), .ref (w 4), .ref (w 5), .ref (w 6), .int (nI lo)])), ((w 3), aJ g 4800 rw9), ((w 4), aB g 600 bg), ((w 5), aB g 600 wt), ((w 6), aB g 600 dp), (ra, aJ g 8 rf)] H → va_D A [(f0, .inr (1, [.ref (w 3), .ref (w 4), .ref (w 5), .ref (w 6), .int (nI lo)])), ((w 3), aJ g 4800 rw9), ((w 4), aB g 600 bg), ((w 5), aB g 600 wt), ((w 6), aB g 600 dp), (ra, aJ g 8 rf)] → va_S A s.heap H locs → W p l e ({ frames := 1, cells := 0, slots := 0, locals := 25 }) s m [.ref f0, .int (nI bs), .ref ra, .int (nI wn)].toArray below meth c H locs 0 0 (MQ below (tw_Qi g (fun r (u : (Nat → Int64)) => (r = 0 ∨ r = 1) ∧ FI lo u wt dp) (fun u : (Nat → Int64) => [(f0, .inr (1, [.ref (w 3), .ref (w 4), .ref (w 5), .ref (w 6), .int (nI lo)])), ((w 3), aJ g 4800 u), ((w 4), aB g 600 bg), ((w 5), aB g 600 wt), ((w 6), aB g 600 dp), (ra, aJ g 8 rf)]) A) [.ref f0, .int (nI bs), .ref ra, .int (nI wn)].toArray s 0 0 A) (F0 m 9 ls []) := by
    intro kq
    induction kq using Nat.strongRecOn with
    | _ kq ih =>
      intro sn c9 rw9 ls H locs hk hc9 hF9 hs1 hs2 hl hP hD hS
      refine lv_iload hx hb d_Frames_meetWord_9 (lv_at hl 0 rfl) ?_
      refine lv_bipush (v := 16) hx hb d_Frames_meetWord_11 (by decide) ?_
      refine lv_iload_n hx hb d_Frames_meetWord_13 rfl (lv_at hl 5 rfl) ?_
      refine lv_imul hx hb d_Frames_meetWord_14 ?_
      refine tw_ri (e2 := nI (16 * wn)) (pk_mul 16 wn) ?_
      refine lv_bipush (v := 16) hx hb d_Frames_meetWord_15 (by decide) ?_
      refine lv_iadd hx hb d_Frames_meetWord_17 ?_
      refine tw_ri (e2 := nI (16 * wn + 16)) (nI_add _ 16) ?_
      refine lv_icmp_ge (tgt := 70) hx hb d_Frames_meetWord_18 (by decide) (fun h18 => ?_) (fun h18 => ?_)
      · refine lv_iload hx hb d_Frames_meetWord_70 (lv_at hl 1 rfl) ?_
        exact tw_zret E hS rw9 (tn_z hc9) ⟨hc9, hF9⟩ hP hD d_Frames_meetWord_72
      · have h18 := tn_nle h18 (by omega) (by omega)
        refine lv_aload_n hx hb d_Frames_meetWord_21 rfl (lv_at hl 2 rfl) ?_
        refine va_get (D := g.1) (ci := 1) (v := .ref (w 3)) (C := R_Frames) (T := F_Frames) (N := 5) hx hb hts in_Frames hown hK hP 0 rfl rfl 0 (by decide) (hts _ wd_225) (fun _ h9 => h9) rfl d_Frames_meetWord_22 ?_
        refine lv_iload_n hx hb d_Frames_meetWord_25 rfl (lv_at hl 3 rfl) ?_
        refine lv_iload hx hb d_Frames_meetWord_26 (lv_at hl 0 rfl) ?_
        refine tw_si (tw_runS (ws := [(f0, .inr (1, [.ref (w 3), .ref (w 4), .ref (w 5), .ref (w 6), .int (nI lo)])), ((w 3), aJ g 4800 rw9), ((w 4), aB g 600 bg), ((w 5), aB g 600 wt), ((w 6), aB g 600 dp), (ra, aJ g 8 rf)]) (wc := [((w 3), aJ g 4800 rw9)]) (As := [.ref (w 3), .int (nI bs), .int (nI sn)]) (rest := []) E hB hK hZ (s_Frames_kindIn l g H.size (w 3) 4800 rw9 bs sn (by omega) (by omega) (by decide)) mc_Frames_kindIn ms_Frames_kindIn wd_813 hP hD hS hA [1] rfl (by decide) rfl rfl (by decide) rfl hl.1 rfl (Nat.le_of_ble_eq_true rfl) (by decide) d_Frames_meetWord_28) (fun r1 hr1 => ?_)
        refine lv_istore hx hb d_Frames_meetWord_31 hl (by decide) rfl (fun ls hl => ?_)
        have hl : lv_has ls 7 [(6, .int r1), (5, .int (nI sn)), (4, .int c9), (0, .ref f0), (1, .int (nI bs)), (2, .ref ra), (3, .int (nI wn))] := hl
        refine lv_iload hx hb d_Frames_meetWord_33 (lv_at hl 0 rfl) ?_
        refine lv_if_eq (tgt := 64) hx hb d_Frames_meetWord_35 (by decide) (fun h35 => ?_) (fun h35 => ?_)
        · refine lv_iinc (k := 1) (v := nI (sn + 1)) hx hb d_Frames_meetWord_64 hl rfl ((nI_succ sn).symm) (by decide) rfl (fun ls hl => ?_)
          have hl : lv_has ls 7 [(5, .int (nI (sn + 1))), (6, .int r1), (4, .int c9), (0, .ref f0), (1, .int (nI bs)), (2, .ref ra), (3, .int (nI wn))] := hl
          refine lv_goto (tgt := 9) hx hb d_Frames_meetWord_67 (by decide) ?_
          have hP : va_P g.1 classes [(f0, .inr (1, [.ref (w 3), .ref (w 4), .ref (w 5), .ref (w 6), .int (nI lo)])), ((w 3), aJ g 4800 rw9), ((w 4), aB g 600 bg), ((w 5), aB g 600 wt), ((w 6), aB g 600 dp), (ra, aJ g 8 rf)] H := hP.sub [0, 1, 2, 3, 4, 5] rfl
          have hD : va_D A [(f0, .inr (1, [.ref (w 3), .ref (w 4), .ref (w 5), .ref (w 6), .int (nI lo)])), ((w 3), aJ g 4800 rw9), ((w 4), aB g 600 bg), ((w 5), aB g 600 wt), ((w 6), aB g 600 dp), (ra, aJ g 8 rf)] := hD.sub [0, 1, 2, 3, 4, 5] (by decide) rfl
          exact ih _ (by omega) (sn + 1) c9 rw9 ls _ _ rfl hc9 hF9 (by omega) (by omega) (lv_sub hl [0, 2, 3, 4, 5, 6] rfl) hP hD hS
        · refine lv_iload hx hb d_Frames_meetWord_38 (lv_at hl 0 rfl) ?_
          refine lv_aload_n hx hb d_Frames_meetWord_40 rfl (lv_at hl 5 rfl) ?_
          refine lv_iconst (v := 0) hx hb d_Frames_meetWord_41 (by decide) ?_
          refine lv_iload hx hb d_Frames_meetWord_42 (lv_at hl 1 rfl) ?_
          refine tw_si (tw_runS (ws := [(f0, .inr (1, [.ref (w 3), .ref (w 4), .ref (w 5), .ref (w 6), .int (nI lo)])), ((w 3), aJ g 4800 rw9), ((w 4), aB g 600 bg), ((w 5), aB g 600 wt), ((w 6), aB g 600 dp), (ra, aJ g 8 rf)]) (wc := [(ra, aJ g 8 rf)]) (As := [.ref ra, .int 0, .int (nI sn)]) (rest := [.int r1]) E hB hK hZ (s_Frames_kindIn l g H.size ra 8 rf 0 sn (by omega) (by omega) (by decide)) mc_Frames_kindIn ms_Frames_kindIn wd_813 hP hD hS hA [5] rfl (by decide) rfl rfl (by decide) rfl hl.1 rfl (Nat.le_of_ble_eq_true rfl) (by decide) d_Frames_meetWord_44) (fun r2 hr2 => ?_)
          refine lv_icmp_eq (tgt := 64) hx hb d_Frames_meetWord_47 (by decide) (fun h47 => ?_) (fun h47 => ?_)
          · refine lv_iinc (k := 1) (v := nI (sn + 1)) hx hb d_Frames_meetWord_64 hl rfl ((nI_succ sn).symm) (by decide) rfl (fun ls hl => ?_)
            have hl : lv_has ls 7 [(5, .int (nI (sn + 1))), (6, .int r1), (4, .int c9), (0, .ref f0), (1, .int (nI bs)), (2, .ref ra), (3, .int (nI wn))] := hl
            refine lv_goto (tgt := 9) hx hb d_Frames_meetWord_67 (by decide) ?_
            have hP : va_P g.1 classes [(f0, .inr (1, [.ref (w 3), .ref (w 4), .ref (w 5), .ref (w 6), .int (nI lo)])), ((w 3), aJ g 4800 rw9), ((w 4), aB g 600 bg), ((w 5), aB g 600 wt), ((w 6), aB g 600 dp), (ra, aJ g 8 rf)] H := hP.sub [0, 1, 2, 3, 4, 5] rfl
            have hD : va_D A [(f0, .inr (1, [.ref (w 3), .ref (w 4), .ref (w 5), .ref (w 6), .int (nI lo)])), ((w 3), aJ g 4800 rw9), ((w 4), aB g 600 bg), ((w 5), aB g 600 wt), ((w 6), aB g 600 dp), (ra, aJ g 8 rf)] := hD.sub [0, 1, 2, 3, 4, 5] (by decide) rfl
            exact ih _ (by omega) (sn + 1) c9 rw9 ls _ _ rfl hc9 hF9 (by omega) (by omega) (lv_sub hl [0, 2, 3, 4, 5, 6] rfl) hP hD hS
          · refine lv_aload_n hx hb d_Frames_meetWord_50 rfl (lv_at hl 3 rfl) ?_
            refine va_get (D := g.1) (ci := 1) (v := .ref (w 3)) (C := R_Frames) (T := F_Frames) (N := 5) hx hb hts in_Frames hown hK hP 0 rfl rfl 0 (by decide) (hts _ wd_225) (fun _ h9 => h9) rfl d_Frames_meetWord_51 ?_
            refine lv_iload_n hx hb d_Frames_meetWord_54 rfl (lv_at hl 4 rfl) ?_
            refine lv_iload hx hb d_Frames_meetWord_55 (lv_at hl 1 rfl) ?_
            refine lv_iconst (v := 0) hx hb d_Frames_meetWord_57 (by decide) ?_
            refine tw_wv (wr := [(f0, .inr (1, [.ref (w 3), .ref (w 4), .ref (w 5), .ref (w 6), .int (nI lo)])), ((w 4), aB g 600 bg), ((w 5), aB g 600 wt), ((w 6), aB g 600 dp), (ra, aJ g 8 rf)]) (tw_runS (ws := [(f0, .inr (1, [.ref (w 3), .ref (w 4), .ref (w 5), .ref (w 6), .int (nI lo)])), ((w 3), aJ g 4800 rw9), ((w 4), aB g 600 bg), ((w 5), aB g 600 wt), ((w 6), aB g 600 dp), (ra, aJ g 8 rf)]) (wc := [((w 3), aJ g 4800 rw9)]) (As := [.ref (w 3), .int (nI bs), .int (nI sn), .int 0]) (rest := []) E hB hK hZ (s_Frames_setKindIn l g H.size (w 3) 4800 rw9 bs sn 0 (by omega) (by omega) (by decide) (by decide)) mc_Frames_setKindIn ms_Frames_setKindIn wd_794 hP hD hS hA [1] rfl (by decide) rfl rfl (by decide) rfl hl.1 rfl (Nat.le_of_ble_eq_true rfl) (by decide) d_Frames_meetWord_58) hP hD hS hA [1] [0, 2, 3, 4, 5] rfl rfl (by decide) (by decide) (fun u4 H locs hr3 hP hD hS => ?_)
            try dsimp only at hr3
            have hP : va_P g.1 classes [(f0, .inr (1, [.ref (w 3), .ref (w 4), .ref (w 5), .ref (w 6), .int (nI lo)])), ((w 4), aB g 600 bg), ((w 5), aB g 600 wt), ((w 6), aB g 600 dp), (ra, aJ g 8 rf), ((w 3), aJ g 4800 u4)] H := hP
            have hD : va_D A [(f0, .inr (1, [.ref (w 3), .ref (w 4), .ref (w 5), .ref (w 6), .int (nI lo)])), ((w 4), aB g 600 bg), ((w 5), aB g 600 wt), ((w 6), aB g 600 dp), (ra, aJ g 8 rf), ((w 3), aJ g 4800 u4)] := hD
            have hP : va_P g.1 classes [(f0, .inr (1, [.ref (w 3), .ref (w 4), .ref (w 5), .ref (w 6), .int (nI lo)])), ((w 3), aJ g 4800 u4), ((w 4), aB g 600 bg), ((w 5), aB g 600 wt), ((w 6), aB g 600 dp), (ra, aJ g 8 rf)] H := hP.sub [0, 5, 1, 2, 3, 4] rfl
            have hD : va_D A [(f0, .inr (1, [.ref (w 3), .ref (w 4), .ref (w 5), .ref (w 6), .int (nI lo)])), ((w 3), aJ g 4800 u4), ((w 4), aB g 600 bg), ((w 5), aB g 600 wt), ((w 6), aB g 600 dp), (ra, aJ g 8 rf)] := hD.sub [0, 5, 1, 2, 3, 4] (by decide) rfl
            have hFk : FI lo u4 wt dp := hF9.set hb8 (by omega) (by omega) hr3
            refine lv_iconst (v := 1) hx hb d_Frames_meetWord_61 (by decide) ?_
            refine lv_istore hx hb d_Frames_meetWord_62 hl (by decide) rfl (fun ls hl => ?_)
            have hl : lv_has ls 7 [(4, .int 1), (6, .int r1), (5, .int (nI sn)), (0, .ref f0), (1, .int (nI bs)), (2, .ref ra), (3, .int (nI wn))] := hl
            refine lv_iinc (k := 2) (v := nI (sn + 1)) hx hb d_Frames_meetWord_64 hl rfl ((nI_succ sn).symm) (by decide) rfl (fun ls hl => ?_)
            have hl : lv_has ls 7 [(5, .int (nI (sn + 1))), (4, .int 1), (6, .int r1), (0, .ref f0), (1, .int (nI bs)), (2, .ref ra), (3, .int (nI wn))] := hl
            refine lv_goto (tgt := 9) hx hb d_Frames_meetWord_67 (by decide) ?_
            have hP : va_P g.1 classes [(f0, .inr (1, [.ref (w 3), .ref (w 4), .ref (w 5), .ref (w 6), .int (nI lo)])), ((w 3), aJ g 4800 u4), ((w 4), aB g 600 bg), ((w 5), aB g 600 wt), ((w 6), aB g 600 dp), (ra, aJ g 8 rf)] H := hP.sub [0, 1, 2, 3, 4, 5] rfl
            have hD : va_D A [(f0, .inr (1, [.ref (w 3), .ref (w 4), .ref (w 5), .ref (w 6), .int (nI lo)])), ((w 3), aJ g 4800 u4), ((w 4), aB g 600 bg), ((w 5), aB g 600 wt), ((w 6), aB g 600 dp), (ra, aJ g 8 rf)] := hD.sub [0, 1, 2, 3, 4, 5] (by decide) rfl
            exact ih _ (by omega) (sn + 1) 1 u4 ls _ _ rfl (Or.inr rfl) hFk (by omega) (by omega) (lv_sub hl [0, 1, 3, 4, 5, 6] rfl) hP hD hS
  exact loop9 _ (16 * wn) 0 rw ls _ _ rfl (Or.inl rfl) hF (Nat.le_refl _) (by omega) (hl) hP hD hS
end
section
theorem sf_ix {a : Int32} (h : vp_in a 600) : ∃ p, p < 600 ∧ a = nI p := by
  obtain ⟨j, hj, rfl⟩ := nI_of (fun q => h (Or.inl q))
  refine ⟨j, ?_, rfl⟩
  have h2 : ¬ 600 ≤ (nI j).toNatClampNeg := fun q => h (Or.inr q)
  rw [nI_clamp hj] at h2
  omega
theorem sf_c5 {p : Nat} (hp : p < 600) : (nI (p * 8)).toNatClampNeg + (8 : Int32).toNatClampNeg ≤ 4800 := by
  have e8 : (8 : Int32).toNatClampNeg = 8 := by decide
  rw [e8, nI_clamp (by omega)]
  omega
theorem sf_b64 : ∀ d, d ≤ 64 → (nI d).toInt8.toInt32 = nI d := by decide +kernel
theorem FI.copy {lo p d : Nat} {rw rf : Nat → Int64} {wt dp : Nat → Int32} (h : FI lo rw wt dp) (hp : p < 600) (hr : ¬ rf 0 &&& 15 = 3) (hd : d ≤ 64) : FI lo (va_cpy rf rw (0 : Int32).toNatClampNeg (nI (p * 8)).toNatClampNeg (8 : Int32).toNatClampNeg) wt (upd dp p (nI d)) := by
  have e0 : (0 : Int32).toNatClampNeg = 0 := by decide
  have e8 : (8 : Int32).toNatClampNeg = 8 := by decide
  rw [e0, e8, nI_clamp (by omega)]
  refine ⟨h.1, ?_, ?_, ?_⟩
  · intro q hq
    by_cases e : q = p
    · subst e; exact Or.inr ⟨d, hd, by simp [upd]⟩
    · simp only [upd, if_neg e]; exact h.2.1 q hq
  · intro q hq
    by_cases e : q = p
    · subst e
      rw [pk_cpy_in (by omega) (by omega)]
      have e2 : 0 + (8 * q - q * 8) = 0 := by omega
      rw [e2]; exact hr
    · rw [pk_cpy_out (by omega)]; exact h.2.2.1 q hq
  · intro q hq hw
    by_cases e : q = p
    · subst e
      simp only [upd, if_true]
      exact sf_nm1 d hd
    · simp only [upd, if_neg e]; exact h.2.2.2 q hq hw
end
section
theorem d_Frames_goOn_0 : decode b_Frames_goOn 0 = .ok (.iload_n 1, 1) := by decide +kernel
theorem d_Frames_goOn_1 : decode b_Frames_goOn 1 = .ok (.invokestatic 35, 3) := by decide +kernel
theorem d_Frames_goOn_4 : decode b_Frames_goOn 4 = .ok (.ifCond .ne 5, 3) := by decide +kernel
theorem d_Frames_goOn_7 : decode b_Frames_goOn 7 = .ok (.iconst 0, 1) := by decide +kernel
theorem d_Frames_goOn_8 : decode b_Frames_goOn 8 = .ok (.ireturn, 1) := by decide +kernel
theorem d_Frames_goOn_9 : decode b_Frames_goOn 9 = .ok (.iload_n 1, 1) := by decide +kernel
theorem d_Frames_goOn_10 : decode b_Frames_goOn 10 = .ok (.bipush 8, 2) := by decide +kernel
theorem d_Frames_goOn_12 : decode b_Frames_goOn 12 = .ok (.imul, 1) := by decide +kernel
theorem d_Frames_goOn_13 : decode b_Frames_goOn 13 = .ok (.istore 4, 2) := by decide +kernel
theorem d_Frames_goOn_15 : decode b_Frames_goOn 15 = .ok (.aload_n 0, 1) := by decide +kernel
theorem d_Frames_goOn_16 : decode b_Frames_goOn 16 = .ok (.getfield 22, 3) := by decide +kernel
theorem d_Frames_goOn_19 : decode b_Frames_goOn 19 = .ok (.iload_n 1, 1) := by decide +kernel
theorem d_Frames_goOn_20 : decode b_Frames_goOn 20 = .ok (.baload, 1) := by decide +kernel
theorem d_Frames_goOn_21 : decode b_Frames_goOn 21 = .ok (.iconst (-1), 1) := by decide +kernel
theorem d_Frames_goOn_22 : decode b_Frames_goOn 22 = .ok (.if_icmp .ne 31, 3) := by decide +kernel
theorem d_Frames_goOn_25 : decode b_Frames_goOn 25 = .ok (.aload_n 2, 1) := by decide +kernel
theorem d_Frames_goOn_26 : decode b_Frames_goOn 26 = .ok (.iconst 0, 1) := by decide +kernel
theorem d_Frames_goOn_27 : decode b_Frames_goOn 27 = .ok (.aload_n 0, 1) := by decide +kernel
theorem d_Frames_goOn_28 : decode b_Frames_goOn 28 = .ok (.getfield 11, 3) := by decide +kernel
theorem d_Frames_goOn_31 : decode b_Frames_goOn 31 = .ok (.iload 4, 2) := by decide +kernel
theorem d_Frames_goOn_33 : decode b_Frames_goOn 33 = .ok (.bipush 8, 2) := by decide +kernel
theorem d_Frames_goOn_35 : decode b_Frames_goOn 35 = .ok (.invokestatic 78, 3) := by decide +kernel
theorem d_Frames_goOn_38 : decode b_Frames_goOn 38 = .ok (.aload_n 0, 1) := by decide +kernel
theorem d_Frames_goOn_39 : decode b_Frames_goOn 39 = .ok (.getfield 22, 3) := by decide +kernel
theorem d_Frames_goOn_42 : decode b_Frames_goOn 42 = .ok (.iload_n 1, 1) := by decide +kernel
theorem d_Frames_goOn_43 : decode b_Frames_goOn 43 = .ok (.iload_n 3, 1) := by decide +kernel
theorem d_Frames_goOn_44 : decode b_Frames_goOn 44 = .ok (.i2b, 1) := by decide +kernel
theorem d_Frames_goOn_45 : decode b_Frames_goOn 45 = .ok (.bastore, 1) := by decide +kernel
theorem d_Frames_goOn_46 : decode b_Frames_goOn 46 = .ok (.aload_n 0, 1) := by decide +kernel
theorem d_Frames_goOn_47 : decode b_Frames_goOn 47 = .ok (.iload_n 1, 1) := by decide +kernel
theorem d_Frames_goOn_48 : decode b_Frames_goOn 48 = .ok (.invokevirtual 84, 3) := by decide +kernel
theorem d_Frames_goOn_51 : decode b_Frames_goOn 51 = .ok (.iconst 0, 1) := by decide +kernel
theorem d_Frames_goOn_52 : decode b_Frames_goOn 52 = .ok (.ireturn, 1) := by decide +kernel
theorem d_Frames_goOn_53 : decode b_Frames_goOn 53 = .ok (.iconst 0, 1) := by decide +kernel
theorem d_Frames_goOn_54 : decode b_Frames_goOn 54 = .ok (.istore 5, 2) := by decide +kernel
theorem d_Frames_goOn_56 : decode b_Frames_goOn 56 = .ok (.iload 5, 2) := by decide +kernel
theorem d_Frames_goOn_58 : decode b_Frames_goOn 58 = .ok (.iconst 4, 1) := by decide +kernel
theorem d_Frames_goOn_59 : decode b_Frames_goOn 59 = .ok (.if_icmp .ge 30, 3) := by decide +kernel
theorem d_Frames_goOn_62 : decode b_Frames_goOn 62 = .ok (.aload_n 0, 1) := by decide +kernel
theorem d_Frames_goOn_63 : decode b_Frames_goOn 63 = .ok (.getfield 11, 3) := by decide +kernel
theorem d_Frames_goOn_66 : decode b_Frames_goOn 66 = .ok (.iload 4, 2) := by decide +kernel
theorem d_Frames_goOn_68 : decode b_Frames_goOn 68 = .ok (.iload 5, 2) := by decide +kernel
theorem d_Frames_goOn_70 : decode b_Frames_goOn 70 = .ok (.iadd, 1) := by decide +kernel
theorem d_Frames_goOn_71 : decode b_Frames_goOn 71 = .ok (.laload, 1) := by decide +kernel
theorem d_Frames_goOn_72 : decode b_Frames_goOn 72 = .ok (.aload_n 2, 1) := by decide +kernel
theorem d_Frames_goOn_73 : decode b_Frames_goOn 73 = .ok (.iload 5, 2) := by decide +kernel
theorem d_Frames_goOn_75 : decode b_Frames_goOn 75 = .ok (.laload, 1) := by decide +kernel
theorem d_Frames_goOn_76 : decode b_Frames_goOn 76 = .ok (.lcmp, 1) := by decide +kernel
theorem d_Frames_goOn_77 : decode b_Frames_goOn 77 = .ok (.ifCond .eq 6, 3) := by decide +kernel
theorem d_Frames_goOn_80 : decode b_Frames_goOn 80 = .ok (.bipush 25, 2) := by decide +kernel
theorem d_Frames_goOn_82 : decode b_Frames_goOn 82 = .ok (.ireturn, 1) := by decide +kernel
theorem d_Frames_goOn_83 : decode b_Frames_goOn 83 = .ok (.iinc 5 1, 3) := by decide +kernel
theorem d_Frames_goOn_86 : decode b_Frames_goOn 86 = .ok (.goto (-30), 3) := by decide +kernel
theorem d_Frames_goOn_89 : decode b_Frames_goOn 89 = .ok (.iconst 4, 1) := by decide +kernel
theorem d_Frames_goOn_90 : decode b_Frames_goOn 90 = .ok (.istore 5, 2) := by decide +kernel
theorem d_Frames_goOn_92 : decode b_Frames_goOn 92 = .ok (.iload 5, 2) := by decide +kernel
theorem d_Frames_goOn_94 : decode b_Frames_goOn 94 = .ok (.bipush 8, 2) := by decide +kernel
theorem d_Frames_goOn_96 : decode b_Frames_goOn 96 = .ok (.if_icmp .ge 44, 3) := by decide +kernel
theorem d_Frames_goOn_99 : decode b_Frames_goOn 99 = .ok (.aload_n 0, 1) := by decide +kernel
theorem d_Frames_goOn_100 : decode b_Frames_goOn 100 = .ok (.getfield 11, 3) := by decide +kernel
theorem d_Frames_goOn_103 : decode b_Frames_goOn 103 = .ok (.iload 4, 2) := by decide +kernel
theorem d_Frames_goOn_105 : decode b_Frames_goOn 105 = .ok (.iload 5, 2) := by decide +kernel
theorem d_Frames_goOn_107 : decode b_Frames_goOn 107 = .ok (.iadd, 1) := by decide +kernel
theorem d_Frames_goOn_108 : decode b_Frames_goOn 108 = .ok (.laload, 1) := by decide +kernel
theorem d_Frames_goOn_109 : decode b_Frames_goOn 109 = .ok (.aload_n 2, 1) := by decide +kernel
theorem d_Frames_goOn_110 : decode b_Frames_goOn 110 = .ok (.iload 5, 2) := by decide +kernel
theorem d_Frames_goOn_112 : decode b_Frames_goOn 112 = .ok (.laload, 1) := by decide +kernel
theorem d_Frames_goOn_113 : decode b_Frames_goOn 113 = .ok (.lcmp, 1) := by decide +kernel
theorem d_Frames_goOn_114 : decode b_Frames_goOn 114 = .ok (.ifCond .eq 20, 3) := by decide +kernel
theorem d_Frames_goOn_117 : decode b_Frames_goOn 117 = .ok (.aload_n 0, 1) := by decide +kernel
theorem d_Frames_goOn_118 : decode b_Frames_goOn 118 = .ok (.iload 4, 2) := by decide +kernel
theorem d_Frames_goOn_120 : decode b_Frames_goOn 120 = .ok (.aload_n 2, 1) := by decide +kernel
theorem d_Frames_goOn_121 : decode b_Frames_goOn 121 = .ok (.iload 5, 2) := by decide +kernel
theorem d_Frames_goOn_123 : decode b_Frames_goOn 123 = .ok (.invokevirtual 88, 3) := by decide +kernel
theorem d_Frames_goOn_126 : decode b_Frames_goOn 126 = .ok (.ifCond .eq 8, 3) := by decide +kernel
theorem d_Frames_goOn_129 : decode b_Frames_goOn 129 = .ok (.aload_n 0, 1) := by decide +kernel
theorem d_Frames_goOn_130 : decode b_Frames_goOn 130 = .ok (.iload_n 1, 1) := by decide +kernel
theorem d_Frames_goOn_131 : decode b_Frames_goOn 131 = .ok (.invokevirtual 84, 3) := by decide +kernel
theorem d_Frames_goOn_134 : decode b_Frames_goOn 134 = .ok (.iinc 5 1, 3) := by decide +kernel
theorem d_Frames_goOn_137 : decode b_Frames_goOn 137 = .ok (.goto (-45), 3) := by decide +kernel
theorem d_Frames_goOn_140 : decode b_Frames_goOn 140 = .ok (.iconst 0, 1) := by decide +kernel
theorem d_Frames_goOn_141 : decode b_Frames_goOn 141 = .ok (.ireturn, 1) := by decide +kernel
end
section
set_option maxHeartbeats 4000000 in
set_option maxRecDepth 100000 in
theorem s_Frames_goOn (l : Launch) (g : tw_G) (sz : Nat) (f0 ra : Nat) (w : Nat → Nat) (rf : Nat → Int64) (lo : Nat) (rw : Nat → Int64) (bg : Nat → Int32) (wt : Nat → Int32) (dp : Nat → Int32) (tq : Int32) (dd : Nat) (hF : FI lo rw wt dp) (hdd : dd ≤ 64) (hr0 : ¬ rf 0 &&& 15 = 3) : Met l y_Frames_goOn [.code y_Frames_goOn b_Frames_goOn 6 (some .int)] ({ frames := 2, cells := 0, slots := 0, locals := 60 }) (tw_P g [.ref f0, .int tq, .ref ra, .int (nI dd)] [(f0, .inr (1, [.ref (w 3), .ref (w 4), .ref (w 5), .ref (w 6), .int (nI lo)])), ((w 3), aJ g 4800 rw), ((w 4), aB g 600 bg), ((w 5), aB g 600 wt), ((w 6), aB g 600 dp), (ra, aJ g 8 rf)] sz) (tw_Qi g (fun r (u : Nat × (Nat → Int64) × (Nat → Int32) × (Nat → Int32) × (Nat → Int32)) => True ∧ FI u.1 u.2.1 u.2.2.2.1 u.2.2.2.2) (fun u : Nat × (Nat → Int64) × (Nat → Int32) × (Nat → Int32) × (Nat → Int32) => [(f0, .inr (1, [.ref (w 3), .ref (w 4), .ref (w 5), .ref (w 6), .int (nI u.1)])), ((w 3), aJ g 4800 u.2.1), ((w 4), aB g 600 u.2.2.1), ((w 5), aB g 600 u.2.2.2.1), ((w 6), aB g 600 u.2.2.2.2), (ra, aJ g 8 rf)]) (va_A [(f0, .inr (1, [.ref (w 3), .ref (w 4), .ref (w 5), .ref (w 6), .int (nI lo)])), ((w 3), aJ g 4800 rw), ((w 4), aB g 600 bg), ((w 5), aB g 600 wt), ((w 6), aB g 600 dp), (ra, aJ g 8 rf)] sz)) 0 0 (va_A [(f0, .inr (1, [.ref (w 3), .ref (w 4), .ref (w 5), .ref (w 6), .int (nI lo)])), ((w 3), aJ g 4800 rw), ((w 4), aB g 600 bg), ((w 5), aB g 600 wt), ((w 6), aB g 600 dp), (ra, aJ g 8 rf)] sz) := by
  refine tw_metW (l := l) (g := g) (y := y_Frames_goOn) (cc := b_Frames_goOn) (maxL := 6) (ret := (some .int)) (rm := { frames := 2, cells := 0, slots := 0, locals := 60 }) (mc := 0) (ms := 0) (av := [.ref f0, .int tq, .ref ra, .int (nI dd)]) (ws := [(f0, .inr (1, [.ref (w 3), .ref (w 4), .ref (w 5), .ref (w 6), .int (nI lo)])), ((w 3), aJ g 4800 rw), ((w 4), aB g 600 bg), ((w 5), aB g 600 wt), ((w 6), aB g 600 dp), (ra, aJ g 8 rf)]) (sz := sz) (Qc := fun A => (tw_Qi g (fun r (u : Nat × (Nat → Int64) × (Nat → Int32) × (Nat → Int32) × (Nat → Int32)) => True ∧ FI u.1 u.2.1 u.2.2.2.1 u.2.2.2.2) (fun u : Nat × (Nat → Int64) × (Nat → Int32) × (Nat → Int32) × (Nat → Int32) => [(f0, .inr (1, [.ref (w 3), .ref (w 4), .ref (w 5), .ref (w 6), .int (nI u.1)])), ((w 3), aJ g 4800 u.2.1), ((w 4), aB g 600 u.2.2.1), ((w 5), aB g 600 u.2.2.2.1), ((w 6), aB g 600 u.2.2.2.2), (ra, aJ g 8 rf)]) A)) (by decide) (Nat.le_of_ble_eq_true rfl) ?_
  intro p e s m below meth c ls H A E hB hK hZ hP hD hS hA hl
  obtain ⟨hx, hb, hml, hr, hown, hts, hlocks, hin⟩ := id E
  have hl : lv_has ls 6 [(0, .ref f0), (1, .int tq), (2, .ref ra), (3, .int (nI dd))] := hl
  refine lv_iload_n hx hb d_Frames_goOn_0 rfl (lv_at hl 1 rfl) ?_
  refine tw_si (tw_runS (ws := [(f0, .inr (1, [.ref (w 3), .ref (w 4), .ref (w 5), .ref (w 6), .int (nI lo)])), ((w 3), aJ g 4800 rw), ((w 4), aB g 600 bg), ((w 5), aB g 600 wt), ((w 6), aB g 600 dp), (ra, aJ g 8 rf)]) (wc := []) (As := [.int tq]) (rest := []) E hB hK hZ (s_Frames_isThere l g H.size tq) mc_Frames_isThere ms_Frames_isThere wd_733 hP hD hS hA [] rfl (by decide) rfl rfl (by decide) rfl hl.1 rfl (Nat.le_of_ble_eq_true rfl) (by decide) d_Frames_goOn_1) (fun r1 hr1 => ?_)
  refine lv_if_ne (tgt := 9) hx hb d_Frames_goOn_4 (by decide) (fun h4 => ?_) (fun h4 => ?_)
  · obtain ⟨p1, hp1, rfl⟩ := sf_ix (hr1.resolve_left h4).2
    refine lv_iload_n hx hb d_Frames_goOn_9 rfl (lv_at hl 1 rfl) ?_
    refine lv_bipush (v := 8) hx hb d_Frames_goOn_10 (by decide) ?_
    refine lv_imul hx hb d_Frames_goOn_12 ?_
    refine tw_ri (e2 := nI (p1 * 8)) (pk_mul p1 8) ?_
    refine lv_istore hx hb d_Frames_goOn_13 hl (by decide) rfl (fun ls hl => ?_)
    have hl : lv_has ls 6 [(4, .int (nI (p1 * 8))), (0, .ref f0), (1, .int (nI p1)), (2, .ref ra), (3, .int (nI dd))] := hl
    refine lv_aload_n hx hb d_Frames_goOn_15 rfl (lv_at hl 1 rfl) ?_
    refine va_get (D := g.1) (ci := 1) (v := .ref (w 6)) (C := R_Frames) (T := F_Frames) (N := 5) hx hb hts in_Frames hown hK hP 0 rfl rfl 3 (by decide) (hts _ wd_228) (fun _ h9 => h9) rfl d_Frames_goOn_16 ?_
    refine lv_iload_n hx hb d_Frames_goOn_19 rfl (lv_at hl 2 rfl) ?_
    refine va_bald hx hb hK hP 4 1 rfl rfl (vp_in_nI hp1 (by decide)) d_Frames_goOn_20 ?_
    refine tw_ri (e2 := dp p1) (by rw [nI_clamp (by omega)]) ?_
    refine lv_iconst (v := (-1)) hx hb d_Frames_goOn_21 (by decide) ?_
    refine lv_icmp_ne (tgt := 53) hx hb d_Frames_goOn_22 (by decide) (fun h22 => ?_) (fun h22 => ?_)
    · refine lv_iconst (v := 0) hx hb d_Frames_goOn_53 (by decide) ?_
      refine lv_istore hx hb d_Frames_goOn_54 hl (by decide) rfl (fun ls hl => ?_)
      have hl : lv_has ls 6 [(5, .int 0), (4, .int (nI (p1 * 8))), (0, .ref f0), (1, .int (nI p1)), (2, .ref ra), (3, .int (nI dd))] := hl
      have loop56 : ∀ (kq : Nat) (i : Nat) (ls : Array Slot) (H : Heap) (locs : List Loc) , 4 - i = kq → (hj : i ≤ 4) → lv_has ls 6 [(5, .int (nI i)), (4, .int (nI (p1 * 8))), (0, .ref f0), (1, .int (nI p1)), (2, .ref ra), (3, .int (nI dd))] → va_P g.1 classes [(f0, .inr (1, [.ref (w 3), .ref (w 4), .ref (w 5), .ref (w 6), .int (nI lo)])), ((w 3), aJ g 4800 rw), ((w 4), aB g 600 bg), ((w 5), aB g 600 wt), ((w 6), aB g 600 dp), (ra, aJ g 8 rf)] H → va_D A [(f0, .inr (1, [.ref (w 3), .ref (w 4), .ref (w 5), .ref (w 6), .int (nI lo)])), ((w 3), aJ g 4800 rw), ((w 4), aB g 600 bg), ((w 5), aB g 600 wt), ((w 6), aB g 600 dp), (ra, aJ g 8 rf)] → va_S A s.heap H locs → W p l e ({ frames := 2, cells := 0, slots := 0, locals := 60 }) s m [.ref f0, .int (nI p1), .ref ra, .int (nI dd)].toArray below meth c H locs 0 0 (MQ below (tw_Qi g (fun r (u : Nat × (Nat → Int64) × (Nat → Int32) × (Nat → Int32) × (Nat → Int32)) => True ∧ FI u.1 u.2.1 u.2.2.2.1 u.2.2.2.2) (fun u : Nat × (Nat → Int64) × (Nat → Int32) × (Nat → Int32) × (Nat → Int32) => [(f0, .inr (1, [.ref (w 3), .ref (w 4), .ref (w 5), .ref (w 6), .int (nI u.1)])), ((w 3), aJ g 4800 u.2.1), ((w 4), aB g 600 u.2.2.1), ((w 5), aB g 600 u.2.2.2.1), ((w 6), aB g 600 u.2.2.2.2), (ra, aJ g 8 rf)]) A) [.ref f0, .int (nI p1), .ref ra, .int (nI dd)].toArray s 0 0 A) (F0 m 56 ls []) := by
        intro kq
        induction kq using Nat.strongRecOn with
        | _ kq ih =>
          intro i ls H locs hk hj hl hP hD hS
          refine lv_iload hx hb d_Frames_goOn_56 (lv_at hl 0 rfl) ?_
          refine lv_iconst (v := 4) hx hb d_Frames_goOn_58 (by decide) ?_
          refine lv_icmp_ge (tgt := 89) hx hb d_Frames_goOn_59 (by decide) (fun h59 => ?_) (fun h59 => ?_)
          · refine lv_iconst (v := 4) hx hb d_Frames_goOn_89 (by decide) ?_
            refine lv_istore hx hb d_Frames_goOn_90 hl (by decide) rfl (fun ls hl => ?_)
            have hl : lv_has ls 6 [(5, .int 4), (4, .int (nI (p1 * 8))), (0, .ref f0), (1, .int (nI p1)), (2, .ref ra), (3, .int (nI dd))] := hl
            have loop92 : ∀ (kq : Nat) (i2 : Nat) (lo9 : Nat) (rw9 : Nat → Int64) (wt9 : Nat → Int32) (ls : Array Slot) (H : Heap) (locs : List Loc) , 8 - i2 = kq → (hF9 : FI lo9 rw9 wt9 dp) → (hi4 : 4 ≤ i2) → (hi8 : i2 ≤ 8) → lv_has ls 6 [(5, .int (nI i2)), (4, .int (nI (p1 * 8))), (0, .ref f0), (1, .int (nI p1)), (2, .ref ra), (3, .int (nI dd))] → va_P g.1 classes [(f0, .inr (1, [.ref (w 3), .ref (w 4), .ref (w 5), .ref (w 6), .int (nI lo9)])), ((w 3), aJ g 4800 rw9), ((w 4), aB g 600 bg), ((w 5), aB g 600 wt9), ((w 6), aB g 600 dp), (ra, aJ g 8 rf)] H → va_D A [(f0, .inr (1, [.ref (w 3), .ref (w 4), .ref (w 5), .ref (w 6), .int (nI lo9)])), ((w 3), aJ g 4800 rw9), ((w 4), aB g 600 bg), ((w 5), aB g 600 wt9), ((w 6), aB g 600 dp), (ra, aJ g 8 rf)] → va_S A s.heap H locs → W p l e ({ frames := 2, cells := 0, slots := 0, locals := 60 }) s m [.ref f0, .int (nI p1), .ref ra, .int (nI dd)].toArray below meth c H locs 0 0 (MQ below (tw_Qi g (fun r (u : Nat × (Nat → Int64) × (Nat → Int32) × (Nat → Int32) × (Nat → Int32)) => True ∧ FI u.1 u.2.1 u.2.2.2.1 u.2.2.2.2) (fun u : Nat × (Nat → Int64) × (Nat → Int32) × (Nat → Int32) × (Nat → Int32) => [(f0, .inr (1, [.ref (w 3), .ref (w 4), .ref (w 5), .ref (w 6), .int (nI u.1)])), ((w 3), aJ g 4800 u.2.1), ((w 4), aB g 600 u.2.2.1), ((w 5), aB g 600 u.2.2.2.1), ((w 6), aB g 600 u.2.2.2.2), (ra, aJ g 8 rf)]) A) [.ref f0, .int (nI p1), .ref ra, .int (nI dd)].toArray s 0 0 A) (F0 m 92 ls []) := by
              intro kq
              induction kq using Nat.strongRecOn with
              | _ kq ih92 =>
                intro i2 lo9 rw9 wt9 ls H locs hk92 hF9 hi4 hi8 hl hP hD hS
                refine lv_iload hx hb d_Frames_goOn_92 (lv_at hl 0 rfl) ?_
                refine lv_bipush (v := 8) hx hb d_Frames_goOn_94 (by decide) ?_
                refine lv_icmp_ge (tgt := 140) hx hb d_Frames_goOn_96 (by decide) (fun h96 => ?_) (fun h96 => ?_)
                · refine lv_iconst (v := 0) hx hb d_Frames_goOn_140 (by decide) ?_
                  exact tw_iret E hS (lo9, rw9, bg, wt9, dp) ⟨trivial, hF9⟩ hP hD d_Frames_goOn_141
                · have h96 := tn_nle (a := 8) h96 (by decide) (by omega)
                  refine lv_aload_n hx hb d_Frames_goOn_99 rfl (lv_at hl 2 rfl) ?_
                  refine va_get (D := g.1) (ci := 1) (v := .ref (w 3)) (C := R_Frames) (T := F_Frames) (N := 5) hx hb hts in_Frames hown hK hP 0 rfl rfl 0 (by decide) (hts _ wd_225) (fun _ h9 => h9) rfl d_Frames_goOn_100 ?_
                  refine lv_iload hx hb d_Frames_goOn_103 (lv_at hl 1 rfl) ?_
                  refine lv_iload hx hb d_Frames_goOn_105 (lv_at hl 0 rfl) ?_
                  refine lv_iadd hx hb d_Frames_goOn_107 ?_
                  refine tw_ri (e2 := nI (p1 * 8 + i2)) (nI_add _ _) ?_
                  refine va_lald hx hb hK hP 1 2 rfl rfl (vp_in_nI (by omega) (by decide)) d_Frames_goOn_108 ?_
                  obtain ⟨x2, ex2⟩ : ∃ z : Int64, rw9 ((nI (p1 * 8 + i2)).toNatClampNeg) = z := ⟨_, rfl⟩
                  refine tw_rl (e2 := x2) ex2 ?_
                  refine lv_aload_n hx hb d_Frames_goOn_109 rfl (lv_at hl 4 rfl) ?_
                  refine lv_iload hx hb d_Frames_goOn_110 (lv_at hl 0 rfl) ?_
                  refine va_lald hx hb hK hP 5 2 rfl rfl (vp_in_nI (by omega) (by decide)) d_Frames_goOn_112 ?_
                  obtain ⟨x3, ex3⟩ : ∃ z : Int64, rf ((nI i2).toNatClampNeg) = z := ⟨_, rfl⟩
                  refine tw_rl (e2 := x3) ex3 ?_
                  refine W.lcmp hx hb d_Frames_goOn_113 ?_
                  obtain ⟨x4, ex4⟩ : ∃ z : Int32, lg_cmp x2 x3 = z := ⟨_, rfl⟩
                  refine tw_ri (e2 := x4) ex4 ?_
                  refine lv_if_eq (tgt := 134) hx hb d_Frames_goOn_114 (by decide) (fun h114 => ?_) (fun h114 => ?_)
                  · refine lv_iinc (k := 0) (v := nI (i2 + 1)) hx hb d_Frames_goOn_134 hl rfl ((nI_succ i2).symm) (by decide) rfl (fun ls hl => ?_)
                    have hl : lv_has ls 6 [(5, .int (nI (i2 + 1))), (4, .int (nI (p1 * 8))), (0, .ref f0), (1, .int (nI p1)), (2, .ref ra), (3, .int (nI dd))] := hl
                    refine lv_goto (tgt := 92) hx hb d_Frames_goOn_137 (by decide) ?_
                    have hP : va_P g.1 classes [(f0, .inr (1, [.ref (w 3), .ref (w 4), .ref (w 5), .ref (w 6), .int (nI lo9)])), ((w 3), aJ g 4800 rw9), ((w 4), aB g 600 bg), ((w 5), aB g 600 wt9), ((w 6), aB g 600 dp), (ra, aJ g 8 rf)] H := hP.sub [0, 1, 2, 3, 4, 5] rfl
                    have hD : va_D A [(f0, .inr (1, [.ref (w 3), .ref (w 4), .ref (w 5), .ref (w 6), .int (nI lo9)])), ((w 3), aJ g 4800 rw9), ((w 4), aB g 600 bg), ((w 5), aB g 600 wt9), ((w 6), aB g 600 dp), (ra, aJ g 8 rf)] := hD.sub [0, 1, 2, 3, 4, 5] (by decide) rfl
                    exact ih92 _ (by omega) (i2 + 1) lo9 rw9 wt9 ls _ _ rfl hF9 (by omega) (by omega) (lv_sub hl [0, 1, 2, 3, 4, 5] rfl) hP hD hS
                  · refine lv_aload_n hx hb d_Frames_goOn_117 rfl (lv_at hl 2 rfl) ?_
                    refine lv_iload hx hb d_Frames_goOn_118 (lv_at hl 1 rfl) ?_
                    refine lv_aload_n hx hb d_Frames_goOn_120 rfl (lv_at hl 4 rfl) ?_
                    refine lv_iload hx hb d_Frames_goOn_121 (lv_at hl 0 rfl) ?_
                    refine tw_wi (wr := []) (tw_runV (ws := [(f0, .inr (1, [.ref (w 3), .ref (w 4), .ref (w 5), .ref (w 6), .int (nI lo9)])), ((w 3), aJ g 4800 rw9), ((w 4), aB g 600 bg), ((w 5), aB g 600 wt9), ((w 6), aB g 600 dp), (ra, aJ g 8 rf)]) (wc := [(f0, .inr (1, [.ref (w 3), .ref (w 4), .ref (w 5), .ref (w 6), .int (nI lo9)])), ((w 3), aJ g 4800 rw9), ((w 4), aB g 600 bg), ((w 5), aB g 600 wt9), ((w 6), aB g 600 dp), (ra, aJ g 8 rf)]) (As := [.int (nI (p1 * 8)), .ref ra, .int (nI i2)]) (rest := []) E hB hK hZ (s_Frames_meetWord l g H.size f0 ra w rf lo9 bg wt9 dp rw9 (p1 * 8) i2 hF9 (by omega) (by omega) (by omega) (by omega)) mc_Frames_meetWord mi_Frames_meetWord me_Frames_meetWord wd_809 hP hD hS hA [0, 1, 2, 3, 4, 5] rfl (by decide) 0 rfl rfl rfl rfl rfl (by decide) rfl hl.1 rfl (Nat.le_of_ble_eq_true rfl) (by decide) d_Frames_goOn_123) hP hD hS hA [0, 1, 2, 3, 4, 5] [] rfl rfl (by decide) (by decide) (fun r5 u6 H locs hr5 hP hD hS => ?_)
                    try dsimp only at hr5
                    have hP : va_P g.1 classes [(f0, .inr (1, [.ref (w 3), .ref (w 4), .ref (w 5), .ref (w 6), .int (nI lo9)])), ((w 3), aJ g 4800 u6), ((w 4), aB g 600 bg), ((w 5), aB g 600 wt9), ((w 6), aB g 600 dp), (ra, aJ g 8 rf)] H := hP
                    have hD : va_D A [(f0, .inr (1, [.ref (w 3), .ref (w 4), .ref (w 5), .ref (w 6), .int (nI lo9)])), ((w 3), aJ g 4800 u6), ((w 4), aB g 600 bg), ((w 5), aB g 600 wt9), ((w 6), aB g 600 dp), (ra, aJ g 8 rf)] := hD
                    have hP : va_P g.1 classes [(f0, .inr (1, [.ref (w 3), .ref (w 4), .ref (w 5), .ref (w 6), .int (nI lo9)])), ((w 3), aJ g 4800 u6), ((w 4), aB g 600 bg), ((w 5), aB g 600 wt9), ((w 6), aB g 600 dp), (ra, aJ g 8 rf)] H := hP.sub [0, 1, 2, 3, 4, 5] rfl
                    have hD : va_D A [(f0, .inr (1, [.ref (w 3), .ref (w 4), .ref (w 5), .ref (w 6), .int (nI lo9)])), ((w 3), aJ g 4800 u6), ((w 4), aB g 600 bg), ((w 5), aB g 600 wt9), ((w 6), aB g 600 dp), (ra, aJ g 8 rf)] := hD.sub [0, 1, 2, 3, 4, 5] (by decide) rfl
                    obtain ⟨hB6, hV6⟩ := hr5
                    refine lv_if_eq (tgt := 134) hx hb d_Frames_goOn_126 (by decide) (fun h126 => ?_) (fun h126 => ?_)
                    · refine lv_iinc (k := 0) (v := nI (i2 + 1)) hx hb d_Frames_goOn_134 hl rfl ((nI_succ i2).symm) (by decide) rfl (fun ls hl => ?_)
                      have hl : lv_has ls 6 [(5, .int (nI (i2 + 1))), (4, .int (nI (p1 * 8))), (0, .ref f0), (1, .int (nI p1)), (2, .ref ra), (3, .int (nI dd))] := hl
                      refine lv_goto (tgt := 92) hx hb d_Frames_goOn_137 (by decide) ?_
                      have hP : va_P g.1 classes [(f0, .inr (1, [.ref (w 3), .ref (w 4), .ref (w 5), .ref (w 6), .int (nI lo9)])), ((w 3), aJ g 4800 u6), ((w 4), aB g 600 bg), ((w 5), aB g 600 wt9), ((w 6), aB g 600 dp), (ra, aJ g 8 rf)] H := hP.sub [0, 1, 2, 3, 4, 5] rfl
                      have hD : va_D A [(f0, .inr (1, [.ref (w 3), .ref (w 4), .ref (w 5), .ref (w 6), .int (nI lo9)])), ((w 3), aJ g 4800 u6), ((w 4), aB g 600 bg), ((w 5), aB g 600 wt9), ((w 6), aB g 600 dp), (ra, aJ g 8 rf)] := hD.sub [0, 1, 2, 3, 4, 5] (by decide) rfl
                      exact ih92 _ (by omega) (i2 + 1) lo9 u6 wt9 ls _ _ rfl hV6 (by omega) (by omega) (lv_sub hl [0, 1, 2, 3, 4, 5] rfl) hP hD hS
                    · refine lv_aload_n hx hb d_Frames_goOn_129 rfl (lv_at hl 2 rfl) ?_
                      refine lv_iload_n hx hb d_Frames_goOn_130 rfl (lv_at hl 3 rfl) ?_
                      refine tw_wv (wr := [(ra, aJ g 8 rf)]) (tw_runV (ws := [(f0, .inr (1, [.ref (w 3), .ref (w 4), .ref (w 5), .ref (w 6), .int (nI lo9)])), ((w 3), aJ g 4800 u6), ((w 4), aB g 600 bg), ((w 5), aB g 600 wt9), ((w 6), aB g 600 dp), (ra, aJ g 8 rf)]) (wc := [(f0, .inr (1, [.ref (w 3), .ref (w 4), .ref (w 5), .ref (w 6), .int (nI lo9)])), ((w 3), aJ g 4800 u6), ((w 4), aB g 600 bg), ((w 5), aB g 600 wt9), ((w 6), aB g 600 dp)]) (As := [.int (nI p1)]) (rest := []) E hB hK hZ (s_Frames_makeWait l g H.size f0 w u6 bg dp lo9 wt9  p1 hV6 (by omega) h22) mc_Frames_makeWait mi_Frames_makeWait me_Frames_makeWait wd_804 hP hD hS hA [0, 1, 2, 3, 4] rfl (by decide) 0 rfl rfl rfl rfl rfl (by decide) rfl hl.1 rfl (Nat.le_of_ble_eq_true rfl) (by decide) d_Frames_goOn_131) hP hD hS hA [0, 1, 2, 3, 4] [5] rfl rfl (by decide) (by decide) (fun u8 H locs hr7 hP hD hS => ?_)
                      try dsimp only at hr7
                      have hP : va_P g.1 classes [(ra, aJ g 8 rf), (f0, .inr (1, [.ref (w 3), .ref (w 4), .ref (w 5), .ref (w 6), .int (nI u8.1)])), ((w 3), aJ g 4800 u6), ((w 4), aB g 600 bg), ((w 5), aB g 600 u8.2), ((w 6), aB g 600 dp)] H := hP
                      have hD : va_D A [(ra, aJ g 8 rf), (f0, .inr (1, [.ref (w 3), .ref (w 4), .ref (w 5), .ref (w 6), .int (nI u8.1)])), ((w 3), aJ g 4800 u6), ((w 4), aB g 600 bg), ((w 5), aB g 600 u8.2), ((w 6), aB g 600 dp)] := hD
                      have hP : va_P g.1 classes [(f0, .inr (1, [.ref (w 3), .ref (w 4), .ref (w 5), .ref (w 6), .int (nI u8.1)])), ((w 3), aJ g 4800 u6), ((w 4), aB g 600 bg), ((w 5), aB g 600 u8.2), ((w 6), aB g 600 dp), (ra, aJ g 8 rf)] H := hP.sub [1, 2, 3, 4, 5, 0] rfl
                      have hD : va_D A [(f0, .inr (1, [.ref (w 3), .ref (w 4), .ref (w 5), .ref (w 6), .int (nI u8.1)])), ((w 3), aJ g 4800 u6), ((w 4), aB g 600 bg), ((w 5), aB g 600 u8.2), ((w 6), aB g 600 dp), (ra, aJ g 8 rf)] := hD.sub [1, 2, 3, 4, 5, 0] (by decide) rfl
                      have hV8_0 := hr7
                      refine lv_iinc (k := 0) (v := nI (i2 + 1)) hx hb d_Frames_goOn_134 hl rfl ((nI_succ i2).symm) (by decide) rfl (fun ls hl => ?_)
                      have hl : lv_has ls 6 [(5, .int (nI (i2 + 1))), (4, .int (nI (p1 * 8))), (0, .ref f0), (1, .int (nI p1)), (2, .ref ra), (3, .int (nI dd))] := hl
                      refine lv_goto (tgt := 92) hx hb d_Frames_goOn_137 (by decide) ?_
                      have hP : va_P g.1 classes [(f0, .inr (1, [.ref (w 3), .ref (w 4), .ref (w 5), .ref (w 6), .int (nI u8.1)])), ((w 3), aJ g 4800 u6), ((w 4), aB g 600 bg), ((w 5), aB g 600 u8.2), ((w 6), aB g 600 dp), (ra, aJ g 8 rf)] H := hP.sub [0, 1, 2, 3, 4, 5] rfl
                      have hD : va_D A [(f0, .inr (1, [.ref (w 3), .ref (w 4), .ref (w 5), .ref (w 6), .int (nI u8.1)])), ((w 3), aJ g 4800 u6), ((w 4), aB g 600 bg), ((w 5), aB g 600 u8.2), ((w 6), aB g 600 dp), (ra, aJ g 8 rf)] := hD.sub [0, 1, 2, 3, 4, 5] (by decide) rfl
                      exact ih92 _ (by omega) (i2 + 1) u8.1 u6 u8.2 ls _ _ rfl hV8_0 (by omega) (by omega) (lv_sub hl [0, 1, 2, 3, 4, 5] rfl) hP hD hS
            exact loop92 _ 4 lo rw wt ls _ _ rfl hF (by omega) (by omega) (hl) hP hD hS
          · have h59 := tn_nle (a := 4) h59 (by decide) (by omega)
            refine lv_aload_n hx hb d_Frames_goOn_62 rfl (lv_at hl 2 rfl) ?_
            refine va_get (D := g.1) (ci := 1) (v := .ref (w 3)) (C := R_Frames) (T := F_Frames) (N := 5) hx hb hts in_Frames hown hK hP 0 rfl rfl 0 (by decide) (hts _ wd_225) (fun _ h9 => h9) rfl d_Frames_goOn_63 ?_
            refine lv_iload hx hb d_Frames_goOn_66 (lv_at hl 1 rfl) ?_
            refine lv_iload hx hb d_Frames_goOn_68 (lv_at hl 0 rfl) ?_
            refine lv_iadd hx hb d_Frames_goOn_70 ?_
            refine tw_ri (e2 := nI (p1 * 8 + i)) (nI_add _ _) ?_
            refine va_lald hx hb hK hP 1 2 rfl rfl (vp_in_nI (by omega) (by decide)) d_Frames_goOn_71 ?_
            obtain ⟨x9, ex9⟩ : ∃ z : Int64, rw ((nI (p1 * 8 + i)).toNatClampNeg) = z := ⟨_, rfl⟩
            refine tw_rl (e2 := x9) ex9 ?_
            refine lv_aload_n hx hb d_Frames_goOn_72 rfl (lv_at hl 4 rfl) ?_
            refine lv_iload hx hb d_Frames_goOn_73 (lv_at hl 0 rfl) ?_
            refine va_lald hx hb hK hP 5 2 rfl rfl (vp_in_nI (by omega) (by decide)) d_Frames_goOn_75 ?_
            obtain ⟨x10, ex10⟩ : ∃ z : Int64, rf ((nI i).toNatClampNeg) = z := ⟨_, rfl⟩
            refine tw_rl (e2 := x10) ex10 ?_
            refine W.lcmp hx hb d_Frames_goOn_76 ?_
            obtain ⟨x11, ex11⟩ : ∃ z : Int32, lg_cmp x9 x10 = z := ⟨_, rfl⟩
            refine tw_ri (e2 := x11) ex11 ?_
            refine lv_if_eq (tgt := 83) hx hb d_Frames_goOn_77 (by decide) (fun h77 => ?_) (fun h77 => ?_)
            · refine lv_iinc (k := 0) (v := nI (i + 1)) hx hb d_Frames_goOn_83 hl rfl ((nI_succ i).symm) (by decide) rfl (fun ls hl => ?_)
              have hl : lv_has ls 6 [(5, .int (nI (i + 1))), (4, .int (nI (p1 * 8))), (0, .ref f0), (1, .int (nI p1)), (2, .ref ra), (3, .int (nI dd))] := hl
              refine lv_goto (tgt := 56) hx hb d_Frames_goOn_86 (by decide) ?_
              exact ih _ (by omega) (i + 1) ls _ _ rfl (by omega) (lv_sub hl [0, 1, 2, 3, 4, 5] rfl) hP hD hS
            · refine lv_bipush (v := 25) hx hb d_Frames_goOn_80 (by decide) ?_
              exact tw_iret E hS (lo, rw, bg, wt, dp) ⟨trivial, hF⟩ hP hD d_Frames_goOn_82
      exact loop56 _ 0 ls _ _ rfl (Nat.zero_le _) (hl) hP hD hS
    · refine lv_aload_n hx hb d_Frames_goOn_25 rfl (lv_at hl 3 rfl) ?_
      refine lv_iconst (v := 0) hx hb d_Frames_goOn_26 (by decide) ?_
      refine lv_aload_n hx hb d_Frames_goOn_27 rfl (lv_at hl 1 rfl) ?_
      refine va_get (D := g.1) (ci := 1) (v := .ref (w 3)) (C := R_Frames) (T := F_Frames) (N := 5) hx hb hts in_Frames hown hK hP 0 rfl rfl 0 (by decide) (hts _ wd_225) (fun _ h9 => h9) rfl d_Frames_goOn_28 ?_
      refine lv_iload hx hb d_Frames_goOn_31 (lv_at hl 0 rfl) ?_
      refine lv_bipush (v := 8) hx hb d_Frames_goOn_33 (by decide) ?_
      refine va_copyl (ty := .long) hx hb (by rw [hml]; exact hl.1.symm) hown (hts _ wd_803) (hts _ wd_354) (hts _ wd_353) (hts _ wd_18) hK hP hD hS 5 1 2 2 rfl rfl rfl rfl rfl (by decide) (nI_pos (by omega)) (by decide) (by decide) (sf_c5 hp1) (fun _ _ => rfl) (by decide) (by decide) d_Frames_goOn_35 (fun H locs hP hD hS => ?_)
      have hP : va_P g.1 classes [(f0, .inr (1, [.ref (w 3), .ref (w 4), .ref (w 5), .ref (w 6), .int (nI lo)])), ((w 3), aJ g 4800 (va_cpy rf rw (0 : Int32).toNatClampNeg (nI (p1 * 8)).toNatClampNeg (8 : Int32).toNatClampNeg)), ((w 4), aB g 600 bg), ((w 5), aB g 600 wt), ((w 6), aB g 600 dp), (ra, aJ g 8 rf)] H := hP
      have hD : va_D A [(f0, .inr (1, [.ref (w 3), .ref (w 4), .ref (w 5), .ref (w 6), .int (nI lo)])), ((w 3), aJ g 4800 (va_cpy rf rw (0 : Int32).toNatClampNeg (nI (p1 * 8)).toNatClampNeg (8 : Int32).toNatClampNeg)), ((w 4), aB g 600 bg), ((w 5), aB g 600 wt), ((w 6), aB g 600 dp), (ra, aJ g 8 rf)] := hD
      refine lv_aload_n hx hb d_Frames_goOn_38 rfl (lv_at hl 1 rfl) ?_
      refine va_get (D := g.1) (ci := 1) (v := .ref (w 6)) (C := R_Frames) (T := F_Frames) (N := 5) hx hb hts in_Frames hown hK hP 0 rfl rfl 3 (by decide) (hts _ wd_228) (fun _ h9 => h9) rfl d_Frames_goOn_39 ?_
      refine lv_iload_n hx hb d_Frames_goOn_42 rfl (lv_at hl 2 rfl) ?_
      refine lv_iload_n hx hb d_Frames_goOn_43 rfl (lv_at hl 4 rfl) ?_
      refine lv_i2b (v := nI dd) hx hb d_Frames_goOn_44 (sf_b64 dd hdd) ?_
      refine va_bast hx hb hK hP hD hS 4 1 rfl rfl (vp_in_nI hp1 (by decide)) d_Frames_goOn_45 (fun H locs hP hD hS => ?_)
      have hP : va_P g.1 classes [(f0, .inr (1, [.ref (w 3), .ref (w 4), .ref (w 5), .ref (w 6), .int (nI lo)])), ((w 3), aJ g 4800 (va_cpy rf rw (0 : Int32).toNatClampNeg (nI (p1 * 8)).toNatClampNeg (8 : Int32).toNatClampNeg)), ((w 4), aB g 600 bg), ((w 5), aB g 600 wt), ((w 6), aB g 600 (upd dp (nI p1).toNatClampNeg (vp_nar .byte (nI dd)))), (ra, aJ g 8 rf)] H := hP
      have hD : va_D A [(f0, .inr (1, [.ref (w 3), .ref (w 4), .ref (w 5), .ref (w 6), .int (nI lo)])), ((w 3), aJ g 4800 (va_cpy rf rw (0 : Int32).toNatClampNeg (nI (p1 * 8)).toNatClampNeg (8 : Int32).toNatClampNeg)), ((w 4), aB g 600 bg), ((w 5), aB g 600 wt), ((w 6), aB g 600 (upd dp (nI p1).toNatClampNeg (vp_nar .byte (nI dd)))), (ra, aJ g 8 rf)] := hD
      have e9 : upd dp (nI p1).toNatClampNeg (vp_nar .byte (nI dd)) = upd dp p1 (nI dd) := by rw [nI_clamp (by omega), vp_nar_byte, sf_b64 dd hdd]
      rw [e9] at hP hD
      have hF := hF.copy hp1 hr0 hdd
      refine lv_aload_n hx hb d_Frames_goOn_46 rfl (lv_at hl 1 rfl) ?_
      refine lv_iload_n hx hb d_Frames_goOn_47 rfl (lv_at hl 2 rfl) ?_
      refine tw_wv (wr := [(ra, aJ g 8 rf)]) (tw_runV (ws := [(f0, .inr (1, [.ref (w 3), .ref (w 4), .ref (w 5), .ref (w 6), .int (nI lo)])), ((w 3), aJ g 4800 (va_cpy rf rw (0 : Int32).toNatClampNeg (nI (p1 * 8)).toNatClampNeg (8 : Int32).toNatClampNeg)), ((w 4), aB g 600 bg), ((w 5), aB g 600 wt), ((w 6), aB g 600 (upd dp p1 (nI dd))), (ra, aJ g 8 rf)]) (wc := [(f0, .inr (1, [.ref (w 3), .ref (w 4), .ref (w 5), .ref (w 6), .int (nI lo)])), ((w 3), aJ g 4800 (va_cpy rf rw (0 : Int32).toNatClampNeg (nI (p1 * 8)).toNatClampNeg (8 : Int32).toNatClampNeg)), ((w 4), aB g 600 bg), ((w 5), aB g 600 wt), ((w 6), aB g 600 (upd dp p1 (nI dd)))]) (As := [.int (nI p1)]) (rest := []) E hB hK hZ (s_Frames_makeWait l g H.size f0 w (va_cpy rf rw (0 : Int32).toNatClampNeg (nI (p1 * 8)).toNatClampNeg (8 : Int32).toNatClampNeg) bg (upd dp p1 (nI dd)) lo wt  p1 hF (by omega) (sf_upn hdd)) mc_Frames_makeWait mi_Frames_makeWait me_Frames_makeWait wd_804 hP hD hS hA [0, 1, 2, 3, 4] rfl (by decide) 0 rfl rfl rfl rfl rfl (by decide) rfl hl.1 rfl (Nat.le_of_ble_eq_true rfl) (by decide) d_Frames_goOn_48) hP hD hS hA [0, 1, 2, 3, 4] [5] rfl rfl (by decide) (by decide) (fun u13 H locs hr12 hP hD hS => ?_)
      try dsimp only at hr12
      have hP : va_P g.1 classes [(ra, aJ g 8 rf), (f0, .inr (1, [.ref (w 3), .ref (w 4), .ref (w 5), .ref (w 6), .int (nI u13.1)])), ((w 3), aJ g 4800 (va_cpy rf rw (0 : Int32).toNatClampNeg (nI (p1 * 8)).toNatClampNeg (8 : Int32).toNatClampNeg)), ((w 4), aB g 600 bg), ((w 5), aB g 600 u13.2), ((w 6), aB g 600 (upd dp p1 (nI dd)))] H := hP
      have hD : va_D A [(ra, aJ g 8 rf), (f0, .inr (1, [.ref (w 3), .ref (w 4), .ref (w 5), .ref (w 6), .int (nI u13.1)])), ((w 3), aJ g 4800 (va_cpy rf rw (0 : Int32).toNatClampNeg (nI (p1 * 8)).toNatClampNeg (8 : Int32).toNatClampNeg)), ((w 4), aB g 600 bg), ((w 5), aB g 600 u13.2), ((w 6), aB g 600 (upd dp p1 (nI dd)))] := hD
      have hP : va_P g.1 classes [(f0, .inr (1, [.ref (w 3), .ref (w 4), .ref (w 5), .ref (w 6), .int (nI u13.1)])), ((w 3), aJ g 4800 (va_cpy rf rw (0 : Int32).toNatClampNeg (nI (p1 * 8)).toNatClampNeg (8 : Int32).toNatClampNeg)), ((w 4), aB g 600 bg), ((w 5), aB g 600 u13.2), ((w 6), aB g 600 (upd dp p1 (nI dd))), (ra, aJ g 8 rf)] H := hP.sub [1, 2, 3, 4, 5, 0] rfl
      have hD : va_D A [(f0, .inr (1, [.ref (w 3), .ref (w 4), .ref (w 5), .ref (w 6), .int (nI u13.1)])), ((w 3), aJ g 4800 (va_cpy rf rw (0 : Int32).toNatClampNeg (nI (p1 * 8)).toNatClampNeg (8 : Int32).toNatClampNeg)), ((w 4), aB g 600 bg), ((w 5), aB g 600 u13.2), ((w 6), aB g 600 (upd dp p1 (nI dd))), (ra, aJ g 8 rf)] := hD.sub [1, 2, 3, 4, 5, 0] (by decide) rfl
      have hV13_0 := hr12
      refine lv_iconst (v := 0) hx hb d_Frames_goOn_51 (by decide) ?_
      exact tw_iret E hS (u13.1, va_cpy rf rw (0 : Int32).toNatClampNeg (nI (p1 * 8)).toNatClampNeg (8 : Int32).toNatClampNeg, bg, u13.2, upd dp p1 (nI dd)) ⟨trivial, hV13_0⟩ hP hD d_Frames_goOn_52
  · refine lv_iconst (v := 0) hx hb d_Frames_goOn_7 (by decide) ?_
    exact tw_iret E hS (lo, rw, bg, wt, dp) ⟨trivial, hF⟩ hP hD d_Frames_goOn_8
end
section
theorem sf_c4 {p : Nat} (hp : p < 600) : (nI (p * 8 + 4)).toNatClampNeg + (4 : Int32).toNatClampNeg ≤ 4800 := by
  have e8 : (4 : Int32).toNatClampNeg = 4 := by decide
  rw [e8, nI_clamp (by omega)]
  omega
theorem sf_cpy4 {rw f : Nat → Int64} {x : Nat} (h : ¬ f 0 &&& 15 = 3) : ¬ va_cpy rw f x (4 : Int32).toNatClampNeg (4 : Int32).toNatClampNeg 0 &&& 15 = 3 := by
  have e4 : (4 : Int32).toNatClampNeg = 4 := by decide
  rw [e4, pk_cpy_out (by omega)]
  exact h
theorem sf_fl {f : Nat → Int64} {v : Int64} {i : Nat} (h : ∀ j, j < i → f j = v) : ∀ j, j < i + 1 → vp_updL f i v j = v := by
  intro j hj
  by_cases e : j = i
  · simp only [vp_updL, if_pos e]
  · simp only [vp_updL, if_neg e]; exact h j (by omega)
end
section
theorem d_Arrays_fill_aJJV_0 : decode b_Arrays_fill_aJJV 0 = .ok (.iconst 0, 1) := by decide +kernel
theorem d_Arrays_fill_aJJV_1 : decode b_Arrays_fill_aJJV 1 = .ok (.istore_n 3, 1) := by decide +kernel
theorem d_Arrays_fill_aJJV_2 : decode b_Arrays_fill_aJJV 2 = .ok (.aload_n 0, 1) := by decide +kernel
theorem d_Arrays_fill_aJJV_3 : decode b_Arrays_fill_aJJV 3 = .ok (.arraylength, 1) := by decide +kernel
theorem d_Arrays_fill_aJJV_4 : decode b_Arrays_fill_aJJV 4 = .ok (.istore 4, 2) := by decide +kernel
theorem d_Arrays_fill_aJJV_6 : decode b_Arrays_fill_aJJV 6 = .ok (.iload_n 3, 1) := by decide +kernel
theorem d_Arrays_fill_aJJV_7 : decode b_Arrays_fill_aJJV 7 = .ok (.iload 4, 2) := by decide +kernel
theorem d_Arrays_fill_aJJV_9 : decode b_Arrays_fill_aJJV 9 = .ok (.if_icmp .ge 13, 3) := by decide +kernel
theorem d_Arrays_fill_aJJV_12 : decode b_Arrays_fill_aJJV 12 = .ok (.aload_n 0, 1) := by decide +kernel
theorem d_Arrays_fill_aJJV_13 : decode b_Arrays_fill_aJJV 13 = .ok (.iload_n 3, 1) := by decide +kernel
theorem d_Arrays_fill_aJJV_14 : decode b_Arrays_fill_aJJV 14 = .ok (.lload_n 1, 1) := by decide +kernel
theorem d_Arrays_fill_aJJV_15 : decode b_Arrays_fill_aJJV 15 = .ok (.lastore, 1) := by decide +kernel
theorem d_Arrays_fill_aJJV_16 : decode b_Arrays_fill_aJJV 16 = .ok (.iinc 3 1, 3) := by decide +kernel
theorem d_Arrays_fill_aJJV_19 : decode b_Arrays_fill_aJJV 19 = .ok (.goto (-13), 3) := by decide +kernel
theorem d_Arrays_fill_aJJV_22 : decode b_Arrays_fill_aJJV 22 = .ok (.return_, 1) := by decide +kernel
theorem d_Frames_copyCaught_0 : decode b_Frames_copyCaught 0 = .ok (.iload_n 1, 1) := by decide +kernel
theorem d_Frames_copyCaught_1 : decode b_Frames_copyCaught 1 = .ok (.invokestatic 35, 3) := by decide +kernel
theorem d_Frames_copyCaught_4 : decode b_Frames_copyCaught 4 = .ok (.ifCond .eq 31, 3) := by decide +kernel
theorem d_Frames_copyCaught_7 : decode b_Frames_copyCaught 7 = .ok (.aload_n 2, 1) := by decide +kernel
theorem d_Frames_copyCaught_8 : decode b_Frames_copyCaught 8 = .ok (.lconst 0, 1) := by decide +kernel
theorem d_Frames_copyCaught_9 : decode b_Frames_copyCaught 9 = .ok (.invokestatic 71, 3) := by decide +kernel
theorem d_Frames_copyCaught_12 : decode b_Frames_copyCaught 12 = .ok (.aload_n 2, 1) := by decide +kernel
theorem d_Frames_copyCaught_13 : decode b_Frames_copyCaught 13 = .ok (.iconst 0, 1) := by decide +kernel
theorem d_Frames_copyCaught_14 : decode b_Frames_copyCaught 14 = .ok (.iconst 0, 1) := by decide +kernel
theorem d_Frames_copyCaught_15 : decode b_Frames_copyCaught 15 = .ok (.iconst 4, 1) := by decide +kernel
theorem d_Frames_copyCaught_16 : decode b_Frames_copyCaught 16 = .ok (.invokestatic 74, 3) := by decide +kernel
theorem d_Frames_copyCaught_19 : decode b_Frames_copyCaught 19 = .ok (.aload_n 0, 1) := by decide +kernel
theorem d_Frames_copyCaught_20 : decode b_Frames_copyCaught 20 = .ok (.getfield 11, 3) := by decide +kernel
theorem d_Frames_copyCaught_23 : decode b_Frames_copyCaught 23 = .ok (.iload_n 1, 1) := by decide +kernel
theorem d_Frames_copyCaught_24 : decode b_Frames_copyCaught 24 = .ok (.bipush 8, 2) := by decide +kernel
theorem d_Frames_copyCaught_26 : decode b_Frames_copyCaught 26 = .ok (.imul, 1) := by decide +kernel
theorem d_Frames_copyCaught_27 : decode b_Frames_copyCaught 27 = .ok (.iconst 4, 1) := by decide +kernel
theorem d_Frames_copyCaught_28 : decode b_Frames_copyCaught 28 = .ok (.iadd, 1) := by decide +kernel
theorem d_Frames_copyCaught_29 : decode b_Frames_copyCaught 29 = .ok (.aload_n 2, 1) := by decide +kernel
theorem d_Frames_copyCaught_30 : decode b_Frames_copyCaught 30 = .ok (.iconst 4, 1) := by decide +kernel
theorem d_Frames_copyCaught_31 : decode b_Frames_copyCaught 31 = .ok (.iconst 4, 1) := by decide +kernel
theorem d_Frames_copyCaught_32 : decode b_Frames_copyCaught 32 = .ok (.invokestatic 78, 3) := by decide +kernel
theorem d_Frames_copyCaught_35 : decode b_Frames_copyCaught 35 = .ok (.return_, 1) := by decide +kernel
end
section
set_option maxHeartbeats 4000000 in
set_option maxRecDepth 100000 in
theorem c_fillJ (l : Launch) (g : tw_G) (sz : Nat) (a N : Nat) (f : Nat → Int64) (v : Int64) (hN : N < 2 ^ 31) : Met l y_Arrays_fill_aJJV [.code y_Arrays_fill_aJJV b_Arrays_fill_aJJV 5 none] ({ frames := 0, cells := 0, slots := 0, locals := 0 }) (tw_P g [.ref a, .long v] [(a, aJ g N f)] sz) (tw_Qv g (fun u => ∀ j, j < N → u j = v) (fun u : Nat → Int64 => [(a, aJ g N u)]) (va_A [(a, aJ g N f)] sz)) 0 0 (va_A [(a, aJ g N f)] sz) := by
  refine tw_metW (l := l) (g := g) (y := y_Arrays_fill_aJJV) (cc := b_Arrays_fill_aJJV) (maxL := 5) (ret := none) (rm := { frames := 0, cells := 0, slots := 0, locals := 0 }) (mc := 0) (ms := 0) (av := [.ref a, .long v]) (ws := [(a, aJ g N f)]) (sz := sz) (Qc := fun A => (tw_Qv g (fun u => ∀ j, j < N → u j = v) (fun u : Nat → Int64 => [(a, aJ g N u)]) A)) (by decide) (Nat.le_of_ble_eq_true rfl) ?_
  intro p e s m below meth c ls H A E hB hK hZ hP hD hS hA hl
  obtain ⟨hx, hb, hml, hr, hown, hts, hlocks, hin⟩ := id E
  have hl : lv_has ls 5 [(0, .ref a), (1, .long v)] := hl
  refine lv_iconst (v := 0) hx hb d_Arrays_fill_aJJV_0 (by decide) ?_
  refine lv_istore_n hx hb d_Arrays_fill_aJJV_1 rfl hl (by decide) rfl (fun ls hl => ?_)
  have hl : lv_has ls 5 [(3, .int 0), (0, .ref a), (1, .long v)] := hl
  refine lv_aload_n hx hb d_Arrays_fill_aJJV_2 rfl (lv_at hl 1 rfl) ?_
  refine va_alen (v := nI N) hx hb hK hP 0 2 rfl rfl rfl d_Arrays_fill_aJJV_3 ?_
  refine lv_istore hx hb d_Arrays_fill_aJJV_4 hl (by decide) rfl (fun ls hl => ?_)
  have hl : lv_has ls 5 [(4, .int (nI N)), (3, .int 0), (0, .ref a), (1, .long v)] := hl
  have loop6 : ∀ (kq : Nat) (i : Nat) (f9 : Nat → Int64) (ls : Array Slot) (H : Heap) (locs : List Loc) , N - i = kq → (hi : i ≤ N) → (hf9 : ∀ j, j < i → f9 j = v) → lv_has ls 5 [(4, .int (nI N)), (3, .int (nI i)), (0, .ref a), (1, .long v)] → va_P g.1 classes [(a, aJ g N f9)] H → va_D A [(a, aJ g N f9)] → va_S A s.heap H locs → W p l e ({ frames := 0, cells := 0, slots := 0, locals := 0 }) s m [.ref a, .long v].toArray below meth c H locs 0 0 (MQ below (tw_Qv g (fun u => ∀ j, j < N → u j = v) (fun u : Nat → Int64 => [(a, aJ g N u)]) A) [.ref a, .long v].toArray s 0 0 A) (F0 m 6 ls []) := by
    intro kq
    induction kq using Nat.strongRecOn with
    | _ kq ih =>
      intro i f9 ls H locs hk hi hf9 hl hP hD hS
      refine lv_iload_n hx hb d_Arrays_fill_aJJV_6 rfl (lv_at hl 1 rfl) ?_
      refine lv_iload hx hb d_Arrays_fill_aJJV_7 (lv_at hl 0 rfl) ?_
      refine lv_icmp_ge (tgt := 22) hx hb d_Arrays_fill_aJJV_9 (by decide) (fun h9 => ?_) (fun h9 => ?_)
      · have h9 := tn_le h9 (by omega) (by omega)
        exact tw_vret E hS f9 (fun j hj => hf9 j (by omega)) hP hD d_Arrays_fill_aJJV_22
      · have h9 := tn_nle h9 (by omega) (by omega)
        refine lv_aload_n hx hb d_Arrays_fill_aJJV_12 rfl (lv_at hl 2 rfl) ?_
        refine lv_iload_n hx hb d_Arrays_fill_aJJV_13 rfl (lv_at hl 1 rfl) ?_
        refine lv_lload_n hx hb d_Arrays_fill_aJJV_14 rfl (lv_at hl 3 rfl) ?_
        refine va_last hx hb hK hP hD hS 0 2 rfl rfl (vp_in_nI h9 hN) d_Arrays_fill_aJJV_15 (fun H locs hP hD hS => ?_)
        have hP : va_P g.1 classes [(a, aJ g N (vp_updL f9 (nI i).toNatClampNeg v))] H := hP
        have hD : va_D A [(a, aJ g N (vp_updL f9 (nI i).toNatClampNeg v))] := hD
        have e9 : vp_updL f9 (nI i).toNatClampNeg v = vp_updL f9 i v := by rw [nI_clamp (by omega)]
        rw [e9] at hP hD
        refine lv_iinc (k := 1) (v := nI (i + 1)) hx hb d_Arrays_fill_aJJV_16 hl rfl ((nI_succ i).symm) (by decide) rfl (fun ls hl => ?_)
        have hl : lv_has ls 5 [(3, .int (nI (i + 1))), (4, .int (nI N)), (0, .ref a), (1, .long v)] := hl
        refine lv_goto (tgt := 6) hx hb d_Arrays_fill_aJJV_19 (by decide) ?_
        exact ih _ (by omega) (i + 1) (vp_updL f9 i v) ls _ _ rfl (by omega) (sf_fl hf9) (lv_sub hl [1, 0, 2, 3] rfl) hP hD hS
  exact loop6 _ 0 f ls _ _ rfl (Nat.zero_le _) (fun j h => absurd h (Nat.not_lt_zero j)) (hl) hP hD hS
set_option maxHeartbeats 4000000 in
set_option maxRecDepth 100000 in
theorem s_Frames_copyCaught (l : Launch) (g : tw_G) (sz : Nat) (f0 ra : Nat) (w : Nat → Nat) (lo : Nat) (rw : Nat → Int64) (bg wt dp : Nat → Int32) (rf : Nat → Int64) (tq : Int32) (hr0 : ¬ rf 0 &&& 15 = 3) : Met l y_Frames_copyCaught [.code y_Frames_copyCaught b_Frames_copyCaught 3 none] ({ frames := 1, cells := 0, slots := 0, locals := 60 }) (tw_P g [.ref f0, .int tq, .ref ra] [(f0, .inr (1, [.ref (w 3), .ref (w 4), .ref (w 5), .ref (w 6), .int (nI lo)])), ((w 3), aJ g 4800 rw), ((w 4), aB g 600 bg), ((w 5), aB g 600 wt), ((w 6), aB g 600 dp), (ra, aJ g 8 rf)] sz) (tw_Qv g (fun (u : (Nat → Int64)) => ¬ u 0 &&& 15 = 3) (fun u : (Nat → Int64) => [(f0, .inr (1, [.ref (w 3), .ref (w 4), .ref (w 5), .ref (w 6), .int (nI lo)])), ((w 3), aJ g 4800 rw), ((w 4), aB g 600 bg), ((w 5), aB g 600 wt), ((w 6), aB g 600 dp), (ra, aJ g 8 u)]) (va_A [(f0, .inr (1, [.ref (w 3), .ref (w 4), .ref (w 5), .ref (w 6), .int (nI lo)])), ((w 3), aJ g 4800 rw), ((w 4), aB g 600 bg), ((w 5), aB g 600 wt), ((w 6), aB g 600 dp), (ra, aJ g 8 rf)] sz)) 0 0 (va_A [(f0, .inr (1, [.ref (w 3), .ref (w 4), .ref (w 5), .ref (w 6), .int (nI lo)])), ((w 3), aJ g 4800 rw), ((w 4), aB g 600 bg), ((w 5), aB g 600 wt), ((w 6), aB g 600 dp), (ra, aJ g 8 rf)] sz) := by
  refine tw_metW (l := l) (g := g) (y := y_Frames_copyCaught) (cc := b_Frames_copyCaught) (maxL := 3) (ret := none) (rm := { frames := 1, cells := 0, slots := 0, locals := 60 }) (mc := 0) (ms := 0) (av := [.ref f0, .int tq, .ref ra]) (ws := [(f0, .inr (1, [.ref (w 3), .ref (w 4), .ref (w 5), .ref (w 6), .int (nI lo)])), ((w 3), aJ g 4800 rw), ((w 4), aB g 600 bg), ((w 5), aB g 600 wt), ((w 6), aB g 600 dp), (ra, aJ g 8 rf)]) (sz := sz) (Qc := fun A => (tw_Qv g (fun (u : (Nat → Int64)) => ¬ u 0 &&& 15 = 3) (fun u : (Nat → Int64) => [(f0, .inr (1, [.ref (w 3), .ref (w 4), .ref (w 5), .ref (w 6), .int (nI lo)])), ((w 3), aJ g 4800 rw), ((w 4), aB g 600 bg), ((w 5), aB g 600 wt), ((w 6), aB g 600 dp), (ra, aJ g 8 u)]) A)) (by decide) (Nat.le_of_ble_eq_true rfl) ?_
  intro p e s m below meth c ls H A E hB hK hZ hP hD hS hA hl
  obtain ⟨hx, hb, hml, hr, hown, hts, hlocks, hin⟩ := id E
  have hl : lv_has ls 3 [(0, .ref f0), (1, .int tq), (2, .ref ra)] := hl
  refine lv_iload_n hx hb d_Frames_copyCaught_0 rfl (lv_at hl 1 rfl) ?_
  refine tw_si (tw_runS (ws := [(f0, .inr (1, [.ref (w 3), .ref (w 4), .ref (w 5), .ref (w 6), .int (nI lo)])), ((w 3), aJ g 4800 rw), ((w 4), aB g 600 bg), ((w 5), aB g 600 wt), ((w 6), aB g 600 dp), (ra, aJ g 8 rf)]) (wc := []) (As := [.int tq]) (rest := []) E hB hK hZ (s_Frames_isThere l g H.size tq) mc_Frames_isThere ms_Frames_isThere wd_733 hP hD hS hA [] rfl (by decide) rfl rfl (by decide) rfl hl.1 rfl (Nat.le_of_ble_eq_true rfl) (by decide) d_Frames_copyCaught_1) (fun r1 hr1 => ?_)
  refine lv_if_eq (tgt := 35) hx hb d_Frames_copyCaught_4 (by decide) (fun h4 => ?_) (fun h4 => ?_)
  · exact tw_vret E hS rf hr0 hP hD d_Frames_copyCaught_35
  · obtain ⟨p1, hp1, rfl⟩ := sf_ix (hr1.resolve_left h4).2
    refine lv_aload_n hx hb d_Frames_copyCaught_7 rfl (lv_at hl 2 rfl) ?_
    refine lv_lconst (v := 0) hx hb d_Frames_copyCaught_8 (by decide) ?_
    refine tw_wv (wr := [(f0, .inr (1, [.ref (w 3), .ref (w 4), .ref (w 5), .ref (w 6), .int (nI lo)])), ((w 3), aJ g 4800 rw), ((w 4), aB g 600 bg), ((w 5), aB g 600 wt), ((w 6), aB g 600 dp)]) (tw_runS (ws := [(f0, .inr (1, [.ref (w 3), .ref (w 4), .ref (w 5), .ref (w 6), .int (nI lo)])), ((w 3), aJ g 4800 rw), ((w 4), aB g 600 bg), ((w 5), aB g 600 wt), ((w 6), aB g 600 dp), (ra, aJ g 8 rf)]) (wc := [(ra, aJ g 8 rf)]) (As := [.ref ra, .long 0]) (rest := []) E hB hK hZ (c_fillJ l g H.size ra 8 rf 0 (by decide)) mc_Arrays_fill_aJJV ms_Arrays_fill_aJJV wd_791 hP hD hS hA [5] rfl (by decide) rfl rfl (by decide) rfl hl.1 rfl (Nat.le_of_ble_eq_true rfl) (by decide) d_Frames_copyCaught_9) hP hD hS hA [5] [0, 1, 2, 3, 4] rfl rfl (by decide) (by decide) (fun u3 H locs hr2 hP hD hS => ?_)
    try dsimp only at hr2
    have hP : va_P g.1 classes [(f0, .inr (1, [.ref (w 3), .ref (w 4), .ref (w 5), .ref (w 6), .int (nI lo)])), ((w 3), aJ g 4800 rw), ((w 4), aB g 600 bg), ((w 5), aB g 600 wt), ((w 6), aB g 600 dp), (ra, aJ g 8 u3)] H := hP
    have hD : va_D A [(f0, .inr (1, [.ref (w 3), .ref (w 4), .ref (w 5), .ref (w 6), .int (nI lo)])), ((w 3), aJ g 4800 rw), ((w 4), aB g 600 bg), ((w 5), aB g 600 wt), ((w 6), aB g 600 dp), (ra, aJ g 8 u3)] := hD
    have hP : va_P g.1 classes [(f0, .inr (1, [.ref (w 3), .ref (w 4), .ref (w 5), .ref (w 6), .int (nI lo)])), ((w 3), aJ g 4800 rw), ((w 4), aB g 600 bg), ((w 5), aB g 600 wt), ((w 6), aB g 600 dp), (ra, aJ g 8 u3)] H := hP.sub [0, 1, 2, 3, 4, 5] rfl
    have hD : va_D A [(f0, .inr (1, [.ref (w 3), .ref (w 4), .ref (w 5), .ref (w 6), .int (nI lo)])), ((w 3), aJ g 4800 rw), ((w 4), aB g 600 bg), ((w 5), aB g 600 wt), ((w 6), aB g 600 dp), (ra, aJ g 8 u3)] := hD.sub [0, 1, 2, 3, 4, 5] (by decide) rfl
    refine lv_aload_n hx hb d_Frames_copyCaught_12 rfl (lv_at hl 2 rfl) ?_
    refine lv_iconst (v := 0) hx hb d_Frames_copyCaught_13 (by decide) ?_
    refine lv_iconst (v := 0) hx hb d_Frames_copyCaught_14 (by decide) ?_
    refine lv_iconst (v := 4) hx hb d_Frames_copyCaught_15 (by decide) ?_
    refine tw_wv (wr := [(f0, .inr (1, [.ref (w 3), .ref (w 4), .ref (w 5), .ref (w 6), .int (nI lo)])), ((w 3), aJ g 4800 rw), ((w 4), aB g 600 bg), ((w 5), aB g 600 wt), ((w 6), aB g 600 dp)]) (tw_runS (ws := [(f0, .inr (1, [.ref (w 3), .ref (w 4), .ref (w 5), .ref (w 6), .int (nI lo)])), ((w 3), aJ g 4800 rw), ((w 4), aB g 600 bg), ((w 5), aB g 600 wt), ((w 6), aB g 600 dp), (ra, aJ g 8 u3)]) (wc := [(ra, aJ g 8 u3)]) (As := [.ref ra, .int 0, .int 0, .int 4]) (rest := []) E hB hK hZ (s_Frames_setKindIn l g H.size ra 8 u3 0 0 4 (by omega) (by omega) (by decide) (by decide)) mc_Frames_setKindIn ms_Frames_setKindIn wd_794 hP hD hS hA [5] rfl (by decide) rfl rfl (by decide) rfl hl.1 rfl (Nat.le_of_ble_eq_true rfl) (by decide) d_Frames_copyCaught_16) hP hD hS hA [5] [0, 1, 2, 3, 4] rfl rfl (by decide) (by decide) (fun u5 H locs hr4 hP hD hS => ?_)
    try dsimp only at hr4
    have hP : va_P g.1 classes [(f0, .inr (1, [.ref (w 3), .ref (w 4), .ref (w 5), .ref (w 6), .int (nI lo)])), ((w 3), aJ g 4800 rw), ((w 4), aB g 600 bg), ((w 5), aB g 600 wt), ((w 6), aB g 600 dp), (ra, aJ g 8 u5)] H := hP
    have hD : va_D A [(f0, .inr (1, [.ref (w 3), .ref (w 4), .ref (w 5), .ref (w 6), .int (nI lo)])), ((w 3), aJ g 4800 rw), ((w 4), aB g 600 bg), ((w 5), aB g 600 wt), ((w 6), aB g 600 dp), (ra, aJ g 8 u5)] := hD
    have hP : va_P g.1 classes [(f0, .inr (1, [.ref (w 3), .ref (w 4), .ref (w 5), .ref (w 6), .int (nI lo)])), ((w 3), aJ g 4800 rw), ((w 4), aB g 600 bg), ((w 5), aB g 600 wt), ((w 6), aB g 600 dp), (ra, aJ g 8 u5)] H := hP.sub [0, 1, 2, 3, 4, 5] rfl
    have hD : va_D A [(f0, .inr (1, [.ref (w 3), .ref (w 4), .ref (w 5), .ref (w 6), .int (nI lo)])), ((w 3), aJ g 4800 rw), ((w 4), aB g 600 bg), ((w 5), aB g 600 wt), ((w 6), aB g 600 dp), (ra, aJ g 8 u5)] := hD.sub [0, 1, 2, 3, 4, 5] (by decide) rfl
    refine lv_aload_n hx hb d_Frames_copyCaught_19 rfl (lv_at hl 0 rfl) ?_
    refine va_get (D := g.1) (ci := 1) (v := .ref (w 3)) (C := R_Frames) (T := F_Frames) (N := 5) hx hb hts in_Frames hown hK hP 0 rfl rfl 0 (by decide) (hts _ wd_225) (fun _ h9 => h9) rfl d_Frames_copyCaught_20 ?_
    refine lv_iload_n hx hb d_Frames_copyCaught_23 rfl (lv_at hl 1 rfl) ?_
    refine lv_bipush (v := 8) hx hb d_Frames_copyCaught_24 (by decide) ?_
    refine lv_imul hx hb d_Frames_copyCaught_26 ?_
    refine tw_ri (e2 := nI (p1 * 8)) (pk_mul p1 8) ?_
    refine lv_iconst (v := 4) hx hb d_Frames_copyCaught_27 (by decide) ?_
    refine lv_iadd hx hb d_Frames_copyCaught_28 ?_
    refine tw_ri (e2 := nI (p1 * 8 + 4)) (nI_add _ 4) ?_
    refine lv_aload_n hx hb d_Frames_copyCaught_29 rfl (lv_at hl 2 rfl) ?_
    refine lv_iconst (v := 4) hx hb d_Frames_copyCaught_30 (by decide) ?_
    refine lv_iconst (v := 4) hx hb d_Frames_copyCaught_31 (by decide) ?_
    refine va_copyl (ty := .long) hx hb (by rw [hml]; exact hl.1.symm) hown (hts _ wd_803) (hts _ wd_354) (hts _ wd_353) (hts _ wd_18) hK hP hD hS 1 5 2 2 rfl rfl rfl rfl rfl (nI_pos (by omega)) (by decide) (by decide) (sf_c4 hp1) (by decide) (fun _ _ => rfl) (by decide) (by decide) d_Frames_copyCaught_32 (fun H locs hP hD hS => ?_)
    have hP : va_P g.1 classes [(f0, .inr (1, [.ref (w 3), .ref (w 4), .ref (w 5), .ref (w 6), .int (nI lo)])), ((w 3), aJ g 4800 rw), ((w 4), aB g 600 bg), ((w 5), aB g 600 wt), ((w 6), aB g 600 dp), (ra, aJ g 8 (va_cpy rw u5 (nI (p1 * 8 + 4)).toNatClampNeg (4 : Int32).toNatClampNeg (4 : Int32).toNatClampNeg))] H := hP
    have hD : va_D A [(f0, .inr (1, [.ref (w 3), .ref (w 4), .ref (w 5), .ref (w 6), .int (nI lo)])), ((w 3), aJ g 4800 rw), ((w 4), aB g 600 bg), ((w 5), aB g 600 wt), ((w 6), aB g 600 dp), (ra, aJ g 8 (va_cpy rw u5 (nI (p1 * 8 + 4)).toNatClampNeg (4 : Int32).toNatClampNeg (4 : Int32).toNatClampNeg))] := hD
    exact tw_vret E hS (va_cpy rw u5 (nI (p1 * 8 + 4)).toNatClampNeg (4 : Int32).toNatClampNeg (4 : Int32).toNatClampNeg) (sf_cpy4 (hr4.2.2 rfl (by decide))) hP hD d_Frames_copyCaught_35
end
section
theorem sf_z0 {u : Nat → Int64} (h : ∀ j, j < 8 → u j = 0) : ¬ u 0 &&& 15 = 3 := by
  rw [h 0 (by decide)]
  decide
theorem MI.kind {d1 m1 l1 t1 i : Nat} {w1 : Int32} {s1 : Nat → Int32} (h : MI d1 m1 l1 t1 w1 s1) (hi : i < 64) : ∃ k, k < 16 ∧ s1 i = nI k ∧ (i = 0 → k ≠ 3) := by
  obtain ⟨k, hk, e⟩ := h.2.2.2.2.2.1 i hi
  exact ⟨k, hk, e, fun h0 h3 => h.2.2.2.2.2.2 (by subst h0; rw [e, h3]; rfl)⟩
theorem KS.row {f u : Nat → Int64} {sn kd : Nat} (h : KS f u 0 sn kd) (hf : ¬ f 0 &&& 15 = 3) (hk : sn = 0 → kd ≠ 3) : ¬ u 0 &&& 15 = 3 := by
  by_cases e : sn = 0
  · exact h.2.2 e (hk e)
  · exact h.2.1 e hf
end
section
theorem d_Frames_lay_0 : decode b_Frames_lay 0 = .ok (.aload_n 1, 1) := by decide +kernel
theorem d_Frames_lay_1 : decode b_Frames_lay 1 = .ok (.lconst 0, 1) := by decide +kernel
theorem d_Frames_lay_2 : decode b_Frames_lay 2 = .ok (.invokestatic 71, 3) := by decide +kernel
theorem d_Frames_lay_5 : decode b_Frames_lay 5 = .ok (.iconst 0, 1) := by decide +kernel
theorem d_Frames_lay_6 : decode b_Frames_lay 6 = .ok (.istore_n 2, 1) := by decide +kernel
theorem d_Frames_lay_7 : decode b_Frames_lay 7 = .ok (.iload_n 2, 1) := by decide +kernel
theorem d_Frames_lay_8 : decode b_Frames_lay 8 = .ok (.aload_n 0, 1) := by decide +kernel
theorem d_Frames_lay_9 : decode b_Frames_lay 9 = .ok (.getfield 56, 3) := by decide +kernel
theorem d_Frames_lay_12 : decode b_Frames_lay 12 = .ok (.if_icmp .ge 21, 3) := by decide +kernel
theorem d_Frames_lay_15 : decode b_Frames_lay 15 = .ok (.aload_n 1, 1) := by decide +kernel
theorem d_Frames_lay_16 : decode b_Frames_lay 16 = .ok (.iconst 0, 1) := by decide +kernel
theorem d_Frames_lay_17 : decode b_Frames_lay 17 = .ok (.iload_n 2, 1) := by decide +kernel
theorem d_Frames_lay_18 : decode b_Frames_lay 18 = .ok (.aload_n 0, 1) := by decide +kernel
theorem d_Frames_lay_19 : decode b_Frames_lay 19 = .ok (.getfield 61, 3) := by decide +kernel
theorem d_Frames_lay_22 : decode b_Frames_lay 22 = .ok (.iload_n 2, 1) := by decide +kernel
theorem d_Frames_lay_23 : decode b_Frames_lay 23 = .ok (.iaload, 1) := by decide +kernel
theorem d_Frames_lay_24 : decode b_Frames_lay 24 = .ok (.invokestatic 74, 3) := by decide +kernel
theorem d_Frames_lay_27 : decode b_Frames_lay 27 = .ok (.iinc 2 1, 3) := by decide +kernel
theorem d_Frames_lay_30 : decode b_Frames_lay 30 = .ok (.goto (-23), 3) := by decide +kernel
theorem d_Frames_lay_33 : decode b_Frames_lay 33 = .ok (.iconst 0, 1) := by decide +kernel
theorem d_Frames_lay_34 : decode b_Frames_lay 34 = .ok (.istore_n 2, 1) := by decide +kernel
theorem d_Frames_lay_35 : decode b_Frames_lay 35 = .ok (.iload_n 2, 1) := by decide +kernel
theorem d_Frames_lay_36 : decode b_Frames_lay 36 = .ok (.aload_n 0, 1) := by decide +kernel
theorem d_Frames_lay_37 : decode b_Frames_lay 37 = .ok (.getfield 65, 3) := by decide +kernel
theorem d_Frames_lay_40 : decode b_Frames_lay 40 = .ok (.if_icmp .ge 24, 3) := by decide +kernel
theorem d_Frames_lay_43 : decode b_Frames_lay 43 = .ok (.aload_n 1, 1) := by decide +kernel
theorem d_Frames_lay_44 : decode b_Frames_lay 44 = .ok (.iconst 0, 1) := by decide +kernel
theorem d_Frames_lay_45 : decode b_Frames_lay 45 = .ok (.bipush 64, 2) := by decide +kernel
theorem d_Frames_lay_47 : decode b_Frames_lay 47 = .ok (.iload_n 2, 1) := by decide +kernel
theorem d_Frames_lay_48 : decode b_Frames_lay 48 = .ok (.iadd, 1) := by decide +kernel
theorem d_Frames_lay_49 : decode b_Frames_lay 49 = .ok (.aload_n 0, 1) := by decide +kernel
theorem d_Frames_lay_50 : decode b_Frames_lay 50 = .ok (.getfield 68, 3) := by decide +kernel
theorem d_Frames_lay_53 : decode b_Frames_lay 53 = .ok (.iload_n 2, 1) := by decide +kernel
theorem d_Frames_lay_54 : decode b_Frames_lay 54 = .ok (.iaload, 1) := by decide +kernel
theorem d_Frames_lay_55 : decode b_Frames_lay 55 = .ok (.invokestatic 74, 3) := by decide +kernel
theorem d_Frames_lay_58 : decode b_Frames_lay 58 = .ok (.iinc 2 1, 3) := by decide +kernel
theorem d_Frames_lay_61 : decode b_Frames_lay 61 = .ok (.goto (-26), 3) := by decide +kernel
theorem d_Frames_lay_64 : decode b_Frames_lay 64 = .ok (.return_, 1) := by decide +kernel
end
section
set_option maxHeartbeats 4000000 in
set_option maxRecDepth 100000 in
theorem s_Frames_setKindX (l : Launch) (g : tw_G) (sz : Nat) (a N : Nat) (f : Nat → Int64) (bs sn : Nat) (k : Int32) (hsn : sn < 128) (hbs : bs + sn / 16 < N) (hN : N ≤ 4800) : Met l y_Frames_setKindIn [.code y_Frames_setKindIn b_Frames_setKindIn 6 none] ({ frames := 0, cells := 0, slots := 0, locals := 0 }) (tw_P g [.ref a, .int (nI bs), .int (nI sn), .int k] [(a, aJ g N f)] sz) (tw_Qv g (fun u => ∀ j, j ≠ bs + sn / 16 → u j = f j) (fun u : Nat → Int64 => [(a, aJ g N u)]) (va_A [(a, aJ g N f)] sz)) 0 0 (va_A [(a, aJ g N f)] sz) := by
  refine tw_metW (l := l) (g := g) (y := y_Frames_setKindIn) (cc := b_Frames_setKindIn) (maxL := 6) (ret := none) (rm := { frames := 0, cells := 0, slots := 0, locals := 0 }) (mc := 0) (ms := 0) (av := [.ref a, .int (nI bs), .int (nI sn), .int k]) (ws := [(a, aJ g N f)]) (sz := sz) (Qc := fun A => (tw_Qv g (fun u => ∀ j, j ≠ bs + sn / 16 → u j = f j) (fun u : Nat → Int64 => [(a, aJ g N u)]) A)) (by decide) (Nat.le_of_ble_eq_true rfl) ?_
  intro p e s m below meth c ls H A E hB hK hZ hP hD hS hA hl
  obtain ⟨hx, hb, hml, hr, hown, hts, hlocks, hin⟩ := id E
  have hl : lv_has ls 6 [(0, .ref a), (1, .int (nI bs)), (2, .int (nI sn)), (3, .int k)] := hl
  refine lv_iload_n hx hb d_Frames_setKindIn_0 rfl (lv_at hl 2 rfl) ?_
  refine lv_bipush (v := 15) hx hb d_Frames_setKindIn_1 (by decide) ?_
  refine lv_iand hx hb d_Frames_setKindIn_3 ?_
  refine tw_ri (e2 := nI (sn % 16)) (pk_andN (by omega) 4 (by decide)) ?_
  refine lv_iconst (v := 2) hx hb d_Frames_setKindIn_4 (by decide) ?_
  refine lv_ishl hx hb d_Frames_setKindIn_5 ?_
  refine tw_ri (e2 := nI (sn % 16 * 4)) (pk_shlN (2 &&& 31) 2 (by decide) (by omega)) ?_
  refine lv_istore hx hb d_Frames_setKindIn_6 hl (by decide) rfl (fun ls hl => ?_)
  have hl : lv_has ls 6 [(4, .int (nI (sn % 16 * 4))), (0, .ref a), (1, .int (nI bs)), (2, .int (nI sn)), (3, .int k)] := hl
  refine lv_iload_n hx hb d_Frames_setKindIn_8 rfl (lv_at hl 2 rfl) ?_
  refine lv_iload_n hx hb d_Frames_setKindIn_9 rfl (lv_at hl 3 rfl) ?_
  refine lv_iconst (v := 4) hx hb d_Frames_setKindIn_10 (by decide) ?_
  refine lv_ishr hx hb d_Frames_setKindIn_11 ?_
  refine tw_ri (e2 := nI (sn / 16)) (sf_sh4 (by omega)) ?_
  refine lv_iadd hx hb d_Frames_setKindIn_12 ?_
  refine tw_ri (e2 := nI (bs + sn / 16)) (nI_add _ _) ?_
  refine lv_istore hx hb d_Frames_setKindIn_13 hl (by decide) rfl (fun ls hl => ?_)
  have hl : lv_has ls 6 [(5, .int (nI (bs + sn / 16))), (4, .int (nI (sn % 16 * 4))), (0, .ref a), (1, .int (nI bs)), (2, .int (nI sn)), (3, .int k)] := hl
  refine lv_aload_n hx hb d_Frames_setKindIn_15 rfl (lv_at hl 2 rfl) ?_
  refine lv_iload hx hb d_Frames_setKindIn_16 (lv_at hl 0 rfl) ?_
  refine lv_aload_n hx hb d_Frames_setKindIn_18 rfl (lv_at hl 2 rfl) ?_
  refine lv_iload hx hb d_Frames_setKindIn_19 (lv_at hl 0 rfl) ?_
  refine va_lald hx hb hK hP 0 2 rfl rfl (vp_in_nI hbs (by omega)) d_Frames_setKindIn_21 ?_
  refine tw_rl (e2 := f (bs + sn / 16)) (by rw [nI_clamp (by omega)]) ?_
  refine lv_ldc2 (v := 15) hx hb hown (hts _ wd_797) d_Frames_setKindIn_22 ?_
  refine lv_iload hx hb d_Frames_setKindIn_25 (lv_at hl 1 rfl) ?_
  refine lv_lshl (v := (15 : Int64) <<< ((nI (sn % 16 * 4)).toInt64 &&& 63)) hx hb d_Frames_setKindIn_27 rfl ?_
  refine lv_ldc2 (v := -1) hx hb hown (hts _ wd_798) d_Frames_setKindIn_28 ?_
  refine lv_lxor hx hb d_Frames_setKindIn_31 ?_
  obtain ⟨x1, ex1⟩ : ∃ z : Int64, ((15 : Int64) <<< ((nI (sn % 16 * 4)).toInt64 &&& 63)) ^^^ (-1 : Int64) = z := ⟨_, rfl⟩
  refine tw_rl (e2 := x1) ex1 ?_
  refine lv_land hx hb d_Frames_setKindIn_32 ?_
  obtain ⟨x2, ex2⟩ : ∃ z : Int64, (f (bs + sn / 16)) &&& x1 = z := ⟨_, rfl⟩
  refine tw_rl (e2 := x2) ex2 ?_
  refine lv_iload_n hx hb d_Frames_setKindIn_33 rfl (lv_at hl 5 rfl) ?_
  refine lv_i2l (v := k.toInt64) hx hb d_Frames_setKindIn_34 rfl ?_
  refine lv_iload hx hb d_Frames_setKindIn_35 (lv_at hl 1 rfl) ?_
  refine lv_lshl (v := k.toInt64 <<< ((nI (sn % 16 * 4)).toInt64 &&& 63)) hx hb d_Frames_setKindIn_37 rfl ?_
  refine lv_lor hx hb d_Frames_setKindIn_38 ?_
  obtain ⟨x3, ex3⟩ : ∃ z : Int64, x2 ||| (k.toInt64 <<< ((nI (sn % 16 * 4)).toInt64 &&& 63)) = z := ⟨_, rfl⟩
  refine tw_rl (e2 := x3) ex3 ?_
  refine va_last hx hb hK hP hD hS 0 2 rfl rfl (vp_in_nI hbs (by omega)) d_Frames_setKindIn_39 (fun H locs hP hD hS => ?_)
  have hP : va_P g.1 classes [(a, aJ g N (vp_updL f (nI (bs + sn / 16)).toNatClampNeg x3))] H := hP
  have hD : va_D A [(a, aJ g N (vp_updL f (nI (bs + sn / 16)).toNatClampNeg x3))] := hD
  have e9 : vp_updL f (nI (bs + sn / 16)).toNatClampNeg x3 = vp_updL f (bs + sn / 16) x3 := by rw [nI_clamp (by omega)]
  rw [e9] at hP hD
  exact tw_vret E hS (vp_updL f (bs + sn / 16) x3) (fun j hj => if_neg hj) hP hD d_Frames_setKindIn_40
set_option maxHeartbeats 4000000 in
set_option maxRecDepth 100000 in
theorem s_Frames_lay (l : Launch) (g : tw_G) (sz : Nat) (mh s0 l0 t0 : Nat) (lay : Value) (ra : Nat) (de : Nat) (ms : Nat) (ml : Nat) (mt : Nat) (an : Int32) (oa : Int32) (wd : Int32) (sk : Nat → Int32) (lc : Nat → Int32) (lt : Nat → Int32) (rf : Nat → Int64) (hr0 : ¬ rf 0 &&& 15 = 3) (hM : MI de ms ml mt wd sk) : Met l y_Frames_lay [.code y_Frames_lay b_Frames_lay 3 none] ({ frames := 1, cells := 0, slots := 0, locals := 25 }) (tw_P g [.ref mh, .ref ra] [(mh, .inr (5, [.ref s0, .ref l0, .ref t0, lay, .int (nI de), .int (nI ms), .int (nI ml), .int (nI mt), .int an, .int oa, .int wd])), (s0, aI g 64 sk), (l0, aI g 64 lc), (t0, aI g 600 lt), (ra, aJ g 8 rf)] sz) (tw_Qv g (fun (u : (Nat → Int64)) => ¬ u 0 &&& 15 = 3) (fun u : (Nat → Int64) => [(mh, .inr (5, [.ref s0, .ref l0, .ref t0, lay, .int (nI de), .int (nI ms), .int (nI ml), .int (nI mt), .int an, .int oa, .int wd])), (s0, aI g 64 sk), (l0, aI g 64 lc), (t0, aI g 600 lt), (ra, aJ g 8 u)]) (va_A [(mh, .inr (5, [.ref s0, .ref l0, .ref t0, lay, .int (nI de), .int (nI ms), .int (nI ml), .int (nI mt), .int an, .int oa, .int wd])), (s0, aI g 64 sk), (l0, aI g 64 lc), (t0, aI g 600 lt), (ra, aJ g 8 rf)] sz)) 0 0 (va_A [(mh, .inr (5, [.ref s0, .ref l0, .ref t0, lay, .int (nI de), .int (nI ms), .int (nI ml), .int (nI mt), .int an, .int oa, .int wd])), (s0, aI g 64 sk), (l0, aI g 64 lc), (t0, aI g 600 lt), (ra, aJ g 8 rf)] sz) := by
  refine tw_metW (l := l) (g := g) (y := y_Frames_lay) (cc := b_Frames_lay) (maxL := 3) (ret := none) (rm := { frames := 1, cells := 0, slots := 0, locals := 25 }) (mc := 0) (ms := 0) (av := [.ref mh, .ref ra]) (ws := [(mh, .inr (5, [.ref s0, .ref l0, .ref t0, lay, .int (nI de), .int (nI ms), .int (nI ml), .int (nI mt), .int an, .int oa, .int wd])), (s0, aI g 64 sk), (l0, aI g 64 lc), (t0, aI g 600 lt), (ra, aJ g 8 rf)]) (sz := sz) (Qc := fun A => (tw_Qv g (fun (u : (Nat → Int64)) => ¬ u 0 &&& 15 = 3) (fun u : (Nat → Int64) => [(mh, .inr (5, [.ref s0, .ref l0, .ref t0, lay, .int (nI de), .int (nI ms), .int (nI ml), .int (nI mt), .int an, .int oa, .int wd])), (s0, aI g 64 sk), (l0, aI g 64 lc), (t0, aI g 600 lt), (ra, aJ g 8 u)]) A)) (by decide) (Nat.le_of_ble_eq_true rfl) ?_
  intro p e s m below meth c ls H A E hB hK hZ hP hD hS hA hl
  obtain ⟨hx, hb, hml, hr, hown, hts, hlocks, hin⟩ := id E
  have hl : lv_has ls 3 [(0, .ref mh), (1, .ref ra)] := hl
  refine lv_aload_n hx hb d_Frames_lay_0 rfl (lv_at hl 1 rfl) ?_
  refine lv_lconst (v := 0) hx hb d_Frames_lay_1 (by decide) ?_
  refine tw_wv (wr := [(mh, .inr (5, [.ref s0, .ref l0, .ref t0, lay, .int (nI de), .int (nI ms), .int (nI ml), .int (nI mt), .int an, .int oa, .int wd])), (s0, aI g 64 sk), (l0, aI g 64 lc), (t0, aI g 600 lt)]) (tw_runS (ws := [(mh, .inr (5, [.ref s0, .ref l0, .ref t0, lay, .int (nI de), .int (nI ms), .int (nI ml), .int (nI mt), .int an, .int oa, .int wd])), (s0, aI g 64 sk), (l0, aI g 64 lc), (t0, aI g 600 lt), (ra, aJ g 8 rf)]) (wc := [(ra, aJ g 8 rf)]) (As := [.ref ra, .long 0]) (rest := []) E hB hK hZ (c_fillJ l g H.size ra 8 rf 0 (by decide)) mc_Arrays_fill_aJJV ms_Arrays_fill_aJJV wd_791 hP hD hS hA [4] rfl (by decide) rfl rfl (by decide) rfl hl.1 rfl (Nat.le_of_ble_eq_true rfl) (by decide) d_Frames_lay_2) hP hD hS hA [4] [0, 1, 2, 3] rfl rfl (by decide) (by decide) (fun u2 H locs hr1 hP hD hS => ?_)
  try dsimp only at hr1
  have hP : va_P g.1 classes [(mh, .inr (5, [.ref s0, .ref l0, .ref t0, lay, .int (nI de), .int (nI ms), .int (nI ml), .int (nI mt), .int an, .int oa, .int wd])), (s0, aI g 64 sk), (l0, aI g 64 lc), (t0, aI g 600 lt), (ra, aJ g 8 u2)] H := hP
  have hD : va_D A [(mh, .inr (5, [.ref s0, .ref l0, .ref t0, lay, .int (nI de), .int (nI ms), .int (nI ml), .int (nI mt), .int an, .int oa, .int wd])), (s0, aI g 64 sk), (l0, aI g 64 lc), (t0, aI g 600 lt), (ra, aJ g 8 u2)] := hD
  have hP : va_P g.1 classes [(mh, .inr (5, [.ref s0, .ref l0, .ref t0, lay, .int (nI de), .int (nI ms), .int (nI ml), .int (nI mt), .int an, .int oa, .int wd])), (s0, aI g 64 sk), (l0, aI g 64 lc), (t0, aI g 600 lt), (ra, aJ g 8 u2)] H := hP.sub [0, 1, 2, 3, 4] rfl
  have hD : va_D A [(mh, .inr (5, [.ref s0, .ref l0, .ref t0, lay, .int (nI de), .int (nI ms), .int (nI ml), .int (nI mt), .int an, .int oa, .int wd])), (s0, aI g 64 sk), (l0, aI g 64 lc), (t0, aI g 600 lt), (ra, aJ g 8 u2)] := hD.sub [0, 1, 2, 3, 4] (by decide) rfl
  have hf0 := sf_z0 hr1
  refine lv_iconst (v := 0) hx hb d_Frames_lay_5 (by decide) ?_
  refine lv_istore_n hx hb d_Frames_lay_6 rfl hl (by decide) rfl (fun ls hl => ?_)
  have hl : lv_has ls 3 [(2, .int 0), (0, .ref mh), (1, .ref ra)] := hl
  have loop7 : ∀ (kq : Nat) (i : Nat) (f9 : Nat → Int64) (ls : Array Slot) (H : Heap) (locs : List Loc) , de - i = kq → (hji : i ≤ de) → (hf9 : ¬ f9 0 &&& 15 = 3) → lv_has ls 3 [(2, .int (nI i)), (0, .ref mh), (1, .ref ra)] → va_P g.1 classes [(mh, .inr (5, [.ref s0, .ref l0, .ref t0, lay, .int (nI de), .int (nI ms), .int (nI ml), .int (nI mt), .int an, .int oa, .int wd])), (s0, aI g 64 sk), (l0, aI g 64 lc), (t0, aI g 600 lt), (ra, aJ g 8 f9)] H → va_D A [(mh, .inr (5, [.ref s0, .ref l0, .ref t0, lay, .int (nI de), .int (nI ms), .int (nI ml), .int (nI mt), .int an, .int oa, .int wd])), (s0, aI g 64 sk), (l0, aI g 64 lc), (t0, aI g 600 lt), (ra, aJ g 8 f9)] → va_S A s.heap H locs → W p l e ({ frames := 1, cells := 0, slots := 0, locals := 25 }) s m [.ref mh, .ref ra].toArray below meth c H locs 0 0 (MQ below (tw_Qv g (fun (u : (Nat → Int64)) => ¬ u 0 &&& 15 = 3) (fun u : (Nat → Int64) => [(mh, .inr (5, [.ref s0, .ref l0, .ref t0, lay, .int (nI de), .int (nI ms), .int (nI ml), .int (nI mt), .int an, .int oa, .int wd])), (s0, aI g 64 sk), (l0, aI g 64 lc), (t0, aI g 600 lt), (ra, aJ g 8 u)]) A) [.ref mh, .ref ra].toArray s 0 0 A) (F0 m 7 ls []) := by
    intro kq
    induction kq using Nat.strongRecOn with
    | _ kq ih =>
      intro i f9 ls H locs hk hji hf9 hl hP hD hS
      refine lv_iload_n hx hb d_Frames_lay_7 rfl (lv_at hl 0 rfl) ?_
      refine lv_aload_n hx hb d_Frames_lay_8 rfl (lv_at hl 1 rfl) ?_
      refine va_getN (D := g.1) (ci := 5) (v := .int (nI de)) (C := R_Machine) (T := F_Machine) (N := 11) hx hb hts in_Machine hown hK hP 0 rfl rfl 4 (by decide) (hts _ wd_150) (fun _ h9 => h9) rfl d_Frames_lay_9 ?_
      refine lv_icmp_ge (tgt := 33) hx hb d_Frames_lay_12 (by decide) (fun h12 => ?_) (fun h12 => ?_)
      · refine lv_iconst (v := 0) hx hb d_Frames_lay_33 (by decide) ?_
        refine lv_istore_n hx hb d_Frames_lay_34 rfl hl (by decide) rfl (fun ls hl => ?_)
        have hl : lv_has ls 3 [(2, .int 0), (0, .ref mh), (1, .ref ra)] := hl
        have loop35 : ∀ (kq : Nat) (j : Nat) (f8 : Nat → Int64) (ls : Array Slot) (H : Heap) (locs : List Loc) , ml - j = kq → (hjj : j ≤ ml) → (hf8 : ¬ f8 0 &&& 15 = 3) → lv_has ls 3 [(2, .int (nI j)), (0, .ref mh), (1, .ref ra)] → va_P g.1 classes [(mh, .inr (5, [.ref s0, .ref l0, .ref t0, lay, .int (nI de), .int (nI ms), .int (nI ml), .int (nI mt), .int an, .int oa, .int wd])), (s0, aI g 64 sk), (l0, aI g 64 lc), (t0, aI g 600 lt), (ra, aJ g 8 f8)] H → va_D A [(mh, .inr (5, [.ref s0, .ref l0, .ref t0, lay, .int (nI de), .int (nI ms), .int (nI ml), .int (nI mt), .int an, .int oa, .int wd])), (s0, aI g 64 sk), (l0, aI g 64 lc), (t0, aI g 600 lt), (ra, aJ g 8 f8)] → va_S A s.heap H locs → W p l e ({ frames := 1, cells := 0, slots := 0, locals := 25 }) s m [.ref mh, .ref ra].toArray below meth c H locs 0 0 (MQ below (tw_Qv g (fun (u : (Nat → Int64)) => ¬ u 0 &&& 15 = 3) (fun u : (Nat → Int64) => [(mh, .inr (5, [.ref s0, .ref l0, .ref t0, lay, .int (nI de), .int (nI ms), .int (nI ml), .int (nI mt), .int an, .int oa, .int wd])), (s0, aI g 64 sk), (l0, aI g 64 lc), (t0, aI g 600 lt), (ra, aJ g 8 u)]) A) [.ref mh, .ref ra].toArray s 0 0 A) (F0 m 35 ls []) := by
          intro kq
          induction kq using Nat.strongRecOn with
          | _ kq ih35 =>
            intro j f8 ls H locs hk35 hjj hf8 hl hP hD hS
            refine lv_iload_n hx hb d_Frames_lay_35 rfl (lv_at hl 0 rfl) ?_
            refine lv_aload_n hx hb d_Frames_lay_36 rfl (lv_at hl 1 rfl) ?_
            refine va_getN (D := g.1) (ci := 5) (v := .int (nI ml)) (C := R_Machine) (T := F_Machine) (N := 11) hx hb hts in_Machine hown hK hP 0 rfl rfl 6 (by decide) (hts _ wd_154) (fun _ h9 => h9) rfl d_Frames_lay_37 ?_
            refine lv_icmp_ge (tgt := 64) hx hb d_Frames_lay_40 (by decide) (fun h40 => ?_) (fun h40 => ?_)
            · exact tw_vret E hS f8 hf8 hP hD d_Frames_lay_64
            · have h40 := tn_nle h40 (by have := hM.ml; omega) (by have := hM.ml; omega)
              have hml6 := hM.ml
              refine lv_aload_n hx hb d_Frames_lay_43 rfl (lv_at hl 2 rfl) ?_
              refine lv_iconst (v := 0) hx hb d_Frames_lay_44 (by decide) ?_
              refine lv_bipush (v := 64) hx hb d_Frames_lay_45 (by decide) ?_
              refine lv_iload_n hx hb d_Frames_lay_47 rfl (lv_at hl 0 rfl) ?_
              refine lv_iadd hx hb d_Frames_lay_48 ?_
              refine tw_ri (e2 := nI (64 + j)) (nI_add 64 j) ?_
              refine lv_aload_n hx hb d_Frames_lay_49 rfl (lv_at hl 1 rfl) ?_
              refine va_getN (D := g.1) (ci := 5) (v := .ref l0) (C := R_Machine) (T := F_Machine) (N := 11) hx hb hts in_Machine hown hK hP 0 rfl rfl 1 (by decide) (hts _ wd_145) (fun _ h9 => h9) rfl d_Frames_lay_50 ?_
              refine lv_iload_n hx hb d_Frames_lay_53 rfl (lv_at hl 0 rfl) ?_
              refine va_iald hx hb hK hP 2 0 rfl rfl (vp_in_nI (by have := hM.ml; omega) (by decide)) d_Frames_lay_54 ?_
              obtain ⟨x3, ex3⟩ : ∃ z : Int32, lc ((nI j).toNatClampNeg) = z := ⟨_, rfl⟩
              refine tw_ri (e2 := x3) ex3 ?_
              refine tw_wv (wr := [(mh, .inr (5, [.ref s0, .ref l0, .ref t0, lay, .int (nI de), .int (nI ms), .int (nI ml), .int (nI mt), .int an, .int oa, .int wd])), (s0, aI g 64 sk), (l0, aI g 64 lc), (t0, aI g 600 lt)]) (tw_runS (ws := [(mh, .inr (5, [.ref s0, .ref l0, .ref t0, lay, .int (nI de), .int (nI ms), .int (nI ml), .int (nI mt), .int an, .int oa, .int wd])), (s0, aI g 64 sk), (l0, aI g 64 lc), (t0, aI g 600 lt), (ra, aJ g 8 f8)]) (wc := [(ra, aJ g 8 f8)]) (As := [.ref ra, .int 0, .int (nI (64 + j)), .int x3]) (rest := []) E hB hK hZ (s_Frames_setKindX l g H.size ra 8 f8 0 (64 + j) x3 (by omega) (by omega) (by decide)) mc_Frames_setKindIn ms_Frames_setKindIn wd_794 hP hD hS hA [4] rfl (by decide) rfl rfl (by decide) rfl hl.1 rfl (Nat.le_of_ble_eq_true rfl) (by decide) d_Frames_lay_55) hP hD hS hA [4] [0, 1, 2, 3] rfl rfl (by decide) (by decide) (fun u5 H locs hr4 hP hD hS => ?_)
              try dsimp only at hr4
              have hP : va_P g.1 classes [(mh, .inr (5, [.ref s0, .ref l0, .ref t0, lay, .int (nI de), .int (nI ms), .int (nI ml), .int (nI mt), .int an, .int oa, .int wd])), (s0, aI g 64 sk), (l0, aI g 64 lc), (t0, aI g 600 lt), (ra, aJ g 8 u5)] H := hP
              have hD : va_D A [(mh, .inr (5, [.ref s0, .ref l0, .ref t0, lay, .int (nI de), .int (nI ms), .int (nI ml), .int (nI mt), .int an, .int oa, .int wd])), (s0, aI g 64 sk), (l0, aI g 64 lc), (t0, aI g 600 lt), (ra, aJ g 8 u5)] := hD
              have hP : va_P g.1 classes [(mh, .inr (5, [.ref s0, .ref l0, .ref t0, lay, .int (nI de), .int (nI ms), .int (nI ml), .int (nI mt), .int an, .int oa, .int wd])), (s0, aI g 64 sk), (l0, aI g 64 lc), (t0, aI g 600 lt), (ra, aJ g 8 u5)] H := hP.sub [0, 1, 2, 3, 4] rfl
              have hD : va_D A [(mh, .inr (5, [.ref s0, .ref l0, .ref t0, lay, .int (nI de), .int (nI ms), .int (nI ml), .int (nI mt), .int an, .int oa, .int wd])), (s0, aI g 64 sk), (l0, aI g 64 lc), (t0, aI g 600 lt), (ra, aJ g 8 u5)] := hD.sub [0, 1, 2, 3, 4] (by decide) rfl
              have hg55 : ¬ u5 0 &&& 15 = 3 := by rw [hr4 0 (by omega)]; exact hf8
              refine lv_iinc (k := 0) (v := nI (j + 1)) hx hb d_Frames_lay_58 hl rfl ((nI_succ j).symm) (by decide) rfl (fun ls hl => ?_)
              have hl : lv_has ls 3 [(2, .int (nI (j + 1))), (0, .ref mh), (1, .ref ra)] := hl
              refine lv_goto (tgt := 35) hx hb d_Frames_lay_61 (by decide) ?_
              have hP : va_P g.1 classes [(mh, .inr (5, [.ref s0, .ref l0, .ref t0, lay, .int (nI de), .int (nI ms), .int (nI ml), .int (nI mt), .int an, .int oa, .int wd])), (s0, aI g 64 sk), (l0, aI g 64 lc), (t0, aI g 600 lt), (ra, aJ g 8 u5)] H := hP.sub [0, 1, 2, 3, 4] rfl
              have hD : va_D A [(mh, .inr (5, [.ref s0, .ref l0, .ref t0, lay, .int (nI de), .int (nI ms), .int (nI ml), .int (nI mt), .int an, .int oa, .int wd])), (s0, aI g 64 sk), (l0, aI g 64 lc), (t0, aI g 600 lt), (ra, aJ g 8 u5)] := hD.sub [0, 1, 2, 3, 4] (by decide) rfl
              exact ih35 _ (by omega) (j + 1) u5 ls _ _ rfl (by omega) hg55 (lv_sub hl [0, 1, 2] rfl) hP hD hS
        exact loop35 _ 0 f9 ls _ _ rfl (Nat.zero_le _) hf9 (hl) hP hD hS
      · have h12 := tn_nle h12 (by have := hM.de; omega) (by have := hM.de; omega)
        have hde := hM.de
        obtain ⟨kd, hkd, ek, hk0⟩ := hM.kind (i := i) (by omega)
        refine lv_aload_n hx hb d_Frames_lay_15 rfl (lv_at hl 2 rfl) ?_
        refine lv_iconst (v := 0) hx hb d_Frames_lay_16 (by decide) ?_
        refine lv_iload_n hx hb d_Frames_lay_17 rfl (lv_at hl 0 rfl) ?_
        refine lv_aload_n hx hb d_Frames_lay_18 rfl (lv_at hl 1 rfl) ?_
        refine va_getN (D := g.1) (ci := 5) (v := .ref s0) (C := R_Machine) (T := F_Machine) (N := 11) hx hb hts in_Machine hown hK hP 0 rfl rfl 0 (by decide) (hts _ wd_143) (fun _ h9 => h9) rfl d_Frames_lay_19 ?_
        refine lv_iload_n hx hb d_Frames_lay_22 rfl (lv_at hl 0 rfl) ?_
        refine va_iald hx hb hK hP 1 0 rfl rfl (vp_in_nI (by have := hM.de; omega) (by decide)) d_Frames_lay_23 ?_
        refine tw_ri (e2 := nI kd) (by rw [nI_clamp (by have := hM.de; omega)]; exact ek) ?_
        refine tw_wv (wr := [(mh, .inr (5, [.ref s0, .ref l0, .ref t0, lay, .int (nI de), .int (nI ms), .int (nI ml), .int (nI mt), .int an, .int oa, .int wd])), (s0, aI g 64 sk), (l0, aI g 64 lc), (t0, aI g 600 lt)]) (tw_runS (ws := [(mh, .inr (5, [.ref s0, .ref l0, .ref t0, lay, .int (nI de), .int (nI ms), .int (nI ml), .int (nI mt), .int an, .int oa, .int wd])), (s0, aI g 64 sk), (l0, aI g 64 lc), (t0, aI g 600 lt), (ra, aJ g 8 f9)]) (wc := [(ra, aJ g 8 f9)]) (As := [.ref ra, .int 0, .int (nI i), .int (nI kd)]) (rest := []) E hB hK hZ (s_Frames_setKindIn l g H.size ra 8 f9 0 i kd (by omega) (by omega) (by decide) hkd) mc_Frames_setKindIn ms_Frames_setKindIn wd_794 hP hD hS hA [4] rfl (by decide) rfl rfl (by decide) rfl hl.1 rfl (Nat.le_of_ble_eq_true rfl) (by decide) d_Frames_lay_24) hP hD hS hA [4] [0, 1, 2, 3] rfl rfl (by decide) (by decide) (fun u7 H locs hr6 hP hD hS => ?_)
        try dsimp only at hr6
        have hP : va_P g.1 classes [(mh, .inr (5, [.ref s0, .ref l0, .ref t0, lay, .int (nI de), .int (nI ms), .int (nI ml), .int (nI mt), .int an, .int oa, .int wd])), (s0, aI g 64 sk), (l0, aI g 64 lc), (t0, aI g 600 lt), (ra, aJ g 8 u7)] H := hP
        have hD : va_D A [(mh, .inr (5, [.ref s0, .ref l0, .ref t0, lay, .int (nI de), .int (nI ms), .int (nI ml), .int (nI mt), .int an, .int oa, .int wd])), (s0, aI g 64 sk), (l0, aI g 64 lc), (t0, aI g 600 lt), (ra, aJ g 8 u7)] := hD
        have hP : va_P g.1 classes [(mh, .inr (5, [.ref s0, .ref l0, .ref t0, lay, .int (nI de), .int (nI ms), .int (nI ml), .int (nI mt), .int an, .int oa, .int wd])), (s0, aI g 64 sk), (l0, aI g 64 lc), (t0, aI g 600 lt), (ra, aJ g 8 u7)] H := hP.sub [0, 1, 2, 3, 4] rfl
        have hD : va_D A [(mh, .inr (5, [.ref s0, .ref l0, .ref t0, lay, .int (nI de), .int (nI ms), .int (nI ml), .int (nI mt), .int an, .int oa, .int wd])), (s0, aI g 64 sk), (l0, aI g 64 lc), (t0, aI g 600 lt), (ra, aJ g 8 u7)] := hD.sub [0, 1, 2, 3, 4] (by decide) rfl
        have hg24 := KS.row hr6 hf9 hk0
        refine lv_iinc (k := 0) (v := nI (i + 1)) hx hb d_Frames_lay_27 hl rfl ((nI_succ i).symm) (by decide) rfl (fun ls hl => ?_)
        have hl : lv_has ls 3 [(2, .int (nI (i + 1))), (0, .ref mh), (1, .ref ra)] := hl
        refine lv_goto (tgt := 7) hx hb d_Frames_lay_30 (by decide) ?_
        have hP : va_P g.1 classes [(mh, .inr (5, [.ref s0, .ref l0, .ref t0, lay, .int (nI de), .int (nI ms), .int (nI ml), .int (nI mt), .int an, .int oa, .int wd])), (s0, aI g 64 sk), (l0, aI g 64 lc), (t0, aI g 600 lt), (ra, aJ g 8 u7)] H := hP.sub [0, 1, 2, 3, 4] rfl
        have hD : va_D A [(mh, .inr (5, [.ref s0, .ref l0, .ref t0, lay, .int (nI de), .int (nI ms), .int (nI ml), .int (nI mt), .int an, .int oa, .int wd])), (s0, aI g 64 sk), (l0, aI g 64 lc), (t0, aI g 600 lt), (ra, aJ g 8 u7)] := hD.sub [0, 1, 2, 3, 4] (by decide) rfl
        exact ih _ (by omega) (i + 1) u7 ls _ _ rfl (by omega) hg24 (lv_sub hl [0, 1, 2] rfl) hP hD hS
  exact loop7 _ 0 u2 ls _ _ rfl (Nat.zero_le _) hf0 (hl) hP hD hS
end
section
theorem d_Layout_letterOf_0 : decode b_Layout_letterOf 0 = .ok (.iload_n 1, 1) := by decide +kernel
theorem d_Layout_letterOf_1 : decode b_Layout_letterOf 1 = .ok (.ifCond .eq 16, 3) := by decide +kernel
theorem d_Layout_letterOf_4 : decode b_Layout_letterOf 4 = .ok (.iload_n 2, 1) := by decide +kernel
theorem d_Layout_letterOf_5 : decode b_Layout_letterOf 5 = .ok (.ifCond .lt 12, 3) := by decide +kernel
theorem d_Layout_letterOf_8 : decode b_Layout_letterOf 8 = .ok (.iload_n 2, 1) := by decide +kernel
theorem d_Layout_letterOf_9 : decode b_Layout_letterOf 9 = .ok (.aload_n 0, 1) := by decide +kernel
theorem d_Layout_letterOf_10 : decode b_Layout_letterOf 10 = .ok (.iload_n 1, 1) := by decide +kernel
theorem d_Layout_letterOf_11 : decode b_Layout_letterOf 11 = .ok (.invokevirtual 80, 3) := by decide +kernel
theorem d_Layout_letterOf_14 : decode b_Layout_letterOf 14 = .ok (.if_icmp .lt 6, 3) := by decide +kernel
theorem d_Layout_letterOf_17 : decode b_Layout_letterOf 17 = .ok (.bipush 32, 2) := by decide +kernel
theorem d_Layout_letterOf_19 : decode b_Layout_letterOf 19 = .ok (.ireturn, 1) := by decide +kernel
theorem d_Layout_letterOf_20 : decode b_Layout_letterOf 20 = .ok (.aload_n 0, 1) := by decide +kernel
theorem d_Layout_letterOf_21 : decode b_Layout_letterOf 21 = .ok (.getfield 12, 3) := by decide +kernel
theorem d_Layout_letterOf_24 : decode b_Layout_letterOf 24 = .ok (.aload_n 0, 1) := by decide +kernel
theorem d_Layout_letterOf_25 : decode b_Layout_letterOf 25 = .ok (.iload_n 1, 1) := by decide +kernel
theorem d_Layout_letterOf_26 : decode b_Layout_letterOf 26 = .ok (.invokevirtual 115, 3) := by decide +kernel
theorem d_Layout_letterOf_29 : decode b_Layout_letterOf 29 = .ok (.iload_n 2, 1) := by decide +kernel
theorem d_Layout_letterOf_30 : decode b_Layout_letterOf 30 = .ok (.iadd, 1) := by decide +kernel
theorem d_Layout_letterOf_31 : decode b_Layout_letterOf 31 = .ok (.invokevirtual 118, 3) := by decide +kernel
theorem d_Layout_letterOf_34 : decode b_Layout_letterOf 34 = .ok (.i2c, 1) := by decide +kernel
theorem d_Layout_letterOf_35 : decode b_Layout_letterOf 35 = .ok (.ireturn, 1) := by decide +kernel
end
section
set_option maxHeartbeats 4000000 in
set_option maxRecDepth 100000 in
theorem s_Layout_letterOf (l : Launch) (g : tw_G) (sz : Nat) (h0 : Nat) (w : Nat → Nat) (v : LY) (k : Int32) (i : Int32) (hI : LI v) : Met l y_Layout_letterOf [.code y_Layout_letterOf b_Layout_letterOf 3 (some .char)] ({ frames := 2, cells := 0, slots := 0, locals := 42 }) (tw_P g [.ref h0, .int k, .int i] [(h0, .inr (3, [.ref (w 0), .ref (w 2), .ref (w 7), .ref (w 8), .ref (w 9), .ref (w 10), .ref (w 11), .ref (w 12), .ref (w 13), .int v.nu, .int v.th, .int v.it, .int (nI v.fi), .int (nI v.me), .int v.mp])), ((w 0), .inr (2, [.ref (w 1), .int (nI v.n)])), ((w 1), aB g 600 v.b), ((w 2), .inr (1, [.ref (w 3), .ref (w 4), .ref (w 5), .ref (w 6), .int (nI v.lo)])), ((w 3), aJ g 4800 v.rw), ((w 4), aB g 600 v.bg), ((w 5), aB g 600 v.wt), ((w 6), aB g 600 v.dp), ((w 7), aI g 200 v.tg), ((w 8), aI g 200 v.ca), ((w 9), aI g 200 v.fs), ((w 10), aI g 200 v.sc), ((w 11), aI g 75 v.fa), ((w 12), aI g 75 v.ma), ((w 13), aI g 75 v.co)] sz) (vp_Si (fun r => narrow .char (.int r) = .int r)) 0 0 (fun _ => False) := by
  refine tw_met (l := l) (g := g) (y := y_Layout_letterOf) (cc := b_Layout_letterOf) (maxL := 3) (ret := (some .char)) (rm := { frames := 2, cells := 0, slots := 0, locals := 42 }) (mc := 0) (ms := 0) (av := [.ref h0, .int k, .int i]) (ws := [(h0, .inr (3, [.ref (w 0), .ref (w 2), .ref (w 7), .ref (w 8), .ref (w 9), .ref (w 10), .ref (w 11), .ref (w 12), .ref (w 13), .int v.nu, .int v.th, .int v.it, .int (nI v.fi), .int (nI v.me), .int v.mp])), ((w 0), .inr (2, [.ref (w 1), .int (nI v.n)])), ((w 1), aB g 600 v.b), ((w 2), .inr (1, [.ref (w 3), .ref (w 4), .ref (w 5), .ref (w 6), .int (nI v.lo)])), ((w 3), aJ g 4800 v.rw), ((w 4), aB g 600 v.bg), ((w 5), aB g 600 v.wt), ((w 6), aB g 600 v.dp), ((w 7), aI g 200 v.tg), ((w 8), aI g 200 v.ca), ((w 9), aI g 200 v.fs), ((w 10), aI g 200 v.sc), ((w 11), aI g 75 v.fa), ((w 12), aI g 75 v.ma), ((w 13), aI g 75 v.co)]) (sz := sz) (Qc := fun _ => (vp_Si (fun r => narrow .char (.int r) = .int r))) (free := fun _ _ => False) (by decide) (Nat.le_of_ble_eq_true rfl) ?_
  intro p e s m below meth c ls A E hB hK hZ hP hD hS hA hl
  obtain ⟨hx, hb, hml, hr, hown, hts, hlocks, hin⟩ := id E
  have hl : lv_has ls 3 [(0, .ref h0), (1, .int k), (2, .int i)] := hl
  refine lv_iload_n hx hb d_Layout_letterOf_0 rfl (lv_at hl 1 rfl) ?_
  refine lv_if_eq (tgt := 17) hx hb d_Layout_letterOf_1 (by decide) (fun h1 => ?_) (fun h1 => ?_)
  · refine lv_bipush (v := 32) hx hb d_Layout_letterOf_17 (by decide) ?_
    exact tw_zsret E (by decide) (by decide) d_Layout_letterOf_19
  · refine lv_iload_n hx hb d_Layout_letterOf_4 rfl (lv_at hl 2 rfl) ?_
    refine lv_if_lt (tgt := 17) hx hb d_Layout_letterOf_5 (by decide) (fun h5 => ?_) (fun h5 => ?_)
    · refine lv_bipush (v := 32) hx hb d_Layout_letterOf_17 (by decide) ?_
      exact tw_zsret E (by decide) (by decide) d_Layout_letterOf_19
    · refine lv_iload_n hx hb d_Layout_letterOf_8 rfl (lv_at hl 2 rfl) ?_
      refine lv_aload_n hx hb d_Layout_letterOf_9 rfl (lv_at hl 0 rfl) ?_
      refine lv_iload_n hx hb d_Layout_letterOf_10 rfl (lv_at hl 1 rfl) ?_
      refine tw_si (tw_runV (ws := [(h0, .inr (3, [.ref (w 0), .ref (w 2), .ref (w 7), .ref (w 8), .ref (w 9), .ref (w 10), .ref (w 11), .ref (w 12), .ref (w 13), .int v.nu, .int v.th, .int v.it, .int (nI v.fi), .int (nI v.me), .int v.mp])), ((w 0), .inr (2, [.ref (w 1), .int (nI v.n)])), ((w 1), aB g 600 v.b), ((w 2), .inr (1, [.ref (w 3), .ref (w 4), .ref (w 5), .ref (w 6), .int (nI v.lo)])), ((w 3), aJ g 4800 v.rw), ((w 4), aB g 600 v.bg), ((w 5), aB g 600 v.wt), ((w 6), aB g 600 v.dp), ((w 7), aI g 200 v.tg), ((w 8), aI g 200 v.ca), ((w 9), aI g 200 v.fs), ((w 10), aI g 200 v.sc), ((w 11), aI g 75 v.fa), ((w 12), aI g 75 v.ma), ((w 13), aI g 75 v.co)]) (wc := [(h0, .inr (3, [.ref (w 0), .ref (w 2), .ref (w 7), .ref (w 8), .ref (w 9), .ref (w 10), .ref (w 11), .ref (w 12), .ref (w 13), .int v.nu, .int v.th, .int v.it, .int (nI v.fi), .int (nI v.me), .int v.mp])), ((w 0), .inr (2, [.ref (w 1), .int (nI v.n)])), ((w 1), aB g 600 v.b), ((w 2), .inr (1, [.ref (w 3), .ref (w 4), .ref (w 5), .ref (w 6), .int (nI v.lo)])), ((w 3), aJ g 4800 v.rw), ((w 4), aB g 600 v.bg), ((w 5), aB g 600 v.wt), ((w 6), aB g 600 v.dp), ((w 7), aI g 200 v.tg), ((w 8), aI g 200 v.ca), ((w 9), aI g 200 v.fs), ((w 10), aI g 200 v.sc), ((w 11), aI g 75 v.fa), ((w 12), aI g 75 v.ma), ((w 13), aI g 75 v.co)]) (As := [.int k]) (rest := [.int i]) E hB hK hZ (s_Layout_firstOf l g s.heap.size h0 w v k hI) mc_Layout_firstOf mi_Layout_firstOf me_Layout_firstOf wd_459 hP hD hS hA [0, 1, 2, 3, 4, 5, 6, 7, 8, 9, 10, 11, 12, 13, 14] rfl (by decide) 0 rfl rfl rfl rfl rfl (by decide) rfl hl.1 rfl (Nat.le_of_ble_eq_true rfl) (by decide) d_Layout_letterOf_11) (fun r1 hr1 => ?_)
      refine lv_icmp_lt (tgt := 20) hx hb d_Layout_letterOf_14 (by decide) (fun h14 => ?_) (fun h14 => ?_)
      · refine lv_aload_n hx hb d_Layout_letterOf_20 rfl (lv_at hl 0 rfl) ?_
        refine va_get (D := g.1) (ci := 3) (v := .ref (w 0)) (C := R_Layout) (T := F_Layout) (N := 15) hx hb hts in_Layout hown hK hP 0 rfl rfl 0 (by decide) (hts _ wd_241) (fun _ h9 => h9) rfl d_Layout_letterOf_21 ?_
        refine lv_aload_n hx hb d_Layout_letterOf_24 rfl (lv_at hl 0 rfl) ?_
        refine lv_iload_n hx hb d_Layout_letterOf_25 rfl (lv_at hl 1 rfl) ?_
        refine tw_si (tw_runV (ws := [(h0, .inr (3, [.ref (w 0), .ref (w 2), .ref (w 7), .ref (w 8), .ref (w 9), .ref (w 10), .ref (w 11), .ref (w 12), .ref (w 13), .int v.nu, .int v.th, .int v.it, .int (nI v.fi), .int (nI v.me), .int v.mp])), ((w 0), .inr (2, [.ref (w 1), .int (nI v.n)])), ((w 1), aB g 600 v.b), ((w 2), .inr (1, [.ref (w 3), .ref (w 4), .ref (w 5), .ref (w 6), .int (nI v.lo)])), ((w 3), aJ g 4800 v.rw), ((w 4), aB g 600 v.bg), ((w 5), aB g 600 v.wt), ((w 6), aB g 600 v.dp), ((w 7), aI g 200 v.tg), ((w 8), aI g 200 v.ca), ((w 9), aI g 200 v.fs), ((w 10), aI g 200 v.sc), ((w 11), aI g 75 v.fa), ((w 12), aI g 75 v.ma), ((w 13), aI g 75 v.co)]) (wc := [(h0, .inr (3, [.ref (w 0), .ref (w 2), .ref (w 7), .ref (w 8), .ref (w 9), .ref (w 10), .ref (w 11), .ref (w 12), .ref (w 13), .int v.nu, .int v.th, .int v.it, .int (nI v.fi), .int (nI v.me), .int v.mp])), ((w 0), .inr (2, [.ref (w 1), .int (nI v.n)])), ((w 1), aB g 600 v.b), ((w 2), .inr (1, [.ref (w 3), .ref (w 4), .ref (w 5), .ref (w 6), .int (nI v.lo)])), ((w 3), aJ g 4800 v.rw), ((w 4), aB g 600 v.bg), ((w 5), aB g 600 v.wt), ((w 6), aB g 600 v.dp), ((w 7), aI g 200 v.tg), ((w 8), aI g 200 v.ca), ((w 9), aI g 200 v.fs), ((w 10), aI g 200 v.sc), ((w 11), aI g 75 v.fa), ((w 12), aI g 75 v.ma), ((w 13), aI g 75 v.co)]) (As := [.int k]) (rest := [.ref (w 0)]) E hB hK hZ (s_Layout_textFrom l g s.heap.size h0 w v k hI) mc_Layout_textFrom mi_Layout_textFrom me_Layout_textFrom wd_642 hP hD hS hA [0, 1, 2, 3, 4, 5, 6, 7, 8, 9, 10, 11, 12, 13, 14] rfl (by decide) 0 rfl rfl rfl rfl rfl (by decide) rfl hl.1 rfl (Nat.le_of_ble_eq_true rfl) (by decide) d_Layout_letterOf_26) (fun r2 hr2 => ?_)
        refine lv_iload_n hx hb d_Layout_letterOf_29 rfl (lv_at hl 2 rfl) ?_
        refine lv_iadd hx hb d_Layout_letterOf_30 ?_
        obtain ⟨x3, ex3⟩ : ∃ z : Int32, r2 + i = z := ⟨_, rfl⟩
        refine tw_ri (e2 := x3) ex3 ?_
        refine tw_si (tw_runV (ws := [(h0, .inr (3, [.ref (w 0), .ref (w 2), .ref (w 7), .ref (w 8), .ref (w 9), .ref (w 10), .ref (w 11), .ref (w 12), .ref (w 13), .int v.nu, .int v.th, .int v.it, .int (nI v.fi), .int (nI v.me), .int v.mp])), ((w 0), .inr (2, [.ref (w 1), .int (nI v.n)])), ((w 1), aB g 600 v.b), ((w 2), .inr (1, [.ref (w 3), .ref (w 4), .ref (w 5), .ref (w 6), .int (nI v.lo)])), ((w 3), aJ g 4800 v.rw), ((w 4), aB g 600 v.bg), ((w 5), aB g 600 v.wt), ((w 6), aB g 600 v.dp), ((w 7), aI g 200 v.tg), ((w 8), aI g 200 v.ca), ((w 9), aI g 200 v.fs), ((w 10), aI g 200 v.sc), ((w 11), aI g 75 v.fa), ((w 12), aI g 75 v.ma), ((w 13), aI g 75 v.co)]) (wc := [((w 0), .inr (2, [.ref (w 1), .int (nI v.n)])), ((w 1), aB g 600 v.b)]) (As := [.int x3]) (rest := []) E hB hK hZ (c_Image_oneAt l g s.heap.size (w 0) (w 1) v.n v.b x3 hI.n) mc_Image_oneAt mi_Image_oneAt me_Image_oneAt wd_473 hP hD hS hA [1, 2] rfl (by decide) 0 rfl rfl rfl rfl rfl (by decide) rfl hl.1 rfl (Nat.le_of_ble_eq_true rfl) (by decide) d_Layout_letterOf_31) (fun r4 hr4 => ?_)
        refine lv_i2c (v := (r4.toUInt32 % 65536).toInt32) hx hb d_Layout_letterOf_34 rfl ?_
        exact tw_zsret E (tn_char _) (tn_char _) d_Layout_letterOf_35
      · refine lv_bipush (v := 32) hx hb d_Layout_letterOf_17 (by decide) ?_
        exact tw_zsret E (by decide) (by decide) d_Layout_letterOf_19
end
section

end
section
set_option maxHeartbeats 4000000 in
set_option maxRecDepth 100000 in
theorem e_Opcodes_isWithin (l : Launch) (g : tw_G) (sz : Nat) (a b d : Int32) : Met l y_Opcodes_isWithin [.code y_Opcodes_isWithin b_Opcodes_isWithin 3 (some .boolean)] ({ frames := 0, cells := 0, slots := 0, locals := 0 }) (tw_P g [.int a, .int b, .int d] [] sz) (vp_Si (fun r => r = if b ≤ a ∧ a ≤ d then 1 else 0)) 0 0 (fun _ => False) := by
  refine tw_met (l := l) (g := g) (y := y_Opcodes_isWithin) (cc := b_Opcodes_isWithin) (maxL := 3) (ret := (some .boolean)) (rm := { frames := 0, cells := 0, slots := 0, locals := 0 }) (mc := 0) (ms := 0) (av := [.int a, .int b, .int d]) (ws := []) (sz := sz) (Qc := fun _ => (vp_Si (fun r => r = if b ≤ a ∧ a ≤ d then 1 else 0))) (free := fun _ _ => False) (by decide) (Nat.le_of_ble_eq_true rfl) ?_
  intro p e s m below meth c ls A E hB hK hZ hP hD hS hA hl
  obtain ⟨hx, hb, hml, hr, hown, hts, hlocks, hin⟩ := id E
  have hl : lv_has ls 3 [(0, .int a), (1, .int b), (2, .int d)] := hl
  refine lv_iload_n hx hb d_Opcodes_isWithin_0 rfl (lv_at hl 0 rfl) ?_
  refine lv_iload_n hx hb d_Opcodes_isWithin_1 rfl (lv_at hl 1 rfl) ?_
  refine lv_icmp_lt (tgt := 14) hx hb d_Opcodes_isWithin_2 (by decide) (fun h2 => ?_) (fun h2 => ?_)
  · refine lv_iconst (v := 0) hx hb d_Opcodes_isWithin_14 (by decide) ?_
    exact tw_zsret E (by decide) ((if_neg (fun q => by first | exact absurd q.1 (Int32.not_le.mpr h2) | exact absurd q.2 (Int32.not_le.mpr h7) | exact absurd q.2 h7)).symm) d_Opcodes_isWithin_15
  · refine lv_iload_n hx hb d_Opcodes_isWithin_5 rfl (lv_at hl 0 rfl) ?_
    refine lv_iload_n hx hb d_Opcodes_isWithin_6 rfl (lv_at hl 2 rfl) ?_
    refine lv_icmp_gt (tgt := 14) hx hb d_Opcodes_isWithin_7 (by decide) (fun h7 => ?_) (fun h7 => ?_)
    · refine lv_iconst (v := 0) hx hb d_Opcodes_isWithin_14 (by decide) ?_
      exact tw_zsret E (by decide) ((if_neg (fun q => by first | exact absurd q.1 (Int32.not_le.mpr h2) | exact absurd q.2 (Int32.not_le.mpr h7) | exact absurd q.2 h7)).symm) d_Opcodes_isWithin_15
    · refine lv_iconst (v := 1) hx hb d_Opcodes_isWithin_10 (by decide) ?_
      refine lv_goto (tgt := 15) hx hb d_Opcodes_isWithin_11 (by decide) ?_
      exact tw_zsret E (by decide) ((if_pos ⟨Int32.not_lt.mp h2, by first | exact Int32.not_lt.mp h7 | exact h7⟩).symm) d_Opcodes_isWithin_15
set_option maxHeartbeats 4000000 in
set_option maxRecDepth 100000 in
theorem z_Opcodes_isAlone (l : Launch) (g : tw_G) (sz : Nat)  : Met l y_Opcodes_isAlone [.code y_Opcodes_isAlone b_Opcodes_isAlone 1 (some .boolean)] ({ frames := 1, cells := 0, slots := 0, locals := 22 }) (tw_P g [.int 0] [] sz) (vp_Si (fun r => r = 1)) 0 0 (fun _ => False) := by
  refine tw_met (l := l) (g := g) (y := y_Opcodes_isAlone) (cc := b_Opcodes_isAlone) (maxL := 1) (ret := (some .boolean)) (rm := { frames := 1, cells := 0, slots := 0, locals := 22 }) (mc := 0) (ms := 0) (av := [.int 0]) (ws := []) (sz := sz) (Qc := fun _ => (vp_Si (fun r => r = 1))) (free := fun _ _ => False) (by decide) (Nat.le_of_ble_eq_true rfl) ?_
  intro p e s m below meth c ls A E hB hK hZ hP hD hS hA hl
  obtain ⟨hx, hb, hml, hr, hown, hts, hlocks, hin⟩ := id E
  have hl : lv_has ls 1 [(0, .int 0)] := hl
  refine lv_iload_n hx hb d_Opcodes_isAlone_0 rfl (lv_at hl 0 rfl) ?_
  refine lv_lookup (tgt := 94) (off := 93) hx hb d_Opcodes_isAlone_1 (by decide) (by decide) (by decide) ?_
  refine lv_iload_n hx hb d_Opcodes_isAlone_94 rfl (lv_at hl 0 rfl) ?_
  refine lv_iconst (v := 0) hx hb d_Opcodes_isAlone_95 (by decide) ?_
  refine lv_bipush (v := 10) hx hb d_Opcodes_isAlone_96 (by decide) ?_
  refine tw_si (tw_runS (ws := []) (wc := []) (As := [.int 0, .int 0, .int 10]) (rest := []) E hB hK hZ (e_Opcodes_isWithin l g s.heap.size 0 0 10) mc_Opcodes_isWithin ms_Opcodes_isWithin wd_719 hP hD hS hA [] rfl (by decide) rfl rfl (by decide) rfl hl.1 rfl (Nat.le_of_ble_eq_true rfl) (by decide) d_Opcodes_isAlone_98) (fun r1 hr1 => ?_)
  obtain rfl : r1 = 1 := hr1.trans (by decide)
  refine lv_if_ne (tgt := 179) hx hb d_Opcodes_isAlone_101 (by decide) (fun h101 => ?_) (fun h101 => ?_)
  · refine lv_iconst (v := 1) hx hb d_Opcodes_isAlone_179 (by decide) ?_
    refine lv_goto (tgt := 184) hx hb d_Opcodes_isAlone_180 (by decide) ?_
    exact tw_zsret E (by decide) rfl d_Opcodes_isAlone_184
  · first | exact absurd h101 (by decide) | exact absurd (by decide) h101
set_option maxHeartbeats 4000000 in
set_option maxRecDepth 100000 in
theorem z_Opcodes_lengthOf (l : Launch) (g : tw_G) (sz : Nat)  : Met l y_Opcodes_lengthOf [.code y_Opcodes_lengthOf b_Opcodes_lengthOf 1 (some .int)] ({ frames := 2, cells := 0, slots := 0, locals := 42 }) (tw_P g [.int 0] [] sz) (vp_Si (fun r => r = 1)) 0 0 (fun _ => False) := by
  refine tw_met (l := l) (g := g) (y := y_Opcodes_lengthOf) (cc := b_Opcodes_lengthOf) (maxL := 1) (ret := (some .int)) (rm := { frames := 2, cells := 0, slots := 0, locals := 42 }) (mc := 0) (ms := 0) (av := [.int 0]) (ws := []) (sz := sz) (Qc := fun _ => (vp_Si (fun r => r = 1))) (free := fun _ _ => False) (by decide) (Nat.le_of_ble_eq_true rfl) ?_
  intro p e s m below meth c ls A E hB hK hZ hP hD hS hA hl
  obtain ⟨hx, hb, hml, hr, hown, hts, hlocks, hin⟩ := id E
  have hl : lv_has ls 1 [(0, .int 0)] := hl
  refine lv_iload_n hx hb d_Opcodes_lengthOf_0 rfl (lv_at hl 0 rfl) ?_
  refine lv_lookup (tgt := 144) (off := 143) hx hb d_Opcodes_lengthOf_1 (by decide) (by decide) (by decide) ?_
  refine lv_iload_n hx hb d_Opcodes_lengthOf_144 rfl (lv_at hl 0 rfl) ?_
  refine lv_sipush (v := 153) hx hb d_Opcodes_lengthOf_145 (by decide) ?_
  refine lv_sipush (v := 167) hx hb d_Opcodes_lengthOf_148 (by decide) ?_
  refine tw_si (tw_runS (ws := []) (wc := []) (As := [.int 0, .int 153, .int 167]) (rest := []) E hB hK hZ (e_Opcodes_isWithin l g s.heap.size 0 153 167) mc_Opcodes_isWithin ms_Opcodes_isWithin wd_719 hP hD hS hA [] rfl (by decide) rfl rfl (by decide) rfl hl.1 rfl (Nat.le_of_ble_eq_true rfl) (by decide) d_Opcodes_lengthOf_151) (fun r1 hr1 => ?_)
  obtain rfl : r1 = 0 := hr1.trans (by decide)
  refine lv_if_ne (tgt := 170) hx hb d_Opcodes_lengthOf_154 (by decide) (fun h154 => ?_) (fun h154 => ?_)
  · first | exact absurd h154 (by decide) | exact absurd (by decide) h154
  · refine lv_iload_n hx hb d_Opcodes_lengthOf_157 rfl (lv_at hl 0 rfl) ?_
    refine lv_sipush (v := 178) hx hb d_Opcodes_lengthOf_158 (by decide) ?_
    refine lv_sipush (v := 184) hx hb d_Opcodes_lengthOf_161 (by decide) ?_
    refine tw_si (tw_runS (ws := []) (wc := []) (As := [.int 0, .int 178, .int 184]) (rest := []) E hB hK hZ (e_Opcodes_isWithin l g s.heap.size 0 178 184) mc_Opcodes_isWithin ms_Opcodes_isWithin wd_719 hP hD hS hA [] rfl (by decide) rfl rfl (by decide) rfl hl.1 rfl (Nat.le_of_ble_eq_true rfl) (by decide) d_Opcodes_lengthOf_164) (fun r2 hr2 => ?_)
    obtain rfl : r2 = 0 := hr2.trans (by decide)
    refine lv_if_eq (tgt := 172) hx hb d_Opcodes_lengthOf_167 (by decide) (fun h167 => ?_) (fun h167 => ?_)
    · refine lv_iload_n hx hb d_Opcodes_lengthOf_172 rfl (lv_at hl 0 rfl) ?_
      refine tw_si (tw_runS (ws := []) (wc := []) (As := [.int 0]) (rest := []) E hB hK hZ (z_Opcodes_isAlone l g s.heap.size ) mc_Opcodes_isAlone ms_Opcodes_isAlone wd_722 hP hD hS hA [] rfl (by decide) rfl rfl (by decide) rfl hl.1 rfl (Nat.le_of_ble_eq_true rfl) (by decide) d_Opcodes_lengthOf_173) (fun r3 hr3 => ?_)
      obtain rfl : r3 = 1 := hr3
      refine lv_if_eq (tgt := 183) hx hb d_Opcodes_lengthOf_176 (by decide) (fun h176 => ?_) (fun h176 => ?_)
      · first | exact absurd h176 (by decide) | exact absurd (by decide) h176
      · refine lv_iconst (v := 1) hx hb d_Opcodes_lengthOf_179 (by decide) ?_
        refine lv_goto (tgt := 184) hx hb d_Opcodes_lengthOf_180 (by decide) ?_
        exact tw_isret E rfl d_Opcodes_lengthOf_184
    · first | exact absurd h167 (by decide) | exact absurd (by decide) h167
end
section
theorem sf_img {f : Nat → Int32} {n : Nat} {k r : Int32} (h : r = im_b f n k) (hz : ¬ r = 0) (hn : n ≤ 600) : ∃ j, j < 600 ∧ k = nI j := by
  by_cases h1 : k < 0
  · exact absurd (h.trans (im_b0 h1)) hz
  · by_cases h2 : nI n ≤ k
    · exact absurd (h.trans (im_b1 h2)) hz
    · obtain ⟨j, hj, rfl⟩ := nI_of h1
      exact ⟨j, by have := tn_nle h2 (by omega) hj; omega, rfl⟩
theorem ims_step {k e d x : Int32} (h : ¬ e ≤ k) (hk : ∃ j, j < 600 ∧ k = nI j) (hd : d = 1 ∨ d = 2 ∨ d = 3) (hx : k + d = x) : ims x e < ims k e := by
  obtain ⟨j, hj, rfl⟩ := hk
  have h := Int32.not_le.mp h
  rw [Int32.lt_iff_toInt_lt] at h
  have e1 : (nI j).toInt = (j : Int) := by
    exact nI_toInt (by omega)
  have e2 : ∃ m : Nat, 1 ≤ m ∧ m ≤ 3 ∧ d = nI m := by
    rcases hd with rfl | rfl | rfl
    · exact ⟨1, by decide, by decide, rfl⟩
    · exact ⟨2, by decide, by decide, rfl⟩
    · exact ⟨3, by decide, by decide, rfl⟩
  obtain ⟨m, hm1, hm2, rfl⟩ := e2
  rw [nI_add] at hx
  subst hx
  have e3 : (nI (j + m)).toInt = ((j + m : Nat) : Int) := by
    exact nI_toInt (by omega)
  unfold ims
  rw [e1] at h
  rw [e1, e3]
  omega
end
section
theorem d_Verifier_areInstructionsRight_0 : decode b_Verifier_areInstructionsRight 0 = .ok (.aload_n 0, 1) := by decide +kernel
theorem d_Verifier_areInstructionsRight_1 : decode b_Verifier_areInstructionsRight 1 = .ok (.getfield 62, 3) := by decide +kernel
theorem d_Verifier_areInstructionsRight_4 : decode b_Verifier_areInstructionsRight 4 = .ok (.istore_n 1, 1) := by decide +kernel
theorem d_Verifier_areInstructionsRight_5 : decode b_Verifier_areInstructionsRight 5 = .ok (.iload_n 1, 1) := by decide +kernel
theorem d_Verifier_areInstructionsRight_6 : decode b_Verifier_areInstructionsRight 6 = .ok (.aload_n 0, 1) := by decide +kernel
theorem d_Verifier_areInstructionsRight_7 : decode b_Verifier_areInstructionsRight 7 = .ok (.getfield 68, 3) := by decide +kernel
theorem d_Verifier_areInstructionsRight_10 : decode b_Verifier_areInstructionsRight 10 = .ok (.if_icmp .ge 66, 3) := by decide +kernel
theorem d_Verifier_areInstructionsRight_13 : decode b_Verifier_areInstructionsRight 13 = .ok (.aload_n 0, 1) := by decide +kernel
theorem d_Verifier_areInstructionsRight_14 : decode b_Verifier_areInstructionsRight 14 = .ok (.getfield 37, 3) := by decide +kernel
theorem d_Verifier_areInstructionsRight_17 : decode b_Verifier_areInstructionsRight 17 = .ok (.iload_n 1, 1) := by decide +kernel
theorem d_Verifier_areInstructionsRight_18 : decode b_Verifier_areInstructionsRight 18 = .ok (.invokevirtual 108, 3) := by decide +kernel
theorem d_Verifier_areInstructionsRight_21 : decode b_Verifier_areInstructionsRight 21 = .ok (.invokestatic 113, 3) := by decide +kernel
theorem d_Verifier_areInstructionsRight_24 : decode b_Verifier_areInstructionsRight 24 = .ok (.istore_n 2, 1) := by decide +kernel
theorem d_Verifier_areInstructionsRight_25 : decode b_Verifier_areInstructionsRight 25 = .ok (.iload_n 2, 1) := by decide +kernel
theorem d_Verifier_areInstructionsRight_26 : decode b_Verifier_areInstructionsRight 26 = .ok (.ifCond .ne 14, 3) := by decide +kernel
theorem d_Verifier_areInstructionsRight_29 : decode b_Verifier_areInstructionsRight 29 = .ok (.aload_n 0, 1) := by decide +kernel
theorem d_Verifier_areInstructionsRight_30 : decode b_Verifier_areInstructionsRight 30 = .ok (.getfield 43, 3) := by decide +kernel
theorem d_Verifier_areInstructionsRight_33 : decode b_Verifier_areInstructionsRight 33 = .ok (.bipush 18, 2) := by decide +kernel
theorem d_Verifier_areInstructionsRight_35 : decode b_Verifier_areInstructionsRight 35 = .ok (.iload_n 1, 1) := by decide +kernel
theorem d_Verifier_areInstructionsRight_36 : decode b_Verifier_areInstructionsRight 36 = .ok (.invokevirtual 86, 3) := by decide +kernel
theorem d_Verifier_areInstructionsRight_39 : decode b_Verifier_areInstructionsRight 39 = .ok (.ireturn, 1) := by decide +kernel
theorem d_Verifier_areInstructionsRight_40 : decode b_Verifier_areInstructionsRight 40 = .ok (.iload_n 1, 1) := by decide +kernel
theorem d_Verifier_areInstructionsRight_41 : decode b_Verifier_areInstructionsRight 41 = .ok (.iload_n 2, 1) := by decide +kernel
theorem d_Verifier_areInstructionsRight_42 : decode b_Verifier_areInstructionsRight 42 = .ok (.iadd, 1) := by decide +kernel
theorem d_Verifier_areInstructionsRight_43 : decode b_Verifier_areInstructionsRight 43 = .ok (.aload_n 0, 1) := by decide +kernel
theorem d_Verifier_areInstructionsRight_44 : decode b_Verifier_areInstructionsRight 44 = .ok (.getfield 68, 3) := by decide +kernel
theorem d_Verifier_areInstructionsRight_47 : decode b_Verifier_areInstructionsRight 47 = .ok (.if_icmp .le 14, 3) := by decide +kernel
theorem d_Verifier_areInstructionsRight_50 : decode b_Verifier_areInstructionsRight 50 = .ok (.aload_n 0, 1) := by decide +kernel
theorem d_Verifier_areInstructionsRight_51 : decode b_Verifier_areInstructionsRight 51 = .ok (.getfield 43, 3) := by decide +kernel
theorem d_Verifier_areInstructionsRight_54 : decode b_Verifier_areInstructionsRight 54 = .ok (.bipush 19, 2) := by decide +kernel
theorem d_Verifier_areInstructionsRight_56 : decode b_Verifier_areInstructionsRight 56 = .ok (.iload_n 1, 1) := by decide +kernel
theorem d_Verifier_areInstructionsRight_57 : decode b_Verifier_areInstructionsRight 57 = .ok (.invokevirtual 86, 3) := by decide +kernel
theorem d_Verifier_areInstructionsRight_60 : decode b_Verifier_areInstructionsRight 60 = .ok (.ireturn, 1) := by decide +kernel
theorem d_Verifier_areInstructionsRight_61 : decode b_Verifier_areInstructionsRight 61 = .ok (.aload_n 0, 1) := by decide +kernel
theorem d_Verifier_areInstructionsRight_62 : decode b_Verifier_areInstructionsRight 62 = .ok (.getfield 42, 3) := by decide +kernel
theorem d_Verifier_areInstructionsRight_65 : decode b_Verifier_areInstructionsRight 65 = .ok (.iload_n 1, 1) := by decide +kernel
theorem d_Verifier_areInstructionsRight_66 : decode b_Verifier_areInstructionsRight 66 = .ok (.invokevirtual 116, 3) := by decide +kernel
theorem d_Verifier_areInstructionsRight_69 : decode b_Verifier_areInstructionsRight 69 = .ok (.iload_n 1, 1) := by decide +kernel
theorem d_Verifier_areInstructionsRight_70 : decode b_Verifier_areInstructionsRight 70 = .ok (.iload_n 2, 1) := by decide +kernel
theorem d_Verifier_areInstructionsRight_71 : decode b_Verifier_areInstructionsRight 71 = .ok (.iadd, 1) := by decide +kernel
theorem d_Verifier_areInstructionsRight_72 : decode b_Verifier_areInstructionsRight 72 = .ok (.istore_n 1, 1) := by decide +kernel
theorem d_Verifier_areInstructionsRight_73 : decode b_Verifier_areInstructionsRight 73 = .ok (.goto (-68), 3) := by decide +kernel
theorem d_Verifier_areInstructionsRight_76 : decode b_Verifier_areInstructionsRight 76 = .ok (.iconst 1, 1) := by decide +kernel
theorem d_Verifier_areInstructionsRight_77 : decode b_Verifier_areInstructionsRight 77 = .ok (.ireturn, 1) := by decide +kernel
end
