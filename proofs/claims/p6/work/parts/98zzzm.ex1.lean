section
set_option maxHeartbeats 4000000 in
set_option maxRecDepth 100000 in
theorem e_Image_twoAt (l : Launch) (g : tw_G) (sz : Nat) (h0 r n : Nat) (f : Nat → Int32) (i : Int32) (hn : n ≤ 600) : Met l y_Image_twoAt [.code y_Image_twoAt b_Image_twoAt 2 (some .int)] ({ frames := 1, cells := 0, slots := 0, locals := 21 }) (tw_P g [.ref h0, .int i] [(h0, .inr (2, [.ref r, .int (nI n)])), (r, aB g 600 f)] sz) (vp_Si (fun q => q = im_two f n i)) 0 0 (fun _ => False) := by
  refine tw_met (l := l) (g := g) (y := y_Image_twoAt) (cc := b_Image_twoAt) (maxL := 2) (ret := (some .int)) (rm := { frames := 1, cells := 0, slots := 0, locals := 21 }) (mc := 0) (ms := 0) (av := [.ref h0, .int i]) (ws := [(h0, .inr (2, [.ref r, .int (nI n)])), (r, aB g 600 f)]) (sz := sz) (Qc := fun _ => (vp_Si (fun q => q = im_two f n i))) (free := fun _ _ => False) (by decide) (Nat.le_of_ble_eq_true rfl) ?_
  intro p e s m below meth c ls A E hB hK hZ hP hD hS hA hl
  obtain ⟨hx, hb, hml, hr, hown, hts, hlocks, hin⟩ := id E
  have hl : lv_has ls 2 [(0, .ref h0), (1, .int i)] := hl
  refine lv_aload_n hx hb d_Image_twoAt_0 rfl (lv_at hl 0 rfl) ?_
  refine lv_iload_n hx hb d_Image_twoAt_1 rfl (lv_at hl 1 rfl) ?_
  refine tw_si (tw_runV (ws := [(h0, .inr (2, [.ref r, .int (nI n)])), (r, aB g 600 f)]) (wc := [(h0, .inr (2, [.ref r, .int (nI n)])), (r, aB g 600 f)]) (As := [.int i]) (rest := []) E hB hK hZ (c_Image_oneAt l g s.heap.size h0 r n f i hn) mc_Image_oneAt mi_Image_oneAt me_Image_oneAt wd_394 hP hD hS hA [0, 1] rfl (by decide) 0 rfl rfl rfl rfl rfl (by decide) rfl hl.1 rfl (Nat.le_of_ble_eq_true rfl) (by decide) d_Image_twoAt_2) (fun r1 hr1 => ?_)
  refine lv_bipush (v := 8) hx hb d_Image_twoAt_5 (by decide) ?_
  refine lv_ishl hx hb d_Image_twoAt_7 ?_
  obtain ⟨x2, ex2⟩ : ∃ z : Int32, r1 <<< (8 &&& 31) = z := ⟨_, rfl⟩
  refine tw_ri (e2 := x2) ex2 ?_
  refine lv_aload_n hx hb d_Image_twoAt_8 rfl (lv_at hl 0 rfl) ?_
  refine lv_iload_n hx hb d_Image_twoAt_9 rfl (lv_at hl 1 rfl) ?_
  refine lv_iconst (v := 1) hx hb d_Image_twoAt_10 (by decide) ?_
  refine lv_iadd hx hb d_Image_twoAt_11 ?_
  obtain ⟨x3, ex3⟩ : ∃ z : Int32, i + 1 = z := ⟨_, rfl⟩
  refine tw_ri (e2 := x3) ex3 ?_
  refine tw_si (tw_runV (ws := [(h0, .inr (2, [.ref r, .int (nI n)])), (r, aB g 600 f)]) (wc := [(h0, .inr (2, [.ref r, .int (nI n)])), (r, aB g 600 f)]) (As := [.int x3]) (rest := [.int x2]) E hB hK hZ (c_Image_oneAt l g s.heap.size h0 r n f x3 hn) mc_Image_oneAt mi_Image_oneAt me_Image_oneAt wd_394 hP hD hS hA [0, 1] rfl (by decide) 0 rfl rfl rfl rfl rfl (by decide) rfl hl.1 rfl (Nat.le_of_ble_eq_true rfl) (by decide) d_Image_twoAt_12) (fun r4 hr4 => ?_)
  refine lv_ior hx hb d_Image_twoAt_15 ?_
  obtain ⟨x5, ex5⟩ : ∃ z : Int32, x2 ||| r4 = z := ⟨_, rfl⟩
  refine tw_ri (e2 := x5) ex5 ?_
  exact tw_isret E (im_two_of hr1 hr4 ex2 ex3 ex5) d_Image_twoAt_16
set_option maxHeartbeats 4000000 in
set_option maxRecDepth 100000 in
theorem e_Layout_codeOf (l : Launch) (g : tw_G) (sz : Nat) (h0 : Nat) (w : Nat → Nat) (v : LY) (k : Int32) (hI : LI v) : Met l y_Layout_codeOf [.code y_Layout_codeOf b_Layout_codeOf 2 (some .int)] ({ frames := 0, cells := 0, slots := 0, locals := 0 }) (tw_P g [.ref h0, .int k] [(h0, .inr (3, [.ref (w 0), .ref (w 2), .ref (w 7), .ref (w 8), .ref (w 9), .ref (w 10), .ref (w 11), .ref (w 12), .ref (w 13), .int v.nu, .int v.th, .int v.it, .int (nI v.fi), .int (nI v.me), .int v.mp])), ((w 0), .inr (2, [.ref (w 1), .int (nI v.n)])), ((w 1), aB g 600 v.b), ((w 2), .inr (1, [.ref (w 3), .ref (w 4), .ref (w 5), .ref (w 6), .int (nI v.lo)])), ((w 3), aJ g 4800 v.rw), ((w 4), aB g 600 v.bg), ((w 5), aB g 600 v.wt), ((w 6), aB g 600 v.dp), ((w 7), aI g 200 v.tg), ((w 8), aI g 200 v.ca), ((w 9), aI g 200 v.fs), ((w 10), aI g 200 v.sc), ((w 11), aI g 75 v.fa), ((w 12), aI g 75 v.ma), ((w 13), aI g 75 v.co)] sz) (vp_Si (fun r => r = co_of v k)) 0 0 (fun _ => False) := by
  refine tw_met (l := l) (g := g) (y := y_Layout_codeOf) (cc := b_Layout_codeOf) (maxL := 2) (ret := (some .int)) (rm := { frames := 0, cells := 0, slots := 0, locals := 0 }) (mc := 0) (ms := 0) (av := [.ref h0, .int k]) (ws := [(h0, .inr (3, [.ref (w 0), .ref (w 2), .ref (w 7), .ref (w 8), .ref (w 9), .ref (w 10), .ref (w 11), .ref (w 12), .ref (w 13), .int v.nu, .int v.th, .int v.it, .int (nI v.fi), .int (nI v.me), .int v.mp])), ((w 0), .inr (2, [.ref (w 1), .int (nI v.n)])), ((w 1), aB g 600 v.b), ((w 2), .inr (1, [.ref (w 3), .ref (w 4), .ref (w 5), .ref (w 6), .int (nI v.lo)])), ((w 3), aJ g 4800 v.rw), ((w 4), aB g 600 v.bg), ((w 5), aB g 600 v.wt), ((w 6), aB g 600 v.dp), ((w 7), aI g 200 v.tg), ((w 8), aI g 200 v.ca), ((w 9), aI g 200 v.fs), ((w 10), aI g 200 v.sc), ((w 11), aI g 75 v.fa), ((w 12), aI g 75 v.ma), ((w 13), aI g 75 v.co)]) (sz := sz) (Qc := fun _ => (vp_Si (fun r => r = co_of v k))) (free := fun _ _ => False) (by decide) (Nat.le_of_ble_eq_true rfl) ?_
  intro p e s m below meth c ls A E hB hK hZ hP hD hS hA hl
  obtain ⟨hx, hb, hml, hr, hown, hts, hlocks, hin⟩ := id E
  have hl : lv_has ls 2 [(0, .ref h0), (1, .int k)] := hl
  refine lv_iload_n hx hb d_Layout_codeOf_0 rfl (lv_at hl 1 rfl) ?_
  refine lv_if_lt (tgt := 21) hx hb d_Layout_codeOf_1 (by decide) (fun h1 => ?_) (fun h1 => ?_)
  · refine lv_iconst (v := 0) hx hb d_Layout_codeOf_21 (by decide) ?_
    exact tw_isret E ((if_pos h1).symm) d_Layout_codeOf_22
  · refine lv_iload_n hx hb d_Layout_codeOf_4 rfl (lv_at hl 1 rfl) ?_
    refine lv_aload_n hx hb d_Layout_codeOf_5 rfl (lv_at hl 0 rfl) ?_
    refine va_get (D := g.1) (ci := 3) (v := .int (nI v.me)) (C := R_Layout) (T := F_Layout) (N := 15) hx hb hts in_Layout hown hK hP 0 rfl rfl 13 (by decide) (hts _ wd_275) (fun _ h9 => h9) rfl d_Layout_codeOf_6 ?_
    refine lv_icmp_ge (tgt := 21) hx hb d_Layout_codeOf_9 (by decide) (fun h9 => ?_) (fun h9 => ?_)
    · refine lv_iconst (v := 0) hx hb d_Layout_codeOf_21 (by decide) ?_
      exact tw_isret E (((if_neg h1).trans (if_pos h9)).symm) d_Layout_codeOf_22
    · refine lv_aload_n hx hb d_Layout_codeOf_12 rfl (lv_at hl 0 rfl) ?_
      refine va_get (D := g.1) (ci := 3) (v := .ref (w 13)) (C := R_Layout) (T := F_Layout) (N := 15) hx hb hts in_Layout hown hK hP 0 rfl rfl 8 (by decide) (hts _ wd_257) (fun _ h9 => h9) rfl d_Layout_codeOf_13 ?_
      refine lv_iload_n hx hb d_Layout_codeOf_16 rfl (lv_at hl 1 rfl) ?_
      refine va_iald hx hb hK hP 14 0 rfl rfl (tn_in h1 h9 (Nat.le_trans hI.me (by decide)) (by decide)) d_Layout_codeOf_17 ?_
      obtain ⟨x1, ex1⟩ : ∃ z : Int32, v.co k.toNatClampNeg = z := ⟨_, rfl⟩
      refine tw_ri (e2 := x1) ex1 ?_
      refine lv_goto (tgt := 22) hx hb d_Layout_codeOf_18 (by decide) ?_
      exact tw_isret E (by unfold co_of; rw [if_neg h1, if_neg h9]; exact ex1.symm) d_Layout_codeOf_22
set_option maxHeartbeats 4000000 in
set_option maxRecDepth 100000 in
theorem e_Layout_localsOf (l : Launch) (g : tw_G) (sz : Nat) (h0 : Nat) (w : Nat → Nat) (v : LY) (k : Int32) (hI : LI v) : Met l y_Layout_localsOf [.code y_Layout_localsOf b_Layout_localsOf 2 (some .int)] ({ frames := 2, cells := 0, slots := 0, locals := 42 }) (tw_P g [.ref h0, .int k] [(h0, .inr (3, [.ref (w 0), .ref (w 2), .ref (w 7), .ref (w 8), .ref (w 9), .ref (w 10), .ref (w 11), .ref (w 12), .ref (w 13), .int v.nu, .int v.th, .int v.it, .int (nI v.fi), .int (nI v.me), .int v.mp])), ((w 0), .inr (2, [.ref (w 1), .int (nI v.n)])), ((w 1), aB g 600 v.b), ((w 2), .inr (1, [.ref (w 3), .ref (w 4), .ref (w 5), .ref (w 6), .int (nI v.lo)])), ((w 3), aJ g 4800 v.rw), ((w 4), aB g 600 v.bg), ((w 5), aB g 600 v.wt), ((w 6), aB g 600 v.dp), ((w 7), aI g 200 v.tg), ((w 8), aI g 200 v.ca), ((w 9), aI g 200 v.fs), ((w 10), aI g 200 v.sc), ((w 11), aI g 75 v.fa), ((w 12), aI g 75 v.ma), ((w 13), aI g 75 v.co)] sz) (vp_Si (fun r => r = im_two v.b v.n (co_of v k + 8))) 0 0 (fun _ => False) := by
  refine tw_met (l := l) (g := g) (y := y_Layout_localsOf) (cc := b_Layout_localsOf) (maxL := 2) (ret := (some .int)) (rm := { frames := 2, cells := 0, slots := 0, locals := 42 }) (mc := 0) (ms := 0) (av := [.ref h0, .int k]) (ws := [(h0, .inr (3, [.ref (w 0), .ref (w 2), .ref (w 7), .ref (w 8), .ref (w 9), .ref (w 10), .ref (w 11), .ref (w 12), .ref (w 13), .int v.nu, .int v.th, .int v.it, .int (nI v.fi), .int (nI v.me), .int v.mp])), ((w 0), .inr (2, [.ref (w 1), .int (nI v.n)])), ((w 1), aB g 600 v.b), ((w 2), .inr (1, [.ref (w 3), .ref (w 4), .ref (w 5), .ref (w 6), .int (nI v.lo)])), ((w 3), aJ g 4800 v.rw), ((w 4), aB g 600 v.bg), ((w 5), aB g 600 v.wt), ((w 6), aB g 600 v.dp), ((w 7), aI g 200 v.tg), ((w 8), aI g 200 v.ca), ((w 9), aI g 200 v.fs), ((w 10), aI g 200 v.sc), ((w 11), aI g 75 v.fa), ((w 12), aI g 75 v.ma), ((w 13), aI g 75 v.co)]) (sz := sz) (Qc := fun _ => (vp_Si (fun r => r = im_two v.b v.n (co_of v k + 8)))) (free := fun _ _ => False) (by decide) (Nat.le_of_ble_eq_true rfl) ?_
  intro p e s m below meth c ls A E hB hK hZ hP hD hS hA hl
  obtain ⟨hx, hb, hml, hr, hown, hts, hlocks, hin⟩ := id E
  have hl : lv_has ls 2 [(0, .ref h0), (1, .int k)] := hl
  refine lv_aload_n hx hb d_Layout_localsOf_0 rfl (lv_at hl 0 rfl) ?_
  refine va_get (D := g.1) (ci := 3) (v := .ref (w 0)) (C := R_Layout) (T := F_Layout) (N := 15) hx hb hts in_Layout hown hK hP 0 rfl rfl 0 (by decide) (hts _ wd_241) (fun _ h9 => h9) rfl d_Layout_localsOf_1 ?_
  refine lv_aload_n hx hb d_Layout_localsOf_4 rfl (lv_at hl 0 rfl) ?_
  refine lv_iload_n hx hb d_Layout_localsOf_5 rfl (lv_at hl 1 rfl) ?_
  refine tw_si (tw_runV (ws := [(h0, .inr (3, [.ref (w 0), .ref (w 2), .ref (w 7), .ref (w 8), .ref (w 9), .ref (w 10), .ref (w 11), .ref (w 12), .ref (w 13), .int v.nu, .int v.th, .int v.it, .int (nI v.fi), .int (nI v.me), .int v.mp])), ((w 0), .inr (2, [.ref (w 1), .int (nI v.n)])), ((w 1), aB g 600 v.b), ((w 2), .inr (1, [.ref (w 3), .ref (w 4), .ref (w 5), .ref (w 6), .int (nI v.lo)])), ((w 3), aJ g 4800 v.rw), ((w 4), aB g 600 v.bg), ((w 5), aB g 600 v.wt), ((w 6), aB g 600 v.dp), ((w 7), aI g 200 v.tg), ((w 8), aI g 200 v.ca), ((w 9), aI g 200 v.fs), ((w 10), aI g 200 v.sc), ((w 11), aI g 75 v.fa), ((w 12), aI g 75 v.ma), ((w 13), aI g 75 v.co)]) (wc := [(h0, .inr (3, [.ref (w 0), .ref (w 2), .ref (w 7), .ref (w 8), .ref (w 9), .ref (w 10), .ref (w 11), .ref (w 12), .ref (w 13), .int v.nu, .int v.th, .int v.it, .int (nI v.fi), .int (nI v.me), .int v.mp])), ((w 0), .inr (2, [.ref (w 1), .int (nI v.n)])), ((w 1), aB g 600 v.b), ((w 2), .inr (1, [.ref (w 3), .ref (w 4), .ref (w 5), .ref (w 6), .int (nI v.lo)])), ((w 3), aJ g 4800 v.rw), ((w 4), aB g 600 v.bg), ((w 5), aB g 600 v.wt), ((w 6), aB g 600 v.dp), ((w 7), aI g 200 v.tg), ((w 8), aI g 200 v.ca), ((w 9), aI g 200 v.fs), ((w 10), aI g 200 v.sc), ((w 11), aI g 75 v.fa), ((w 12), aI g 75 v.ma), ((w 13), aI g 75 v.co)]) (As := [.int k]) (rest := [.ref (w 0)]) E hB hK hZ (e_Layout_codeOf l g s.heap.size h0 w v k hI) mc_Layout_codeOf mi_Layout_codeOf me_Layout_codeOf wd_687 hP hD hS hA [0, 1, 2, 3, 4, 5, 6, 7, 8, 9, 10, 11, 12, 13, 14] rfl (by decide) 0 rfl rfl rfl rfl rfl (by decide) rfl hl.1 rfl (Nat.le_of_ble_eq_true rfl) (by decide) d_Layout_localsOf_6) (fun r1 hr1 => ?_)
  obtain rfl : r1 = co_of v k := hr1
  refine lv_bipush (v := 8) hx hb d_Layout_localsOf_9 (by decide) ?_
  refine lv_iadd hx hb d_Layout_localsOf_11 ?_
  refine tw_ri (e2 := (co_of v k) + 8) rfl ?_
  refine tw_si (tw_runV (ws := [(h0, .inr (3, [.ref (w 0), .ref (w 2), .ref (w 7), .ref (w 8), .ref (w 9), .ref (w 10), .ref (w 11), .ref (w 12), .ref (w 13), .int v.nu, .int v.th, .int v.it, .int (nI v.fi), .int (nI v.me), .int v.mp])), ((w 0), .inr (2, [.ref (w 1), .int (nI v.n)])), ((w 1), aB g 600 v.b), ((w 2), .inr (1, [.ref (w 3), .ref (w 4), .ref (w 5), .ref (w 6), .int (nI v.lo)])), ((w 3), aJ g 4800 v.rw), ((w 4), aB g 600 v.bg), ((w 5), aB g 600 v.wt), ((w 6), aB g 600 v.dp), ((w 7), aI g 200 v.tg), ((w 8), aI g 200 v.ca), ((w 9), aI g 200 v.fs), ((w 10), aI g 200 v.sc), ((w 11), aI g 75 v.fa), ((w 12), aI g 75 v.ma), ((w 13), aI g 75 v.co)]) (wc := [((w 0), .inr (2, [.ref (w 1), .int (nI v.n)])), ((w 1), aB g 600 v.b)]) (As := [.int ((co_of v k) + 8)]) (rest := []) E hB hK hZ (e_Image_twoAt l g s.heap.size (w 0) (w 1) v.n v.b ((co_of v k) + 8) hI.n) mc_Image_twoAt mi_Image_twoAt me_Image_twoAt wd_425 hP hD hS hA [1, 2] rfl (by decide) 0 rfl rfl rfl rfl rfl (by decide) rfl hl.1 rfl (Nat.le_of_ble_eq_true rfl) (by decide) d_Layout_localsOf_12) (fun r2 hr2 => ?_)
  exact tw_isret E hr2 d_Layout_localsOf_15
set_option maxHeartbeats 4000000 in
set_option maxRecDepth 100000 in
theorem e_Layout_lengthOf (l : Launch) (g : tw_G) (sz : Nat) (h0 : Nat) (w : Nat → Nat) (v : LY) (k : Int32) (hI : LI v) : Met l y_Layout_lengthOf [.code y_Layout_lengthOf b_Layout_lengthOf 2 (some .int)] ({ frames := 2, cells := 0, slots := 0, locals := 46 }) (tw_P g [.ref h0, .int k] [(h0, .inr (3, [.ref (w 0), .ref (w 2), .ref (w 7), .ref (w 8), .ref (w 9), .ref (w 10), .ref (w 11), .ref (w 12), .ref (w 13), .int v.nu, .int v.th, .int v.it, .int (nI v.fi), .int (nI v.me), .int v.mp])), ((w 0), .inr (2, [.ref (w 1), .int (nI v.n)])), ((w 1), aB g 600 v.b), ((w 2), .inr (1, [.ref (w 3), .ref (w 4), .ref (w 5), .ref (w 6), .int (nI v.lo)])), ((w 3), aJ g 4800 v.rw), ((w 4), aB g 600 v.bg), ((w 5), aB g 600 v.wt), ((w 6), aB g 600 v.dp), ((w 7), aI g 200 v.tg), ((w 8), aI g 200 v.ca), ((w 9), aI g 200 v.fs), ((w 10), aI g 200 v.sc), ((w 11), aI g 75 v.fa), ((w 12), aI g 75 v.ma), ((w 13), aI g 75 v.co)] sz) (vp_Si (fun r => r = 0 ∨ ¬ co_of v k = 0)) 0 0 (fun _ => False) := by
  refine tw_met (l := l) (g := g) (y := y_Layout_lengthOf) (cc := b_Layout_lengthOf) (maxL := 2) (ret := (some .int)) (rm := { frames := 2, cells := 0, slots := 0, locals := 46 }) (mc := 0) (ms := 0) (av := [.ref h0, .int k]) (ws := [(h0, .inr (3, [.ref (w 0), .ref (w 2), .ref (w 7), .ref (w 8), .ref (w 9), .ref (w 10), .ref (w 11), .ref (w 12), .ref (w 13), .int v.nu, .int v.th, .int v.it, .int (nI v.fi), .int (nI v.me), .int v.mp])), ((w 0), .inr (2, [.ref (w 1), .int (nI v.n)])), ((w 1), aB g 600 v.b), ((w 2), .inr (1, [.ref (w 3), .ref (w 4), .ref (w 5), .ref (w 6), .int (nI v.lo)])), ((w 3), aJ g 4800 v.rw), ((w 4), aB g 600 v.bg), ((w 5), aB g 600 v.wt), ((w 6), aB g 600 v.dp), ((w 7), aI g 200 v.tg), ((w 8), aI g 200 v.ca), ((w 9), aI g 200 v.fs), ((w 10), aI g 200 v.sc), ((w 11), aI g 75 v.fa), ((w 12), aI g 75 v.ma), ((w 13), aI g 75 v.co)]) (sz := sz) (Qc := fun _ => (vp_Si (fun r => r = 0 ∨ ¬ co_of v k = 0))) (free := fun _ _ => False) (by decide) (Nat.le_of_ble_eq_true rfl) ?_
  intro p e s m below meth c ls A E hB hK hZ hP hD hS hA hl
  obtain ⟨hx, hb, hml, hr, hown, hts, hlocks, hin⟩ := id E
  have hl : lv_has ls 2 [(0, .ref h0), (1, .int k)] := hl
  refine lv_aload_n hx hb d_Layout_lengthOf_0 rfl (lv_at hl 0 rfl) ?_
  refine lv_iload_n hx hb d_Layout_lengthOf_1 rfl (lv_at hl 1 rfl) ?_
  refine tw_si (tw_runV (ws := [(h0, .inr (3, [.ref (w 0), .ref (w 2), .ref (w 7), .ref (w 8), .ref (w 9), .ref (w 10), .ref (w 11), .ref (w 12), .ref (w 13), .int v.nu, .int v.th, .int v.it, .int (nI v.fi), .int (nI v.me), .int v.mp])), ((w 0), .inr (2, [.ref (w 1), .int (nI v.n)])), ((w 1), aB g 600 v.b), ((w 2), .inr (1, [.ref (w 3), .ref (w 4), .ref (w 5), .ref (w 6), .int (nI v.lo)])), ((w 3), aJ g 4800 v.rw), ((w 4), aB g 600 v.bg), ((w 5), aB g 600 v.wt), ((w 6), aB g 600 v.dp), ((w 7), aI g 200 v.tg), ((w 8), aI g 200 v.ca), ((w 9), aI g 200 v.fs), ((w 10), aI g 200 v.sc), ((w 11), aI g 75 v.fa), ((w 12), aI g 75 v.ma), ((w 13), aI g 75 v.co)]) (wc := [(h0, .inr (3, [.ref (w 0), .ref (w 2), .ref (w 7), .ref (w 8), .ref (w 9), .ref (w 10), .ref (w 11), .ref (w 12), .ref (w 13), .int v.nu, .int v.th, .int v.it, .int (nI v.fi), .int (nI v.me), .int v.mp])), ((w 0), .inr (2, [.ref (w 1), .int (nI v.n)])), ((w 1), aB g 600 v.b), ((w 2), .inr (1, [.ref (w 3), .ref (w 4), .ref (w 5), .ref (w 6), .int (nI v.lo)])), ((w 3), aJ g 4800 v.rw), ((w 4), aB g 600 v.bg), ((w 5), aB g 600 v.wt), ((w 6), aB g 600 v.dp), ((w 7), aI g 200 v.tg), ((w 8), aI g 200 v.ca), ((w 9), aI g 200 v.fs), ((w 10), aI g 200 v.sc), ((w 11), aI g 75 v.fa), ((w 12), aI g 75 v.ma), ((w 13), aI g 75 v.co)]) (As := [.int k]) (rest := []) E hB hK hZ (e_Layout_codeOf l g s.heap.size h0 w v k hI) mc_Layout_codeOf mi_Layout_codeOf me_Layout_codeOf wd_687 hP hD hS hA [0, 1, 2, 3, 4, 5, 6, 7, 8, 9, 10, 11, 12, 13, 14] rfl (by decide) 0 rfl rfl rfl rfl rfl (by decide) rfl hl.1 rfl (Nat.le_of_ble_eq_true rfl) (by decide) d_Layout_lengthOf_2) (fun r1 hr1 => ?_)
  obtain rfl : r1 = co_of v k := hr1
  refine lv_if_ne (tgt := 12) hx hb d_Layout_lengthOf_5 (by decide) (fun h5 => ?_) (fun h5 => ?_)
  · refine lv_aload_n hx hb d_Layout_lengthOf_12 rfl (lv_at hl 0 rfl) ?_
    refine va_get (D := g.1) (ci := 3) (v := .ref (w 0)) (C := R_Layout) (T := F_Layout) (N := 15) hx hb hts in_Layout hown hK hP 0 rfl rfl 0 (by decide) (hts _ wd_241) (fun _ h9 => h9) rfl d_Layout_lengthOf_13 ?_
    refine lv_aload_n hx hb d_Layout_lengthOf_16 rfl (lv_at hl 0 rfl) ?_
    refine lv_iload_n hx hb d_Layout_lengthOf_17 rfl (lv_at hl 1 rfl) ?_
    refine tw_si (tw_runV (ws := [(h0, .inr (3, [.ref (w 0), .ref (w 2), .ref (w 7), .ref (w 8), .ref (w 9), .ref (w 10), .ref (w 11), .ref (w 12), .ref (w 13), .int v.nu, .int v.th, .int v.it, .int (nI v.fi), .int (nI v.me), .int v.mp])), ((w 0), .inr (2, [.ref (w 1), .int (nI v.n)])), ((w 1), aB g 600 v.b), ((w 2), .inr (1, [.ref (w 3), .ref (w 4), .ref (w 5), .ref (w 6), .int (nI v.lo)])), ((w 3), aJ g 4800 v.rw), ((w 4), aB g 600 v.bg), ((w 5), aB g 600 v.wt), ((w 6), aB g 600 v.dp), ((w 7), aI g 200 v.tg), ((w 8), aI g 200 v.ca), ((w 9), aI g 200 v.fs), ((w 10), aI g 200 v.sc), ((w 11), aI g 75 v.fa), ((w 12), aI g 75 v.ma), ((w 13), aI g 75 v.co)]) (wc := [(h0, .inr (3, [.ref (w 0), .ref (w 2), .ref (w 7), .ref (w 8), .ref (w 9), .ref (w 10), .ref (w 11), .ref (w 12), .ref (w 13), .int v.nu, .int v.th, .int v.it, .int (nI v.fi), .int (nI v.me), .int v.mp])), ((w 0), .inr (2, [.ref (w 1), .int (nI v.n)])), ((w 1), aB g 600 v.b), ((w 2), .inr (1, [.ref (w 3), .ref (w 4), .ref (w 5), .ref (w 6), .int (nI v.lo)])), ((w 3), aJ g 4800 v.rw), ((w 4), aB g 600 v.bg), ((w 5), aB g 600 v.wt), ((w 6), aB g 600 v.dp), ((w 7), aI g 200 v.tg), ((w 8), aI g 200 v.ca), ((w 9), aI g 200 v.fs), ((w 10), aI g 200 v.sc), ((w 11), aI g 75 v.fa), ((w 12), aI g 75 v.ma), ((w 13), aI g 75 v.co)]) (As := [.int k]) (rest := [.ref (w 0)]) E hB hK hZ (e_Layout_codeOf l g s.heap.size h0 w v k hI) mc_Layout_codeOf mi_Layout_codeOf me_Layout_codeOf wd_687 hP hD hS hA [0, 1, 2, 3, 4, 5, 6, 7, 8, 9, 10, 11, 12, 13, 14] rfl (by decide) 0 rfl rfl rfl rfl rfl (by decide) rfl hl.1 rfl (Nat.le_of_ble_eq_true rfl) (by decide) d_Layout_lengthOf_18) (fun r2 hr2 => ?_)
    obtain rfl : r2 = co_of v k := hr2
    refine lv_bipush (v := 10) hx hb d_Layout_lengthOf_21 (by decide) ?_
    refine lv_iadd hx hb d_Layout_lengthOf_23 ?_
    obtain ⟨x3, ex3⟩ : ∃ z : Int32, (co_of v k) + 10 = z := ⟨_, rfl⟩
    refine tw_ri (e2 := x3) ex3 ?_
    refine tw_sl (tw_runV (ws := [(h0, .inr (3, [.ref (w 0), .ref (w 2), .ref (w 7), .ref (w 8), .ref (w 9), .ref (w 10), .ref (w 11), .ref (w 12), .ref (w 13), .int v.nu, .int v.th, .int v.it, .int (nI v.fi), .int (nI v.me), .int v.mp])), ((w 0), .inr (2, [.ref (w 1), .int (nI v.n)])), ((w 1), aB g 600 v.b), ((w 2), .inr (1, [.ref (w 3), .ref (w 4), .ref (w 5), .ref (w 6), .int (nI v.lo)])), ((w 3), aJ g 4800 v.rw), ((w 4), aB g 600 v.bg), ((w 5), aB g 600 v.wt), ((w 6), aB g 600 v.dp), ((w 7), aI g 200 v.tg), ((w 8), aI g 200 v.ca), ((w 9), aI g 200 v.fs), ((w 10), aI g 200 v.sc), ((w 11), aI g 75 v.fa), ((w 12), aI g 75 v.ma), ((w 13), aI g 75 v.co)]) (wc := [((w 0), .inr (2, [.ref (w 1), .int (nI v.n)])), ((w 1), aB g 600 v.b)]) (As := [.int x3]) (rest := []) E hB hK hZ (s_Image_fourAt l g s.heap.size (w 0) (w 1) v.n v.b x3 hI.n) mc_Image_fourAt mi_Image_fourAt me_Image_fourAt wd_688 hP hD hS hA [1, 2] rfl (by decide) 0 rfl rfl rfl rfl rfl (by decide) rfl hl.1 rfl (Nat.le_of_ble_eq_true rfl) (by decide) d_Layout_lengthOf_24) (fun r4 hr4 => ?_)
    refine lv_l2i (v := r4.toInt32) hx hb d_Layout_lengthOf_27 rfl ?_
    exact tw_isret E (Or.inr h5) d_Layout_lengthOf_28
  · refine lv_iconst (v := 0) hx hb d_Layout_lengthOf_8 (by decide) ?_
    refine lv_goto (tgt := 28) hx hb d_Layout_lengthOf_9 (by decide) ?_
    exact tw_isret E (Or.inl rfl) d_Layout_lengthOf_28
set_option maxHeartbeats 4000000 in
set_option maxRecDepth 100000 in
theorem e_Layout_instructionAt (l : Launch) (g : tw_G) (sz : Nat) (h0 : Nat) (w : Nat → Nat) (v : LY) (k : Int32) (a : Int32) (hI : LI v) : Met l y_Layout_instructionAt [.code y_Layout_instructionAt b_Layout_instructionAt 3 (some .int)] ({ frames := 3, cells := 0, slots := 0, locals := 67 }) (tw_P g [.ref h0, .int k, .int a] [(h0, .inr (3, [.ref (w 0), .ref (w 2), .ref (w 7), .ref (w 8), .ref (w 9), .ref (w 10), .ref (w 11), .ref (w 12), .ref (w 13), .int v.nu, .int v.th, .int v.it, .int (nI v.fi), .int (nI v.me), .int v.mp])), ((w 0), .inr (2, [.ref (w 1), .int (nI v.n)])), ((w 1), aB g 600 v.b), ((w 2), .inr (1, [.ref (w 3), .ref (w 4), .ref (w 5), .ref (w 6), .int (nI v.lo)])), ((w 3), aJ g 4800 v.rw), ((w 4), aB g 600 v.bg), ((w 5), aB g 600 v.wt), ((w 6), aB g 600 v.dp), ((w 7), aI g 200 v.tg), ((w 8), aI g 200 v.ca), ((w 9), aI g 200 v.fs), ((w 10), aI g 200 v.sc), ((w 11), aI g 75 v.fa), ((w 12), aI g 75 v.ma), ((w 13), aI g 75 v.co)] sz) (vp_Si (fun r => r = -1 ∨ ¬ co_of v k = 0)) 0 0 (fun _ => False) := by
  refine tw_met (l := l) (g := g) (y := y_Layout_instructionAt) (cc := b_Layout_instructionAt) (maxL := 3) (ret := (some .int)) (rm := { frames := 3, cells := 0, slots := 0, locals := 67 }) (mc := 0) (ms := 0) (av := [.ref h0, .int k, .int a]) (ws := [(h0, .inr (3, [.ref (w 0), .ref (w 2), .ref (w 7), .ref (w 8), .ref (w 9), .ref (w 10), .ref (w 11), .ref (w 12), .ref (w 13), .int v.nu, .int v.th, .int v.it, .int (nI v.fi), .int (nI v.me), .int v.mp])), ((w 0), .inr (2, [.ref (w 1), .int (nI v.n)])), ((w 1), aB g 600 v.b), ((w 2), .inr (1, [.ref (w 3), .ref (w 4), .ref (w 5), .ref (w 6), .int (nI v.lo)])), ((w 3), aJ g 4800 v.rw), ((w 4), aB g 600 v.bg), ((w 5), aB g 600 v.wt), ((w 6), aB g 600 v.dp), ((w 7), aI g 200 v.tg), ((w 8), aI g 200 v.ca), ((w 9), aI g 200 v.fs), ((w 10), aI g 200 v.sc), ((w 11), aI g 75 v.fa), ((w 12), aI g 75 v.ma), ((w 13), aI g 75 v.co)]) (sz := sz) (Qc := fun _ => (vp_Si (fun r => r = -1 ∨ ¬ co_of v k = 0))) (free := fun _ _ => False) (by decide) (Nat.le_of_ble_eq_true rfl) ?_
  intro p e s m below meth c ls A E hB hK hZ hP hD hS hA hl
  obtain ⟨hx, hb, hml, hr, hown, hts, hlocks, hin⟩ := id E
  have hl : lv_has ls 3 [(0, .ref h0), (1, .int k), (2, .int a)] := hl
  refine lv_iload_n hx hb d_Layout_instructionAt_0 rfl (lv_at hl 2 rfl) ?_
  refine lv_if_lt (tgt := 23) hx hb d_Layout_instructionAt_1 (by decide) (fun h1 => ?_) (fun h1 => ?_)
  · refine lv_iconst (v := (-1)) hx hb d_Layout_instructionAt_23 (by decide) ?_
    exact tw_isret E (Or.inl rfl) d_Layout_instructionAt_24
  · refine lv_iload_n hx hb d_Layout_instructionAt_4 rfl (lv_at hl 2 rfl) ?_
    refine lv_aload_n hx hb d_Layout_instructionAt_5 rfl (lv_at hl 0 rfl) ?_
    refine lv_iload_n hx hb d_Layout_instructionAt_6 rfl (lv_at hl 1 rfl) ?_
    refine tw_si (tw_runV (ws := [(h0, .inr (3, [.ref (w 0), .ref (w 2), .ref (w 7), .ref (w 8), .ref (w 9), .ref (w 10), .ref (w 11), .ref (w 12), .ref (w 13), .int v.nu, .int v.th, .int v.it, .int (nI v.fi), .int (nI v.me), .int v.mp])), ((w 0), .inr (2, [.ref (w 1), .int (nI v.n)])), ((w 1), aB g 600 v.b), ((w 2), .inr (1, [.ref (w 3), .ref (w 4), .ref (w 5), .ref (w 6), .int (nI v.lo)])), ((w 3), aJ g 4800 v.rw), ((w 4), aB g 600 v.bg), ((w 5), aB g 600 v.wt), ((w 6), aB g 600 v.dp), ((w 7), aI g 200 v.tg), ((w 8), aI g 200 v.ca), ((w 9), aI g 200 v.fs), ((w 10), aI g 200 v.sc), ((w 11), aI g 75 v.fa), ((w 12), aI g 75 v.ma), ((w 13), aI g 75 v.co)]) (wc := [(h0, .inr (3, [.ref (w 0), .ref (w 2), .ref (w 7), .ref (w 8), .ref (w 9), .ref (w 10), .ref (w 11), .ref (w 12), .ref (w 13), .int v.nu, .int v.th, .int v.it, .int (nI v.fi), .int (nI v.me), .int v.mp])), ((w 0), .inr (2, [.ref (w 1), .int (nI v.n)])), ((w 1), aB g 600 v.b), ((w 2), .inr (1, [.ref (w 3), .ref (w 4), .ref (w 5), .ref (w 6), .int (nI v.lo)])), ((w 3), aJ g 4800 v.rw), ((w 4), aB g 600 v.bg), ((w 5), aB g 600 v.wt), ((w 6), aB g 600 v.dp), ((w 7), aI g 200 v.tg), ((w 8), aI g 200 v.ca), ((w 9), aI g 200 v.fs), ((w 10), aI g 200 v.sc), ((w 11), aI g 75 v.fa), ((w 12), aI g 75 v.ma), ((w 13), aI g 75 v.co)]) (As := [.int k]) (rest := [.int a]) E hB hK hZ (e_Layout_lengthOf l g s.heap.size h0 w v k hI) mc_Layout_lengthOf mi_Layout_lengthOf me_Layout_lengthOf wd_1185 hP hD hS hA [0, 1, 2, 3, 4, 5, 6, 7, 8, 9, 10, 11, 12, 13, 14] rfl (by decide) 0 rfl rfl rfl rfl rfl (by decide) rfl hl.1 rfl (Nat.le_of_ble_eq_true rfl) (by decide) d_Layout_instructionAt_7) (fun r1 hr1 => ?_)
    refine lv_icmp_ge (tgt := 23) hx hb d_Layout_instructionAt_10 (by decide) (fun h10 => ?_) (fun h10 => ?_)
    · refine lv_iconst (v := (-1)) hx hb d_Layout_instructionAt_23 (by decide) ?_
      exact tw_isret E (Or.inl rfl) d_Layout_instructionAt_24
    · refine lv_aload_n hx hb d_Layout_instructionAt_13 rfl (lv_at hl 0 rfl) ?_
      refine lv_iload_n hx hb d_Layout_instructionAt_14 rfl (lv_at hl 1 rfl) ?_
      refine tw_si (tw_runV (ws := [(h0, .inr (3, [.ref (w 0), .ref (w 2), .ref (w 7), .ref (w 8), .ref (w 9), .ref (w 10), .ref (w 11), .ref (w 12), .ref (w 13), .int v.nu, .int v.th, .int v.it, .int (nI v.fi), .int (nI v.me), .int v.mp])), ((w 0), .inr (2, [.ref (w 1), .int (nI v.n)])), ((w 1), aB g 600 v.b), ((w 2), .inr (1, [.ref (w 3), .ref (w 4), .ref (w 5), .ref (w 6), .int (nI v.lo)])), ((w 3), aJ g 4800 v.rw), ((w 4), aB g 600 v.bg), ((w 5), aB g 600 v.wt), ((w 6), aB g 600 v.dp), ((w 7), aI g 200 v.tg), ((w 8), aI g 200 v.ca), ((w 9), aI g 200 v.fs), ((w 10), aI g 200 v.sc), ((w 11), aI g 75 v.fa), ((w 12), aI g 75 v.ma), ((w 13), aI g 75 v.co)]) (wc := [(h0, .inr (3, [.ref (w 0), .ref (w 2), .ref (w 7), .ref (w 8), .ref (w 9), .ref (w 10), .ref (w 11), .ref (w 12), .ref (w 13), .int v.nu, .int v.th, .int v.it, .int (nI v.fi), .int (nI v.me), .int v.mp])), ((w 0), .inr (2, [.ref (w 1), .int (nI v.n)])), ((w 1), aB g 600 v.b), ((w 2), .inr (1, [.ref (w 3), .ref (w 4), .ref (w 5), .ref (w 6), .int (nI v.lo)])), ((w 3), aJ g 4800 v.rw), ((w 4), aB g 600 v.bg), ((w 5), aB g 600 v.wt), ((w 6), aB g 600 v.dp), ((w 7), aI g 200 v.tg), ((w 8), aI g 200 v.ca), ((w 9), aI g 200 v.fs), ((w 10), aI g 200 v.sc), ((w 11), aI g 75 v.fa), ((w 12), aI g 75 v.ma), ((w 13), aI g 75 v.co)]) (As := [.int k]) (rest := []) E hB hK hZ (s_Layout_instructionsAt l g s.heap.size h0 w v k hI) mc_Layout_instructionsAt mi_Layout_instructionsAt me_Layout_instructionsAt wd_1226 hP hD hS hA [0, 1, 2, 3, 4, 5, 6, 7, 8, 9, 10, 11, 12, 13, 14] rfl (by decide) 0 rfl rfl rfl rfl rfl (by decide) rfl hl.1 rfl (Nat.le_of_ble_eq_true rfl) (by decide) d_Layout_instructionAt_15) (fun r2 hr2 => ?_)
      refine lv_iload_n hx hb d_Layout_instructionAt_18 rfl (lv_at hl 2 rfl) ?_
      refine lv_iadd hx hb d_Layout_instructionAt_19 ?_
      obtain ⟨x3, ex3⟩ : ∃ z : Int32, r2 + a = z := ⟨_, rfl⟩
      refine tw_ri (e2 := x3) ex3 ?_
      refine lv_goto (tgt := 24) hx hb d_Layout_instructionAt_20 (by decide) ?_
      exact tw_isret E (Or.inr (ia_co hr1 h1 h10)) d_Layout_instructionAt_24
set_option maxHeartbeats 4000000 in
set_option maxRecDepth 100000 in
theorem e_Policy_faultOfMethod (l : Launch) (g : tw_G) (sz : Nat) (po p0 p1 p2 h0 : Nat) (w : Nat → Nat) (v : LY) (mm mb : Int32) (lt ln mn : Nat → Int32) (k : Int32) (hI : LI v) (hLn : ∀ k, k < 12 → ∃ j, j ≤ 40 ∧ ln k = nI j) (hMn : ∀ k, k < 2 → ∃ j, j ≤ 6 ∧ mn k = nI j) : Met l y_Policy_faultOfMethod [.code y_Policy_faultOfMethod b_Policy_faultOfMethod 5 (some .int)] ({ frames := 5, cells := 0, slots := 0, locals := 109 }) (tw_P g [.ref po, .ref h0, .int k] [(po, .inr (6, [.ref p0, .ref p1, .ref p2, .int mm, .int mb])), (p0, aB g 480 lt), (p1, aI g 12 ln), (p2, aI g 2 mn), (h0, .inr (3, [.ref (w 0), .ref (w 2), .ref (w 7), .ref (w 8), .ref (w 9), .ref (w 10), .ref (w 11), .ref (w 12), .ref (w 13), .int v.nu, .int v.th, .int v.it, .int (nI v.fi), .int (nI v.me), .int v.mp])), ((w 0), .inr (2, [.ref (w 1), .int (nI v.n)])), ((w 1), aB g 600 v.b), ((w 2), .inr (1, [.ref (w 3), .ref (w 4), .ref (w 5), .ref (w 6), .int (nI v.lo)])), ((w 3), aJ g 4800 v.rw), ((w 4), aB g 600 v.bg), ((w 5), aB g 600 v.wt), ((w 6), aB g 600 v.dp), ((w 7), aI g 200 v.tg), ((w 8), aI g 200 v.ca), ((w 9), aI g 200 v.fs), ((w 10), aI g 200 v.sc), ((w 11), aI g 75 v.fa), ((w 12), aI g 75 v.ma), ((w 13), aI g 75 v.co)] sz) (vp_Si (fun r => r = 0 → co_of v k = 0 ∨ im_two v.b v.n (co_of v k + 8) ≤ 64)) 0 0 (fun _ => False) := by
  refine tw_met (l := l) (g := g) (y := y_Policy_faultOfMethod) (cc := b_Policy_faultOfMethod) (maxL := 5) (ret := (some .int)) (rm := { frames := 5, cells := 0, slots := 0, locals := 109 }) (mc := 0) (ms := 0) (av := [.ref po, .ref h0, .int k]) (ws := [(po, .inr (6, [.ref p0, .ref p1, .ref p2, .int mm, .int mb])), (p0, aB g 480 lt), (p1, aI g 12 ln), (p2, aI g 2 mn), (h0, .inr (3, [.ref (w 0), .ref (w 2), .ref (w 7), .ref (w 8), .ref (w 9), .ref (w 10), .ref (w 11), .ref (w 12), .ref (w 13), .int v.nu, .int v.th, .int v.it, .int (nI v.fi), .int (nI v.me), .int v.mp])), ((w 0), .inr (2, [.ref (w 1), .int (nI v.n)])), ((w 1), aB g 600 v.b), ((w 2), .inr (1, [.ref (w 3), .ref (w 4), .ref (w 5), .ref (w 6), .int (nI v.lo)])), ((w 3), aJ g 4800 v.rw), ((w 4), aB g 600 v.bg), ((w 5), aB g 600 v.wt), ((w 6), aB g 600 v.dp), ((w 7), aI g 200 v.tg), ((w 8), aI g 200 v.ca), ((w 9), aI g 200 v.fs), ((w 10), aI g 200 v.sc), ((w 11), aI g 75 v.fa), ((w 12), aI g 75 v.ma), ((w 13), aI g 75 v.co)]) (sz := sz) (Qc := fun _ => (vp_Si (fun r => r = 0 → co_of v k = 0 ∨ im_two v.b v.n (co_of v k + 8) ≤ 64))) (free := fun _ _ => False) (by decide) (Nat.le_of_ble_eq_true rfl) ?_
  intro p e s m below meth c ls A E hB hK hZ hP hD hS hA hl
  obtain ⟨hx, hb, hml, hr, hown, hts, hlocks, hin⟩ := id E
  have hl : lv_has ls 5 [(0, .ref po), (1, .ref h0), (2, .int k)] := hl
  refine lv_aload_n hx hb d_Policy_faultOfMethod_0 rfl (lv_at hl 1 rfl) ?_
  refine lv_iconst (v := 1) hx hb d_Policy_faultOfMethod_1 (by decide) ?_
  refine lv_iload_n hx hb d_Policy_faultOfMethod_2 rfl (lv_at hl 2 rfl) ?_
  refine tw_si (tw_runV (ws := [(po, .inr (6, [.ref p0, .ref p1, .ref p2, .int mm, .int mb])), (p0, aB g 480 lt), (p1, aI g 12 ln), (p2, aI g 2 mn), (h0, .inr (3, [.ref (w 0), .ref (w 2), .ref (w 7), .ref (w 8), .ref (w 9), .ref (w 10), .ref (w 11), .ref (w 12), .ref (w 13), .int v.nu, .int v.th, .int v.it, .int (nI v.fi), .int (nI v.me), .int v.mp])), ((w 0), .inr (2, [.ref (w 1), .int (nI v.n)])), ((w 1), aB g 600 v.b), ((w 2), .inr (1, [.ref (w 3), .ref (w 4), .ref (w 5), .ref (w 6), .int (nI v.lo)])), ((w 3), aJ g 4800 v.rw), ((w 4), aB g 600 v.bg), ((w 5), aB g 600 v.wt), ((w 6), aB g 600 v.dp), ((w 7), aI g 200 v.tg), ((w 8), aI g 200 v.ca), ((w 9), aI g 200 v.fs), ((w 10), aI g 200 v.sc), ((w 11), aI g 75 v.fa), ((w 12), aI g 75 v.ma), ((w 13), aI g 75 v.co)]) (wc := [(h0, .inr (3, [.ref (w 0), .ref (w 2), .ref (w 7), .ref (w 8), .ref (w 9), .ref (w 10), .ref (w 11), .ref (w 12), .ref (w 13), .int v.nu, .int v.th, .int v.it, .int (nI v.fi), .int (nI v.me), .int v.mp])), ((w 0), .inr (2, [.ref (w 1), .int (nI v.n)])), ((w 1), aB g 600 v.b), ((w 2), .inr (1, [.ref (w 3), .ref (w 4), .ref (w 5), .ref (w 6), .int (nI v.lo)])), ((w 3), aJ g 4800 v.rw), ((w 4), aB g 600 v.bg), ((w 5), aB g 600 v.wt), ((w 6), aB g 600 v.dp), ((w 7), aI g 200 v.tg), ((w 8), aI g 200 v.ca), ((w 9), aI g 200 v.fs), ((w 10), aI g 200 v.sc), ((w 11), aI g 75 v.fa), ((w 12), aI g 75 v.ma), ((w 13), aI g 75 v.co)]) (As := [.int 1, .int k]) (rest := []) E hB hK hZ (s_Layout_memberAt l g s.heap.size h0 w v 1 k hI) mc_Layout_memberAt mi_Layout_memberAt me_Layout_memberAt wd_675 hP hD hS hA [4, 5, 6, 7, 8, 9, 10, 11, 12, 13, 14, 15, 16, 17, 18] rfl (by decide) 0 rfl rfl rfl rfl rfl (by decide) rfl hl.1 rfl (Nat.le_of_ble_eq_true rfl) (by decide) d_Policy_faultOfMethod_3) (fun r1 hr1 => ?_)
  refine lv_istore_n hx hb d_Policy_faultOfMethod_6 rfl hl (by decide) rfl (fun ls hl => ?_)
  have hl : lv_has ls 5 [(3, .int r1), (0, .ref po), (1, .ref h0), (2, .int k)] := hl
  refine lv_aload_n hx hb d_Policy_faultOfMethod_7 rfl (lv_at hl 2 rfl) ?_
  refine va_getN (D := g.1) (ci := 3) (v := .ref (w 0)) (C := R_Layout) (T := F_Layout) (N := 15) hx hb hts in_Layout hown hK hP 4 rfl rfl 0 (by decide) (hts _ wd_246) (fun _ h9 => h9) rfl d_Policy_faultOfMethod_8 ?_
  refine lv_iload_n hx hb d_Policy_faultOfMethod_11 rfl (lv_at hl 0 rfl) ?_
  refine tw_si (tw_runV (ws := [(po, .inr (6, [.ref p0, .ref p1, .ref p2, .int mm, .int mb])), (p0, aB g 480 lt), (p1, aI g 12 ln), (p2, aI g 2 mn), (h0, .inr (3, [.ref (w 0), .ref (w 2), .ref (w 7), .ref (w 8), .ref (w 9), .ref (w 10), .ref (w 11), .ref (w 12), .ref (w 13), .int v.nu, .int v.th, .int v.it, .int (nI v.fi), .int (nI v.me), .int v.mp])), ((w 0), .inr (2, [.ref (w 1), .int (nI v.n)])), ((w 1), aB g 600 v.b), ((w 2), .inr (1, [.ref (w 3), .ref (w 4), .ref (w 5), .ref (w 6), .int (nI v.lo)])), ((w 3), aJ g 4800 v.rw), ((w 4), aB g 600 v.bg), ((w 5), aB g 600 v.wt), ((w 6), aB g 600 v.dp), ((w 7), aI g 200 v.tg), ((w 8), aI g 200 v.ca), ((w 9), aI g 200 v.fs), ((w 10), aI g 200 v.sc), ((w 11), aI g 75 v.fa), ((w 12), aI g 75 v.ma), ((w 13), aI g 75 v.co)]) (wc := [((w 0), .inr (2, [.ref (w 1), .int (nI v.n)])), ((w 1), aB g 600 v.b)]) (As := [.int r1]) (rest := []) E hB hK hZ (s_Image_twoAt l g s.heap.size (w 0) (w 1) v.n v.b r1 hI.n) mc_Image_twoAt mi_Image_twoAt me_Image_twoAt wd_676 hP hD hS hA [5, 6] rfl (by decide) 0 rfl rfl rfl rfl rfl (by decide) rfl hl.1 rfl (Nat.le_of_ble_eq_true rfl) (by decide) d_Policy_faultOfMethod_12) (fun r2 hr2 => ?_)
  refine lv_sipush (v := 256) hx hb d_Policy_faultOfMethod_15 (by decide) ?_
  refine lv_iand hx hb d_Policy_faultOfMethod_18 ?_
  obtain ⟨x3, ex3⟩ : ∃ z : Int32, r2 &&& 256 = z := ⟨_, rfl⟩
  refine tw_ri (e2 := x3) ex3 ?_
  refine lv_if_eq (tgt := 25) hx hb d_Policy_faultOfMethod_19 (by decide) (fun h19 => ?_) (fun h19 => ?_)
  · refine lv_aload_n hx hb d_Policy_faultOfMethod_25 rfl (lv_at hl 2 rfl) ?_
    refine lv_aload_n hx hb d_Policy_faultOfMethod_26 rfl (lv_at hl 2 rfl) ?_
    refine lv_iload_n hx hb d_Policy_faultOfMethod_27 rfl (lv_at hl 0 rfl) ?_
    refine tw_si (tw_runV (ws := [(po, .inr (6, [.ref p0, .ref p1, .ref p2, .int mm, .int mb])), (p0, aB g 480 lt), (p1, aI g 12 ln), (p2, aI g 2 mn), (h0, .inr (3, [.ref (w 0), .ref (w 2), .ref (w 7), .ref (w 8), .ref (w 9), .ref (w 10), .ref (w 11), .ref (w 12), .ref (w 13), .int v.nu, .int v.th, .int v.it, .int (nI v.fi), .int (nI v.me), .int v.mp])), ((w 0), .inr (2, [.ref (w 1), .int (nI v.n)])), ((w 1), aB g 600 v.b), ((w 2), .inr (1, [.ref (w 3), .ref (w 4), .ref (w 5), .ref (w 6), .int (nI v.lo)])), ((w 3), aJ g 4800 v.rw), ((w 4), aB g 600 v.bg), ((w 5), aB g 600 v.wt), ((w 6), aB g 600 v.dp), ((w 7), aI g 200 v.tg), ((w 8), aI g 200 v.ca), ((w 9), aI g 200 v.fs), ((w 10), aI g 200 v.sc), ((w 11), aI g 75 v.fa), ((w 12), aI g 75 v.ma), ((w 13), aI g 75 v.co)]) (wc := [(h0, .inr (3, [.ref (w 0), .ref (w 2), .ref (w 7), .ref (w 8), .ref (w 9), .ref (w 10), .ref (w 11), .ref (w 12), .ref (w 13), .int v.nu, .int v.th, .int v.it, .int (nI v.fi), .int (nI v.me), .int v.mp])), ((w 0), .inr (2, [.ref (w 1), .int (nI v.n)])), ((w 1), aB g 600 v.b), ((w 2), .inr (1, [.ref (w 3), .ref (w 4), .ref (w 5), .ref (w 6), .int (nI v.lo)])), ((w 3), aJ g 4800 v.rw), ((w 4), aB g 600 v.bg), ((w 5), aB g 600 v.wt), ((w 6), aB g 600 v.dp), ((w 7), aI g 200 v.tg), ((w 8), aI g 200 v.ca), ((w 9), aI g 200 v.fs), ((w 10), aI g 200 v.sc), ((w 11), aI g 75 v.fa), ((w 12), aI g 75 v.ma), ((w 13), aI g 75 v.co)]) (As := [.int r1]) (rest := [.ref h0]) E hB hK hZ (s_Layout_nameAt l g s.heap.size h0 w v r1 hI) mc_Layout_nameAt mi_Layout_nameAt me_Layout_nameAt wd_677 hP hD hS hA [4, 5, 6, 7, 8, 9, 10, 11, 12, 13, 14, 15, 16, 17, 18] rfl (by decide) 0 rfl rfl rfl rfl rfl (by decide) rfl hl.1 rfl (Nat.le_of_ble_eq_true rfl) (by decide) d_Policy_faultOfMethod_28) (fun r4 hr4 => ?_)
    refine va_ldcS hx hb hown (hZ.2.2.1 3 (by decide)).2 d_Policy_faultOfMethod_31 ?_
    refine tw_si (tw_runV (ws := [(po, .inr (6, [.ref p0, .ref p1, .ref p2, .int mm, .int mb])), (p0, aB g 480 lt), (p1, aI g 12 ln), (p2, aI g 2 mn), (h0, .inr (3, [.ref (w 0), .ref (w 2), .ref (w 7), .ref (w 8), .ref (w 9), .ref (w 10), .ref (w 11), .ref (w 12), .ref (w 13), .int v.nu, .int v.th, .int v.it, .int (nI v.fi), .int (nI v.me), .int v.mp])), ((w 0), .inr (2, [.ref (w 1), .int (nI v.n)])), ((w 1), aB g 600 v.b), ((w 2), .inr (1, [.ref (w 3), .ref (w 4), .ref (w 5), .ref (w 6), .int (nI v.lo)])), ((w 3), aJ g 4800 v.rw), ((w 4), aB g 600 v.bg), ((w 5), aB g 600 v.wt), ((w 6), aB g 600 v.dp), ((w 7), aI g 200 v.tg), ((w 8), aI g 200 v.ca), ((w 9), aI g 200 v.fs), ((w 10), aI g 200 v.sc), ((w 11), aI g 75 v.fa), ((w 12), aI g 75 v.ma), ((w 13), aI g 75 v.co)]) (wc := [(h0, .inr (3, [.ref (w 0), .ref (w 2), .ref (w 7), .ref (w 8), .ref (w 9), .ref (w 10), .ref (w 11), .ref (w 12), .ref (w 13), .int v.nu, .int v.th, .int v.it, .int (nI v.fi), .int (nI v.me), .int v.mp])), ((w 0), .inr (2, [.ref (w 1), .int (nI v.n)])), ((w 1), aB g 600 v.b), ((w 2), .inr (1, [.ref (w 3), .ref (w 4), .ref (w 5), .ref (w 6), .int (nI v.lo)])), ((w 3), aJ g 4800 v.rw), ((w 4), aB g 600 v.bg), ((w 5), aB g 600 v.wt), ((w 6), aB g 600 v.dp), ((w 7), aI g 200 v.tg), ((w 8), aI g 200 v.ca), ((w 9), aI g 200 v.fs), ((w 10), aI g 200 v.sc), ((w 11), aI g 75 v.fa), ((w 12), aI g 75 v.ma), ((w 13), aI g 75 v.co)]) (As := [.int r4, .ref (g.2.2.1 3)]) (rest := []) E hB hK hZ (s_Layout_spells l g s.heap.size h0 w v r4 3 hI (by decide)) mc_Layout_spells mi_Layout_spells me_Layout_spells wd_679 hP hD hS hA [4, 5, 6, 7, 8, 9, 10, 11, 12, 13, 14, 15, 16, 17, 18] rfl (by decide) 0 rfl rfl rfl rfl rfl (by decide) rfl hl.1 rfl (Nat.le_of_ble_eq_true rfl) (by decide) d_Policy_faultOfMethod_33) (fun r5 hr5 => ?_)
    refine lv_if_eq (tgt := 56) hx hb d_Policy_faultOfMethod_36 (by decide) (fun h36 => ?_) (fun h36 => ?_)
    · refine lv_aload_n hx hb d_Policy_faultOfMethod_56 rfl (lv_at hl 2 rfl) ?_
      refine lv_iload_n hx hb d_Policy_faultOfMethod_57 rfl (lv_at hl 3 rfl) ?_
      refine tw_si (tw_runV (ws := [(po, .inr (6, [.ref p0, .ref p1, .ref p2, .int mm, .int mb])), (p0, aB g 480 lt), (p1, aI g 12 ln), (p2, aI g 2 mn), (h0, .inr (3, [.ref (w 0), .ref (w 2), .ref (w 7), .ref (w 8), .ref (w 9), .ref (w 10), .ref (w 11), .ref (w 12), .ref (w 13), .int v.nu, .int v.th, .int v.it, .int (nI v.fi), .int (nI v.me), .int v.mp])), ((w 0), .inr (2, [.ref (w 1), .int (nI v.n)])), ((w 1), aB g 600 v.b), ((w 2), .inr (1, [.ref (w 3), .ref (w 4), .ref (w 5), .ref (w 6), .int (nI v.lo)])), ((w 3), aJ g 4800 v.rw), ((w 4), aB g 600 v.bg), ((w 5), aB g 600 v.wt), ((w 6), aB g 600 v.dp), ((w 7), aI g 200 v.tg), ((w 8), aI g 200 v.ca), ((w 9), aI g 200 v.fs), ((w 10), aI g 200 v.sc), ((w 11), aI g 75 v.fa), ((w 12), aI g 75 v.ma), ((w 13), aI g 75 v.co)]) (wc := [(h0, .inr (3, [.ref (w 0), .ref (w 2), .ref (w 7), .ref (w 8), .ref (w 9), .ref (w 10), .ref (w 11), .ref (w 12), .ref (w 13), .int v.nu, .int v.th, .int v.it, .int (nI v.fi), .int (nI v.me), .int v.mp])), ((w 0), .inr (2, [.ref (w 1), .int (nI v.n)])), ((w 1), aB g 600 v.b), ((w 2), .inr (1, [.ref (w 3), .ref (w 4), .ref (w 5), .ref (w 6), .int (nI v.lo)])), ((w 3), aJ g 4800 v.rw), ((w 4), aB g 600 v.bg), ((w 5), aB g 600 v.wt), ((w 6), aB g 600 v.dp), ((w 7), aI g 200 v.tg), ((w 8), aI g 200 v.ca), ((w 9), aI g 200 v.fs), ((w 10), aI g 200 v.sc), ((w 11), aI g 75 v.fa), ((w 12), aI g 75 v.ma), ((w 13), aI g 75 v.co)]) (As := [.int k]) (rest := []) E hB hK hZ (e_Layout_codeOf l g s.heap.size h0 w v k hI) mc_Layout_codeOf mi_Layout_codeOf me_Layout_codeOf wd_682 hP hD hS hA [4, 5, 6, 7, 8, 9, 10, 11, 12, 13, 14, 15, 16, 17, 18] rfl (by decide) 0 rfl rfl rfl rfl rfl (by decide) rfl hl.1 rfl (Nat.le_of_ble_eq_true rfl) (by decide) d_Policy_faultOfMethod_58) (fun r6 hr6 => ?_)
      obtain rfl : r6 = co_of v k := hr6
      refine lv_if_ne (tgt := 66) hx hb d_Policy_faultOfMethod_61 (by decide) (fun h61 => ?_) (fun h61 => ?_)
      · refine lv_aload_n hx hb d_Policy_faultOfMethod_66 rfl (lv_at hl 2 rfl) ?_
        refine lv_iload_n hx hb d_Policy_faultOfMethod_67 rfl (lv_at hl 3 rfl) ?_
        refine tw_si (tw_runV (ws := [(po, .inr (6, [.ref p0, .ref p1, .ref p2, .int mm, .int mb])), (p0, aB g 480 lt), (p1, aI g 12 ln), (p2, aI g 2 mn), (h0, .inr (3, [.ref (w 0), .ref (w 2), .ref (w 7), .ref (w 8), .ref (w 9), .ref (w 10), .ref (w 11), .ref (w 12), .ref (w 13), .int v.nu, .int v.th, .int v.it, .int (nI v.fi), .int (nI v.me), .int v.mp])), ((w 0), .inr (2, [.ref (w 1), .int (nI v.n)])), ((w 1), aB g 600 v.b), ((w 2), .inr (1, [.ref (w 3), .ref (w 4), .ref (w 5), .ref (w 6), .int (nI v.lo)])), ((w 3), aJ g 4800 v.rw), ((w 4), aB g 600 v.bg), ((w 5), aB g 600 v.wt), ((w 6), aB g 600 v.dp), ((w 7), aI g 200 v.tg), ((w 8), aI g 200 v.ca), ((w 9), aI g 200 v.fs), ((w 10), aI g 200 v.sc), ((w 11), aI g 75 v.fa), ((w 12), aI g 75 v.ma), ((w 13), aI g 75 v.co)]) (wc := [(h0, .inr (3, [.ref (w 0), .ref (w 2), .ref (w 7), .ref (w 8), .ref (w 9), .ref (w 10), .ref (w 11), .ref (w 12), .ref (w 13), .int v.nu, .int v.th, .int v.it, .int (nI v.fi), .int (nI v.me), .int v.mp])), ((w 0), .inr (2, [.ref (w 1), .int (nI v.n)])), ((w 1), aB g 600 v.b), ((w 2), .inr (1, [.ref (w 3), .ref (w 4), .ref (w 5), .ref (w 6), .int (nI v.lo)])), ((w 3), aJ g 4800 v.rw), ((w 4), aB g 600 v.bg), ((w 5), aB g 600 v.wt), ((w 6), aB g 600 v.dp), ((w 7), aI g 200 v.tg), ((w 8), aI g 200 v.ca), ((w 9), aI g 200 v.fs), ((w 10), aI g 200 v.sc), ((w 11), aI g 75 v.fa), ((w 12), aI g 75 v.ma), ((w 13), aI g 75 v.co)]) (As := [.int k]) (rest := []) E hB hK hZ (s_Layout_lengthOf l g s.heap.size h0 w v k hI) mc_Layout_lengthOf mi_Layout_lengthOf me_Layout_lengthOf wd_683 hP hD hS hA [4, 5, 6, 7, 8, 9, 10, 11, 12, 13, 14, 15, 16, 17, 18] rfl (by decide) 0 rfl rfl rfl rfl rfl (by decide) rfl hl.1 rfl (Nat.le_of_ble_eq_true rfl) (by decide) d_Policy_faultOfMethod_68) (fun r7 hr7 => ?_)
        refine lv_aload_n hx hb d_Policy_faultOfMethod_71 rfl (lv_at hl 1 rfl) ?_
        refine va_get (D := g.1) (ci := 6) (v := .int mb) (C := R_Policy) (T := F_Policy) (N := 5) hx hb hts in_Policy hown hK hP 0 rfl rfl 4 (by decide) (hts _ wd_81) (fun _ h9 => h9) rfl d_Policy_faultOfMethod_72 ?_
        refine lv_icmp_gt (tgt := 98) hx hb d_Policy_faultOfMethod_75 (by decide) (fun h75 => ?_) (fun h75 => ?_)
        · refine lv_iconst (v := 1) hx hb d_Policy_faultOfMethod_98 (by decide) ?_
          refine lv_goto (tgt := 103) hx hb d_Policy_faultOfMethod_99 (by decide) ?_
          refine lv_istore hx hb d_Policy_faultOfMethod_103 hl (by decide) rfl (fun ls hl => ?_)
          have hl : lv_has ls 5 [(4, .int 1), (3, .int r1), (0, .ref po), (1, .ref h0), (2, .int k)] := hl
          refine lv_iload hx hb d_Policy_faultOfMethod_105 (lv_at hl 0 rfl) ?_
          refine lv_if_eq (tgt := 115) hx hb d_Policy_faultOfMethod_107 (by decide) (fun h107 => ?_) (fun h107 => ?_)
          · first | exact absurd h107 (by decide) | exact absurd (by decide) h107
          · refine lv_bipush (v := 13) hx hb d_Policy_faultOfMethod_110 (by decide) ?_
            refine lv_goto (tgt := 116) hx hb d_Policy_faultOfMethod_112 (by decide) ?_
            exact tw_isret E (fun h => absurd h (by decide)) d_Policy_faultOfMethod_116
        · refine lv_aload_n hx hb d_Policy_faultOfMethod_78 rfl (lv_at hl 2 rfl) ?_
          refine lv_iload_n hx hb d_Policy_faultOfMethod_79 rfl (lv_at hl 3 rfl) ?_
          refine tw_si (tw_runV (ws := [(po, .inr (6, [.ref p0, .ref p1, .ref p2, .int mm, .int mb])), (p0, aB g 480 lt), (p1, aI g 12 ln), (p2, aI g 2 mn), (h0, .inr (3, [.ref (w 0), .ref (w 2), .ref (w 7), .ref (w 8), .ref (w 9), .ref (w 10), .ref (w 11), .ref (w 12), .ref (w 13), .int v.nu, .int v.th, .int v.it, .int (nI v.fi), .int (nI v.me), .int v.mp])), ((w 0), .inr (2, [.ref (w 1), .int (nI v.n)])), ((w 1), aB g 600 v.b), ((w 2), .inr (1, [.ref (w 3), .ref (w 4), .ref (w 5), .ref (w 6), .int (nI v.lo)])), ((w 3), aJ g 4800 v.rw), ((w 4), aB g 600 v.bg), ((w 5), aB g 600 v.wt), ((w 6), aB g 600 v.dp), ((w 7), aI g 200 v.tg), ((w 8), aI g 200 v.ca), ((w 9), aI g 200 v.fs), ((w 10), aI g 200 v.sc), ((w 11), aI g 75 v.fa), ((w 12), aI g 75 v.ma), ((w 13), aI g 75 v.co)]) (wc := [(h0, .inr (3, [.ref (w 0), .ref (w 2), .ref (w 7), .ref (w 8), .ref (w 9), .ref (w 10), .ref (w 11), .ref (w 12), .ref (w 13), .int v.nu, .int v.th, .int v.it, .int (nI v.fi), .int (nI v.me), .int v.mp])), ((w 0), .inr (2, [.ref (w 1), .int (nI v.n)])), ((w 1), aB g 600 v.b), ((w 2), .inr (1, [.ref (w 3), .ref (w 4), .ref (w 5), .ref (w 6), .int (nI v.lo)])), ((w 3), aJ g 4800 v.rw), ((w 4), aB g 600 v.bg), ((w 5), aB g 600 v.wt), ((w 6), aB g 600 v.dp), ((w 7), aI g 200 v.tg), ((w 8), aI g 200 v.ca), ((w 9), aI g 200 v.fs), ((w 10), aI g 200 v.sc), ((w 11), aI g 75 v.fa), ((w 12), aI g 75 v.ma), ((w 13), aI g 75 v.co)]) (As := [.int k]) (rest := []) E hB hK hZ (s_Layout_stackOf l g s.heap.size h0 w v k hI) mc_Layout_stackOf mi_Layout_stackOf me_Layout_stackOf wd_689 hP hD hS hA [4, 5, 6, 7, 8, 9, 10, 11, 12, 13, 14, 15, 16, 17, 18] rfl (by decide) 0 rfl rfl rfl rfl rfl (by decide) rfl hl.1 rfl (Nat.le_of_ble_eq_true rfl) (by decide) d_Policy_faultOfMethod_80) (fun r8 hr8 => ?_)
          refine lv_bipush (v := 64) hx hb d_Policy_faultOfMethod_83 (by decide) ?_
          refine lv_icmp_gt (tgt := 98) hx hb d_Policy_faultOfMethod_85 (by decide) (fun h85 => ?_) (fun h85 => ?_)
          · refine lv_iconst (v := 1) hx hb d_Policy_faultOfMethod_98 (by decide) ?_
            refine lv_goto (tgt := 103) hx hb d_Policy_faultOfMethod_99 (by decide) ?_
            refine lv_istore hx hb d_Policy_faultOfMethod_103 hl (by decide) rfl (fun ls hl => ?_)
            have hl : lv_has ls 5 [(4, .int 1), (3, .int r1), (0, .ref po), (1, .ref h0), (2, .int k)] := hl
            refine lv_iload hx hb d_Policy_faultOfMethod_105 (lv_at hl 0 rfl) ?_
            refine lv_if_eq (tgt := 115) hx hb d_Policy_faultOfMethod_107 (by decide) (fun h107 => ?_) (fun h107 => ?_)
            · first | exact absurd h107 (by decide) | exact absurd (by decide) h107
            · refine lv_bipush (v := 13) hx hb d_Policy_faultOfMethod_110 (by decide) ?_
              refine lv_goto (tgt := 116) hx hb d_Policy_faultOfMethod_112 (by decide) ?_
              exact tw_isret E (fun h => absurd h (by decide)) d_Policy_faultOfMethod_116
          · refine lv_aload_n hx hb d_Policy_faultOfMethod_88 rfl (lv_at hl 2 rfl) ?_
            refine lv_iload_n hx hb d_Policy_faultOfMethod_89 rfl (lv_at hl 3 rfl) ?_
            refine tw_si (tw_runV (ws := [(po, .inr (6, [.ref p0, .ref p1, .ref p2, .int mm, .int mb])), (p0, aB g 480 lt), (p1, aI g 12 ln), (p2, aI g 2 mn), (h0, .inr (3, [.ref (w 0), .ref (w 2), .ref (w 7), .ref (w 8), .ref (w 9), .ref (w 10), .ref (w 11), .ref (w 12), .ref (w 13), .int v.nu, .int v.th, .int v.it, .int (nI v.fi), .int (nI v.me), .int v.mp])), ((w 0), .inr (2, [.ref (w 1), .int (nI v.n)])), ((w 1), aB g 600 v.b), ((w 2), .inr (1, [.ref (w 3), .ref (w 4), .ref (w 5), .ref (w 6), .int (nI v.lo)])), ((w 3), aJ g 4800 v.rw), ((w 4), aB g 600 v.bg), ((w 5), aB g 600 v.wt), ((w 6), aB g 600 v.dp), ((w 7), aI g 200 v.tg), ((w 8), aI g 200 v.ca), ((w 9), aI g 200 v.fs), ((w 10), aI g 200 v.sc), ((w 11), aI g 75 v.fa), ((w 12), aI g 75 v.ma), ((w 13), aI g 75 v.co)]) (wc := [(h0, .inr (3, [.ref (w 0), .ref (w 2), .ref (w 7), .ref (w 8), .ref (w 9), .ref (w 10), .ref (w 11), .ref (w 12), .ref (w 13), .int v.nu, .int v.th, .int v.it, .int (nI v.fi), .int (nI v.me), .int v.mp])), ((w 0), .inr (2, [.ref (w 1), .int (nI v.n)])), ((w 1), aB g 600 v.b), ((w 2), .inr (1, [.ref (w 3), .ref (w 4), .ref (w 5), .ref (w 6), .int (nI v.lo)])), ((w 3), aJ g 4800 v.rw), ((w 4), aB g 600 v.bg), ((w 5), aB g 600 v.wt), ((w 6), aB g 600 v.dp), ((w 7), aI g 200 v.tg), ((w 8), aI g 200 v.ca), ((w 9), aI g 200 v.fs), ((w 10), aI g 200 v.sc), ((w 11), aI g 75 v.fa), ((w 12), aI g 75 v.ma), ((w 13), aI g 75 v.co)]) (As := [.int k]) (rest := []) E hB hK hZ (e_Layout_localsOf l g s.heap.size h0 w v k hI) mc_Layout_localsOf mi_Layout_localsOf me_Layout_localsOf wd_693 hP hD hS hA [4, 5, 6, 7, 8, 9, 10, 11, 12, 13, 14, 15, 16, 17, 18] rfl (by decide) 0 rfl rfl rfl rfl rfl (by decide) rfl hl.1 rfl (Nat.le_of_ble_eq_true rfl) (by decide) d_Policy_faultOfMethod_90) (fun r9 hr9 => ?_)
            refine lv_bipush (v := 64) hx hb d_Policy_faultOfMethod_93 (by decide) ?_
            refine lv_icmp_le (tgt := 102) hx hb d_Policy_faultOfMethod_95 (by decide) (fun h95 => ?_) (fun h95 => ?_)
            · refine lv_iconst (v := 0) hx hb d_Policy_faultOfMethod_102 (by decide) ?_
              refine lv_istore hx hb d_Policy_faultOfMethod_103 hl (by decide) rfl (fun ls hl => ?_)
              have hl : lv_has ls 5 [(4, .int 0), (3, .int r1), (0, .ref po), (1, .ref h0), (2, .int k)] := hl
              refine lv_iload hx hb d_Policy_faultOfMethod_105 (lv_at hl 0 rfl) ?_
              refine lv_if_eq (tgt := 115) hx hb d_Policy_faultOfMethod_107 (by decide) (fun h107 => ?_) (fun h107 => ?_)
              · refine lv_iconst (v := 0) hx hb d_Policy_faultOfMethod_115 (by decide) ?_
                exact tw_isret E (fun _ => Or.inr (by rw [← hr9]; exact h95)) d_Policy_faultOfMethod_116
              · first | exact absurd h107 (by decide) | exact absurd (by decide) h107
            · refine lv_iconst (v := 1) hx hb d_Policy_faultOfMethod_98 (by decide) ?_
              refine lv_goto (tgt := 103) hx hb d_Policy_faultOfMethod_99 (by decide) ?_
              refine lv_istore hx hb d_Policy_faultOfMethod_103 hl (by decide) rfl (fun ls hl => ?_)
              have hl : lv_has ls 5 [(4, .int 1), (3, .int r1), (0, .ref po), (1, .ref h0), (2, .int k)] := hl
              refine lv_iload hx hb d_Policy_faultOfMethod_105 (lv_at hl 0 rfl) ?_
              refine lv_if_eq (tgt := 115) hx hb d_Policy_faultOfMethod_107 (by decide) (fun h107 => ?_) (fun h107 => ?_)
              · first | exact absurd h107 (by decide) | exact absurd (by decide) h107
              · refine lv_bipush (v := 13) hx hb d_Policy_faultOfMethod_110 (by decide) ?_
                refine lv_goto (tgt := 116) hx hb d_Policy_faultOfMethod_112 (by decide) ?_
                exact tw_isret E (fun h => absurd h (by decide)) d_Policy_faultOfMethod_116
      · refine lv_iconst (v := 0) hx hb d_Policy_faultOfMethod_64 (by decide) ?_
        exact tw_isret E (fun _ => Or.inl h61) d_Policy_faultOfMethod_65
    · refine lv_aload_n hx hb d_Policy_faultOfMethod_39 rfl (lv_at hl 2 rfl) ?_
      refine lv_aload_n hx hb d_Policy_faultOfMethod_40 rfl (lv_at hl 2 rfl) ?_
      refine lv_iload_n hx hb d_Policy_faultOfMethod_41 rfl (lv_at hl 0 rfl) ?_
      refine tw_si (tw_runV (ws := [(po, .inr (6, [.ref p0, .ref p1, .ref p2, .int mm, .int mb])), (p0, aB g 480 lt), (p1, aI g 12 ln), (p2, aI g 2 mn), (h0, .inr (3, [.ref (w 0), .ref (w 2), .ref (w 7), .ref (w 8), .ref (w 9), .ref (w 10), .ref (w 11), .ref (w 12), .ref (w 13), .int v.nu, .int v.th, .int v.it, .int (nI v.fi), .int (nI v.me), .int v.mp])), ((w 0), .inr (2, [.ref (w 1), .int (nI v.n)])), ((w 1), aB g 600 v.b), ((w 2), .inr (1, [.ref (w 3), .ref (w 4), .ref (w 5), .ref (w 6), .int (nI v.lo)])), ((w 3), aJ g 4800 v.rw), ((w 4), aB g 600 v.bg), ((w 5), aB g 600 v.wt), ((w 6), aB g 600 v.dp), ((w 7), aI g 200 v.tg), ((w 8), aI g 200 v.ca), ((w 9), aI g 200 v.fs), ((w 10), aI g 200 v.sc), ((w 11), aI g 75 v.fa), ((w 12), aI g 75 v.ma), ((w 13), aI g 75 v.co)]) (wc := [(h0, .inr (3, [.ref (w 0), .ref (w 2), .ref (w 7), .ref (w 8), .ref (w 9), .ref (w 10), .ref (w 11), .ref (w 12), .ref (w 13), .int v.nu, .int v.th, .int v.it, .int (nI v.fi), .int (nI v.me), .int v.mp])), ((w 0), .inr (2, [.ref (w 1), .int (nI v.n)])), ((w 1), aB g 600 v.b), ((w 2), .inr (1, [.ref (w 3), .ref (w 4), .ref (w 5), .ref (w 6), .int (nI v.lo)])), ((w 3), aJ g 4800 v.rw), ((w 4), aB g 600 v.bg), ((w 5), aB g 600 v.wt), ((w 6), aB g 600 v.dp), ((w 7), aI g 200 v.tg), ((w 8), aI g 200 v.ca), ((w 9), aI g 200 v.fs), ((w 10), aI g 200 v.sc), ((w 11), aI g 75 v.fa), ((w 12), aI g 75 v.ma), ((w 13), aI g 75 v.co)]) (As := [.int r1]) (rest := [.ref h0]) E hB hK hZ (s_Layout_typeAt l g s.heap.size h0 w v r1 hI) mc_Layout_typeAt mi_Layout_typeAt me_Layout_typeAt wd_680 hP hD hS hA [4, 5, 6, 7, 8, 9, 10, 11, 12, 13, 14, 15, 16, 17, 18] rfl (by decide) 0 rfl rfl rfl rfl rfl (by decide) rfl hl.1 rfl (Nat.le_of_ble_eq_true rfl) (by decide) d_Policy_faultOfMethod_42) (fun r10 hr10 => ?_)
      refine va_ldcS hx hb hown (hZ.2.2.1 4 (by decide)).2 d_Policy_faultOfMethod_45 ?_
      refine tw_si (tw_runV (ws := [(po, .inr (6, [.ref p0, .ref p1, .ref p2, .int mm, .int mb])), (p0, aB g 480 lt), (p1, aI g 12 ln), (p2, aI g 2 mn), (h0, .inr (3, [.ref (w 0), .ref (w 2), .ref (w 7), .ref (w 8), .ref (w 9), .ref (w 10), .ref (w 11), .ref (w 12), .ref (w 13), .int v.nu, .int v.th, .int v.it, .int (nI v.fi), .int (nI v.me), .int v.mp])), ((w 0), .inr (2, [.ref (w 1), .int (nI v.n)])), ((w 1), aB g 600 v.b), ((w 2), .inr (1, [.ref (w 3), .ref (w 4), .ref (w 5), .ref (w 6), .int (nI v.lo)])), ((w 3), aJ g 4800 v.rw), ((w 4), aB g 600 v.bg), ((w 5), aB g 600 v.wt), ((w 6), aB g 600 v.dp), ((w 7), aI g 200 v.tg), ((w 8), aI g 200 v.ca), ((w 9), aI g 200 v.fs), ((w 10), aI g 200 v.sc), ((w 11), aI g 75 v.fa), ((w 12), aI g 75 v.ma), ((w 13), aI g 75 v.co)]) (wc := [(h0, .inr (3, [.ref (w 0), .ref (w 2), .ref (w 7), .ref (w 8), .ref (w 9), .ref (w 10), .ref (w 11), .ref (w 12), .ref (w 13), .int v.nu, .int v.th, .int v.it, .int (nI v.fi), .int (nI v.me), .int v.mp])), ((w 0), .inr (2, [.ref (w 1), .int (nI v.n)])), ((w 1), aB g 600 v.b), ((w 2), .inr (1, [.ref (w 3), .ref (w 4), .ref (w 5), .ref (w 6), .int (nI v.lo)])), ((w 3), aJ g 4800 v.rw), ((w 4), aB g 600 v.bg), ((w 5), aB g 600 v.wt), ((w 6), aB g 600 v.dp), ((w 7), aI g 200 v.tg), ((w 8), aI g 200 v.ca), ((w 9), aI g 200 v.fs), ((w 10), aI g 200 v.sc), ((w 11), aI g 75 v.fa), ((w 12), aI g 75 v.ma), ((w 13), aI g 75 v.co)]) (As := [.int r10, .ref (g.2.2.1 4)]) (rest := []) E hB hK hZ (s_Layout_spells l g s.heap.size h0 w v r10 4 hI (by decide)) mc_Layout_spells mi_Layout_spells me_Layout_spells wd_679 hP hD hS hA [4, 5, 6, 7, 8, 9, 10, 11, 12, 13, 14, 15, 16, 17, 18] rfl (by decide) 0 rfl rfl rfl rfl rfl (by decide) rfl hl.1 rfl (Nat.le_of_ble_eq_true rfl) (by decide) d_Policy_faultOfMethod_47) (fun r11 hr11 => ?_)
      refine lv_if_eq (tgt := 56) hx hb d_Policy_faultOfMethod_50 (by decide) (fun h50 => ?_) (fun h50 => ?_)
      · refine lv_aload_n hx hb d_Policy_faultOfMethod_56 rfl (lv_at hl 2 rfl) ?_
        refine lv_iload_n hx hb d_Policy_faultOfMethod_57 rfl (lv_at hl 3 rfl) ?_
        refine tw_si (tw_runV (ws := [(po, .inr (6, [.ref p0, .ref p1, .ref p2, .int mm, .int mb])), (p0, aB g 480 lt), (p1, aI g 12 ln), (p2, aI g 2 mn), (h0, .inr (3, [.ref (w 0), .ref (w 2), .ref (w 7), .ref (w 8), .ref (w 9), .ref (w 10), .ref (w 11), .ref (w 12), .ref (w 13), .int v.nu, .int v.th, .int v.it, .int (nI v.fi), .int (nI v.me), .int v.mp])), ((w 0), .inr (2, [.ref (w 1), .int (nI v.n)])), ((w 1), aB g 600 v.b), ((w 2), .inr (1, [.ref (w 3), .ref (w 4), .ref (w 5), .ref (w 6), .int (nI v.lo)])), ((w 3), aJ g 4800 v.rw), ((w 4), aB g 600 v.bg), ((w 5), aB g 600 v.wt), ((w 6), aB g 600 v.dp), ((w 7), aI g 200 v.tg), ((w 8), aI g 200 v.ca), ((w 9), aI g 200 v.fs), ((w 10), aI g 200 v.sc), ((w 11), aI g 75 v.fa), ((w 12), aI g 75 v.ma), ((w 13), aI g 75 v.co)]) (wc := [(h0, .inr (3, [.ref (w 0), .ref (w 2), .ref (w 7), .ref (w 8), .ref (w 9), .ref (w 10), .ref (w 11), .ref (w 12), .ref (w 13), .int v.nu, .int v.th, .int v.it, .int (nI v.fi), .int (nI v.me), .int v.mp])), ((w 0), .inr (2, [.ref (w 1), .int (nI v.n)])), ((w 1), aB g 600 v.b), ((w 2), .inr (1, [.ref (w 3), .ref (w 4), .ref (w 5), .ref (w 6), .int (nI v.lo)])), ((w 3), aJ g 4800 v.rw), ((w 4), aB g 600 v.bg), ((w 5), aB g 600 v.wt), ((w 6), aB g 600 v.dp), ((w 7), aI g 200 v.tg), ((w 8), aI g 200 v.ca), ((w 9), aI g 200 v.fs), ((w 10), aI g 200 v.sc), ((w 11), aI g 75 v.fa), ((w 12), aI g 75 v.ma), ((w 13), aI g 75 v.co)]) (As := [.int k]) (rest := []) E hB hK hZ (e_Layout_codeOf l g s.heap.size h0 w v k hI) mc_Layout_codeOf mi_Layout_codeOf me_Layout_codeOf wd_682 hP hD hS hA [4, 5, 6, 7, 8, 9, 10, 11, 12, 13, 14, 15, 16, 17, 18] rfl (by decide) 0 rfl rfl rfl rfl rfl (by decide) rfl hl.1 rfl (Nat.le_of_ble_eq_true rfl) (by decide) d_Policy_faultOfMethod_58) (fun r12 hr12 => ?_)
        obtain rfl : r12 = co_of v k := hr12
        refine lv_if_ne (tgt := 66) hx hb d_Policy_faultOfMethod_61 (by decide) (fun h61 => ?_) (fun h61 => ?_)
        · refine lv_aload_n hx hb d_Policy_faultOfMethod_66 rfl (lv_at hl 2 rfl) ?_
          refine lv_iload_n hx hb d_Policy_faultOfMethod_67 rfl (lv_at hl 3 rfl) ?_
          refine tw_si (tw_runV (ws := [(po, .inr (6, [.ref p0, .ref p1, .ref p2, .int mm, .int mb])), (p0, aB g 480 lt), (p1, aI g 12 ln), (p2, aI g 2 mn), (h0, .inr (3, [.ref (w 0), .ref (w 2), .ref (w 7), .ref (w 8), .ref (w 9), .ref (w 10), .ref (w 11), .ref (w 12), .ref (w 13), .int v.nu, .int v.th, .int v.it, .int (nI v.fi), .int (nI v.me), .int v.mp])), ((w 0), .inr (2, [.ref (w 1), .int (nI v.n)])), ((w 1), aB g 600 v.b), ((w 2), .inr (1, [.ref (w 3), .ref (w 4), .ref (w 5), .ref (w 6), .int (nI v.lo)])), ((w 3), aJ g 4800 v.rw), ((w 4), aB g 600 v.bg), ((w 5), aB g 600 v.wt), ((w 6), aB g 600 v.dp), ((w 7), aI g 200 v.tg), ((w 8), aI g 200 v.ca), ((w 9), aI g 200 v.fs), ((w 10), aI g 200 v.sc), ((w 11), aI g 75 v.fa), ((w 12), aI g 75 v.ma), ((w 13), aI g 75 v.co)]) (wc := [(h0, .inr (3, [.ref (w 0), .ref (w 2), .ref (w 7), .ref (w 8), .ref (w 9), .ref (w 10), .ref (w 11), .ref (w 12), .ref (w 13), .int v.nu, .int v.th, .int v.it, .int (nI v.fi), .int (nI v.me), .int v.mp])), ((w 0), .inr (2, [.ref (w 1), .int (nI v.n)])), ((w 1), aB g 600 v.b), ((w 2), .inr (1, [.ref (w 3), .ref (w 4), .ref (w 5), .ref (w 6), .int (nI v.lo)])), ((w 3), aJ g 4800 v.rw), ((w 4), aB g 600 v.bg), ((w 5), aB g 600 v.wt), ((w 6), aB g 600 v.dp), ((w 7), aI g 200 v.tg), ((w 8), aI g 200 v.ca), ((w 9), aI g 200 v.fs), ((w 10), aI g 200 v.sc), ((w 11), aI g 75 v.fa), ((w 12), aI g 75 v.ma), ((w 13), aI g 75 v.co)]) (As := [.int k]) (rest := []) E hB hK hZ (s_Layout_lengthOf l g s.heap.size h0 w v k hI) mc_Layout_lengthOf mi_Layout_lengthOf me_Layout_lengthOf wd_683 hP hD hS hA [4, 5, 6, 7, 8, 9, 10, 11, 12, 13, 14, 15, 16, 17, 18] rfl (by decide) 0 rfl rfl rfl rfl rfl (by decide) rfl hl.1 rfl (Nat.le_of_ble_eq_true rfl) (by decide) d_Policy_faultOfMethod_68) (fun r13 hr13 => ?_)
          refine lv_aload_n hx hb d_Policy_faultOfMethod_71 rfl (lv_at hl 1 rfl) ?_
          refine va_get (D := g.1) (ci := 6) (v := .int mb) (C := R_Policy) (T := F_Policy) (N := 5) hx hb hts in_Policy hown hK hP 0 rfl rfl 4 (by decide) (hts _ wd_81) (fun _ h9 => h9) rfl d_Policy_faultOfMethod_72 ?_
          refine lv_icmp_gt (tgt := 98) hx hb d_Policy_faultOfMethod_75 (by decide) (fun h75 => ?_) (fun h75 => ?_)
          · refine lv_iconst (v := 1) hx hb d_Policy_faultOfMethod_98 (by decide) ?_
            refine lv_goto (tgt := 103) hx hb d_Policy_faultOfMethod_99 (by decide) ?_
            refine lv_istore hx hb d_Policy_faultOfMethod_103 hl (by decide) rfl (fun ls hl => ?_)
            have hl : lv_has ls 5 [(4, .int 1), (3, .int r1), (0, .ref po), (1, .ref h0), (2, .int k)] := hl
            refine lv_iload hx hb d_Policy_faultOfMethod_105 (lv_at hl 0 rfl) ?_
            refine lv_if_eq (tgt := 115) hx hb d_Policy_faultOfMethod_107 (by decide) (fun h107 => ?_) (fun h107 => ?_)
            · first | exact absurd h107 (by decide) | exact absurd (by decide) h107
            · refine lv_bipush (v := 13) hx hb d_Policy_faultOfMethod_110 (by decide) ?_
              refine lv_goto (tgt := 116) hx hb d_Policy_faultOfMethod_112 (by decide) ?_
              exact tw_isret E (fun h => absurd h (by decide)) d_Policy_faultOfMethod_116
          · refine lv_aload_n hx hb d_Policy_faultOfMethod_78 rfl (lv_at hl 2 rfl) ?_
            refine lv_iload_n hx hb d_Policy_faultOfMethod_79 rfl (lv_at hl 3 rfl) ?_
            refine tw_si (tw_runV (ws := [(po, .inr (6, [.ref p0, .ref p1, .ref p2, .int mm, .int mb])), (p0, aB g 480 lt), (p1, aI g 12 ln), (p2, aI g 2 mn), (h0, .inr (3, [.ref (w 0), .ref (w 2), .ref (w 7), .ref (w 8), .ref (w 9), .ref (w 10), .ref (w 11), .ref (w 12), .ref (w 13), .int v.nu, .int v.th, .int v.it, .int (nI v.fi), .int (nI v.me), .int v.mp])), ((w 0), .inr (2, [.ref (w 1), .int (nI v.n)])), ((w 1), aB g 600 v.b), ((w 2), .inr (1, [.ref (w 3), .ref (w 4), .ref (w 5), .ref (w 6), .int (nI v.lo)])), ((w 3), aJ g 4800 v.rw), ((w 4), aB g 600 v.bg), ((w 5), aB g 600 v.wt), ((w 6), aB g 600 v.dp), ((w 7), aI g 200 v.tg), ((w 8), aI g 200 v.ca), ((w 9), aI g 200 v.fs), ((w 10), aI g 200 v.sc), ((w 11), aI g 75 v.fa), ((w 12), aI g 75 v.ma), ((w 13), aI g 75 v.co)]) (wc := [(h0, .inr (3, [.ref (w 0), .ref (w 2), .ref (w 7), .ref (w 8), .ref (w 9), .ref (w 10), .ref (w 11), .ref (w 12), .ref (w 13), .int v.nu, .int v.th, .int v.it, .int (nI v.fi), .int (nI v.me), .int v.mp])), ((w 0), .inr (2, [.ref (w 1), .int (nI v.n)])), ((w 1), aB g 600 v.b), ((w 2), .inr (1, [.ref (w 3), .ref (w 4), .ref (w 5), .ref (w 6), .int (nI v.lo)])), ((w 3), aJ g 4800 v.rw), ((w 4), aB g 600 v.bg), ((w 5), aB g 600 v.wt), ((w 6), aB g 600 v.dp), ((w 7), aI g 200 v.tg), ((w 8), aI g 200 v.ca), ((w 9), aI g 200 v.fs), ((w 10), aI g 200 v.sc), ((w 11), aI g 75 v.fa), ((w 12), aI g 75 v.ma), ((w 13), aI g 75 v.co)]) (As := [.int k]) (rest := []) E hB hK hZ (s_Layout_stackOf l g s.heap.size h0 w v k hI) mc_Layout_stackOf mi_Layout_stackOf me_Layout_stackOf wd_689 hP hD hS hA [4, 5, 6, 7, 8, 9, 10, 11, 12, 13, 14, 15, 16, 17, 18] rfl (by decide) 0 rfl rfl rfl rfl rfl (by decide) rfl hl.1 rfl (Nat.le_of_ble_eq_true rfl) (by decide) d_Policy_faultOfMethod_80) (fun r14 hr14 => ?_)
            refine lv_bipush (v := 64) hx hb d_Policy_faultOfMethod_83 (by decide) ?_
            refine lv_icmp_gt (tgt := 98) hx hb d_Policy_faultOfMethod_85 (by decide) (fun h85 => ?_) (fun h85 => ?_)
            · refine lv_iconst (v := 1) hx hb d_Policy_faultOfMethod_98 (by decide) ?_
              refine lv_goto (tgt := 103) hx hb d_Policy_faultOfMethod_99 (by decide) ?_
              refine lv_istore hx hb d_Policy_faultOfMethod_103 hl (by decide) rfl (fun ls hl => ?_)
              have hl : lv_has ls 5 [(4, .int 1), (3, .int r1), (0, .ref po), (1, .ref h0), (2, .int k)] := hl
              refine lv_iload hx hb d_Policy_faultOfMethod_105 (lv_at hl 0 rfl) ?_
              refine lv_if_eq (tgt := 115) hx hb d_Policy_faultOfMethod_107 (by decide) (fun h107 => ?_) (fun h107 => ?_)
              · first | exact absurd h107 (by decide) | exact absurd (by decide) h107
              · refine lv_bipush (v := 13) hx hb d_Policy_faultOfMethod_110 (by decide) ?_
                refine lv_goto (tgt := 116) hx hb d_Policy_faultOfMethod_112 (by decide) ?_
                exact tw_isret E (fun h => absurd h (by decide)) d_Policy_faultOfMethod_116
            · refine lv_aload_n hx hb d_Policy_faultOfMethod_88 rfl (lv_at hl 2 rfl) ?_
              refine lv_iload_n hx hb d_Policy_faultOfMethod_89 rfl (lv_at hl 3 rfl) ?_
              refine tw_si (tw_runV (ws := [(po, .inr (6, [.ref p0, .ref p1, .ref p2, .int mm, .int mb])), (p0, aB g 480 lt), (p1, aI g 12 ln), (p2, aI g 2 mn), (h0, .inr (3, [.ref (w 0), .ref (w 2), .ref (w 7), .ref (w 8), .ref (w 9), .ref (w 10), .ref (w 11), .ref (w 12), .ref (w 13), .int v.nu, .int v.th, .int v.it, .int (nI v.fi), .int (nI v.me), .int v.mp])), ((w 0), .inr (2, [.ref (w 1), .int (nI v.n)])), ((w 1), aB g 600 v.b), ((w 2), .inr (1, [.ref (w 3), .ref (w 4), .ref (w 5), .ref (w 6), .int (nI v.lo)])), ((w 3), aJ g 4800 v.rw), ((w 4), aB g 600 v.bg), ((w 5), aB g 600 v.wt), ((w 6), aB g 600 v.dp), ((w 7), aI g 200 v.tg), ((w 8), aI g 200 v.ca), ((w 9), aI g 200 v.fs), ((w 10), aI g 200 v.sc), ((w 11), aI g 75 v.fa), ((w 12), aI g 75 v.ma), ((w 13), aI g 75 v.co)]) (wc := [(h0, .inr (3, [.ref (w 0), .ref (w 2), .ref (w 7), .ref (w 8), .ref (w 9), .ref (w 10), .ref (w 11), .ref (w 12), .ref (w 13), .int v.nu, .int v.th, .int v.it, .int (nI v.fi), .int (nI v.me), .int v.mp])), ((w 0), .inr (2, [.ref (w 1), .int (nI v.n)])), ((w 1), aB g 600 v.b), ((w 2), .inr (1, [.ref (w 3), .ref (w 4), .ref (w 5), .ref (w 6), .int (nI v.lo)])), ((w 3), aJ g 4800 v.rw), ((w 4), aB g 600 v.bg), ((w 5), aB g 600 v.wt), ((w 6), aB g 600 v.dp), ((w 7), aI g 200 v.tg), ((w 8), aI g 200 v.ca), ((w 9), aI g 200 v.fs), ((w 10), aI g 200 v.sc), ((w 11), aI g 75 v.fa), ((w 12), aI g 75 v.ma), ((w 13), aI g 75 v.co)]) (As := [.int k]) (rest := []) E hB hK hZ (e_Layout_localsOf l g s.heap.size h0 w v k hI) mc_Layout_localsOf mi_Layout_localsOf me_Layout_localsOf wd_693 hP hD hS hA [4, 5, 6, 7, 8, 9, 10, 11, 12, 13, 14, 15, 16, 17, 18] rfl (by decide) 0 rfl rfl rfl rfl rfl (by decide) rfl hl.1 rfl (Nat.le_of_ble_eq_true rfl) (by decide) d_Policy_faultOfMethod_90) (fun r15 hr15 => ?_)
              refine lv_bipush (v := 64) hx hb d_Policy_faultOfMethod_93 (by decide) ?_
              refine lv_icmp_le (tgt := 102) hx hb d_Policy_faultOfMethod_95 (by decide) (fun h95 => ?_) (fun h95 => ?_)
              · refine lv_iconst (v := 0) hx hb d_Policy_faultOfMethod_102 (by decide) ?_
                refine lv_istore hx hb d_Policy_faultOfMethod_103 hl (by decide) rfl (fun ls hl => ?_)
                have hl : lv_has ls 5 [(4, .int 0), (3, .int r1), (0, .ref po), (1, .ref h0), (2, .int k)] := hl
                refine lv_iload hx hb d_Policy_faultOfMethod_105 (lv_at hl 0 rfl) ?_
                refine lv_if_eq (tgt := 115) hx hb d_Policy_faultOfMethod_107 (by decide) (fun h107 => ?_) (fun h107 => ?_)
                · refine lv_iconst (v := 0) hx hb d_Policy_faultOfMethod_115 (by decide) ?_
                  exact tw_isret E (fun _ => Or.inr (by rw [← hr15]; exact h95)) d_Policy_faultOfMethod_116
                · first | exact absurd h107 (by decide) | exact absurd (by decide) h107
              · refine lv_iconst (v := 1) hx hb d_Policy_faultOfMethod_98 (by decide) ?_
                refine lv_goto (tgt := 103) hx hb d_Policy_faultOfMethod_99 (by decide) ?_
                refine lv_istore hx hb d_Policy_faultOfMethod_103 hl (by decide) rfl (fun ls hl => ?_)
                have hl : lv_has ls 5 [(4, .int 1), (3, .int r1), (0, .ref po), (1, .ref h0), (2, .int k)] := hl
                refine lv_iload hx hb d_Policy_faultOfMethod_105 (lv_at hl 0 rfl) ?_
                refine lv_if_eq (tgt := 115) hx hb d_Policy_faultOfMethod_107 (by decide) (fun h107 => ?_) (fun h107 => ?_)
                · first | exact absurd h107 (by decide) | exact absurd (by decide) h107
                · refine lv_bipush (v := 13) hx hb d_Policy_faultOfMethod_110 (by decide) ?_
                  refine lv_goto (tgt := 116) hx hb d_Policy_faultOfMethod_112 (by decide) ?_
                  exact tw_isret E (fun h => absurd h (by decide)) d_Policy_faultOfMethod_116
        · refine lv_iconst (v := 0) hx hb d_Policy_faultOfMethod_64 (by decide) ?_
          exact tw_isret E (fun _ => Or.inl h61) d_Policy_faultOfMethod_65
      · refine lv_bipush (v := 17) hx hb d_Policy_faultOfMethod_53 (by decide) ?_
        exact tw_isret E (fun h => absurd h (by decide)) d_Policy_faultOfMethod_55
  · refine lv_bipush (v := 16) hx hb d_Policy_faultOfMethod_22 (by decide) ?_
    exact tw_isret E (fun h => absurd h (by decide)) d_Policy_faultOfMethod_24
set_option maxHeartbeats 4000000 in
set_option maxRecDepth 100000 in
theorem e_Policy_admits (l : Launch) (g : tw_G) (sz : Nat) (po p0 p1 p2 h0 : Nat) (w : Nat → Nat) (v : LY) (mm mb : Int32) (lt ln mn : Nat → Int32) (fn : Nat) (fa fp : Int32) (hI : LI v) (hLn : ∀ k, k < 12 → ∃ j, j ≤ 40 ∧ ln k = nI j) (hMn : ∀ k, k < 2 → ∃ j, j ≤ 6 ∧ mn k = nI j) : Met l y_Policy_admits [.code y_Policy_admits b_Policy_admits 5 (some .boolean)] ({ frames := 6, cells := 0, slots := 0, locals := 133 }) (tw_P g [.ref po, .ref h0, .ref fn] [(po, .inr (6, [.ref p0, .ref p1, .ref p2, .int mm, .int mb])), (p0, aB g 480 lt), (p1, aI g 12 ln), (p2, aI g 2 mn), (fn, .inr (0, [.int fa, .int fp])), (h0, .inr (3, [.ref (w 0), .ref (w 2), .ref (w 7), .ref (w 8), .ref (w 9), .ref (w 10), .ref (w 11), .ref (w 12), .ref (w 13), .int v.nu, .int v.th, .int v.it, .int (nI v.fi), .int (nI v.me), .int v.mp])), ((w 0), .inr (2, [.ref (w 1), .int (nI v.n)])), ((w 1), aB g 600 v.b), ((w 2), .inr (1, [.ref (w 3), .ref (w 4), .ref (w 5), .ref (w 6), .int (nI v.lo)])), ((w 3), aJ g 4800 v.rw), ((w 4), aB g 600 v.bg), ((w 5), aB g 600 v.wt), ((w 6), aB g 600 v.dp), ((w 7), aI g 200 v.tg), ((w 8), aI g 200 v.ca), ((w 9), aI g 200 v.fs), ((w 10), aI g 200 v.sc), ((w 11), aI g 75 v.fa), ((w 12), aI g 75 v.ma), ((w 13), aI g 75 v.co)] sz) (tw_Qi g (fun r (u : Int32 × Int32) => (r = 0 ∨ r = 1) ∧ (r = 1 → LO64 v)) (fun u : Int32 × Int32 => [(po, .inr (6, [.ref p0, .ref p1, .ref p2, .int mm, .int mb])), (p0, aB g 480 lt), (p1, aI g 12 ln), (p2, aI g 2 mn), (fn, .inr (0, [.int u.1, .int u.2])), (h0, .inr (3, [.ref (w 0), .ref (w 2), .ref (w 7), .ref (w 8), .ref (w 9), .ref (w 10), .ref (w 11), .ref (w 12), .ref (w 13), .int v.nu, .int v.th, .int v.it, .int (nI v.fi), .int (nI v.me), .int v.mp])), ((w 0), .inr (2, [.ref (w 1), .int (nI v.n)])), ((w 1), aB g 600 v.b), ((w 2), .inr (1, [.ref (w 3), .ref (w 4), .ref (w 5), .ref (w 6), .int (nI v.lo)])), ((w 3), aJ g 4800 v.rw), ((w 4), aB g 600 v.bg), ((w 5), aB g 600 v.wt), ((w 6), aB g 600 v.dp), ((w 7), aI g 200 v.tg), ((w 8), aI g 200 v.ca), ((w 9), aI g 200 v.fs), ((w 10), aI g 200 v.sc), ((w 11), aI g 75 v.fa), ((w 12), aI g 75 v.ma), ((w 13), aI g 75 v.co)]) (va_A [(po, .inr (6, [.ref p0, .ref p1, .ref p2, .int mm, .int mb])), (p0, aB g 480 lt), (p1, aI g 12 ln), (p2, aI g 2 mn), (fn, .inr (0, [.int fa, .int fp])), (h0, .inr (3, [.ref (w 0), .ref (w 2), .ref (w 7), .ref (w 8), .ref (w 9), .ref (w 10), .ref (w 11), .ref (w 12), .ref (w 13), .int v.nu, .int v.th, .int v.it, .int (nI v.fi), .int (nI v.me), .int v.mp])), ((w 0), .inr (2, [.ref (w 1), .int (nI v.n)])), ((w 1), aB g 600 v.b), ((w 2), .inr (1, [.ref (w 3), .ref (w 4), .ref (w 5), .ref (w 6), .int (nI v.lo)])), ((w 3), aJ g 4800 v.rw), ((w 4), aB g 600 v.bg), ((w 5), aB g 600 v.wt), ((w 6), aB g 600 v.dp), ((w 7), aI g 200 v.tg), ((w 8), aI g 200 v.ca), ((w 9), aI g 200 v.fs), ((w 10), aI g 200 v.sc), ((w 11), aI g 75 v.fa), ((w 12), aI g 75 v.ma), ((w 13), aI g 75 v.co)] sz)) 0 0 (va_A [(po, .inr (6, [.ref p0, .ref p1, .ref p2, .int mm, .int mb])), (p0, aB g 480 lt), (p1, aI g 12 ln), (p2, aI g 2 mn), (fn, .inr (0, [.int fa, .int fp])), (h0, .inr (3, [.ref (w 0), .ref (w 2), .ref (w 7), .ref (w 8), .ref (w 9), .ref (w 10), .ref (w 11), .ref (w 12), .ref (w 13), .int v.nu, .int v.th, .int v.it, .int (nI v.fi), .int (nI v.me), .int v.mp])), ((w 0), .inr (2, [.ref (w 1), .int (nI v.n)])), ((w 1), aB g 600 v.b), ((w 2), .inr (1, [.ref (w 3), .ref (w 4), .ref (w 5), .ref (w 6), .int (nI v.lo)])), ((w 3), aJ g 4800 v.rw), ((w 4), aB g 600 v.bg), ((w 5), aB g 600 v.wt), ((w 6), aB g 600 v.dp), ((w 7), aI g 200 v.tg), ((w 8), aI g 200 v.ca), ((w 9), aI g 200 v.fs), ((w 10), aI g 200 v.sc), ((w 11), aI g 75 v.fa), ((w 12), aI g 75 v.ma), ((w 13), aI g 75 v.co)] sz) := by
  refine tw_metW (l := l) (g := g) (y := y_Policy_admits) (cc := b_Policy_admits) (maxL := 5) (ret := (some .boolean)) (rm := { frames := 6, cells := 0, slots := 0, locals := 133 }) (mc := 0) (ms := 0) (av := [.ref po, .ref h0, .ref fn]) (ws := [(po, .inr (6, [.ref p0, .ref p1, .ref p2, .int mm, .int mb])), (p0, aB g 480 lt), (p1, aI g 12 ln), (p2, aI g 2 mn), (fn, .inr (0, [.int fa, .int fp])), (h0, .inr (3, [.ref (w 0), .ref (w 2), .ref (w 7), .ref (w 8), .ref (w 9), .ref (w 10), .ref (w 11), .ref (w 12), .ref (w 13), .int v.nu, .int v.th, .int v.it, .int (nI v.fi), .int (nI v.me), .int v.mp])), ((w 0), .inr (2, [.ref (w 1), .int (nI v.n)])), ((w 1), aB g 600 v.b), ((w 2), .inr (1, [.ref (w 3), .ref (w 4), .ref (w 5), .ref (w 6), .int (nI v.lo)])), ((w 3), aJ g 4800 v.rw), ((w 4), aB g 600 v.bg), ((w 5), aB g 600 v.wt), ((w 6), aB g 600 v.dp), ((w 7), aI g 200 v.tg), ((w 8), aI g 200 v.ca), ((w 9), aI g 200 v.fs), ((w 10), aI g 200 v.sc), ((w 11), aI g 75 v.fa), ((w 12), aI g 75 v.ma), ((w 13), aI g 75 v.co)]) (sz := sz) (Qc := fun A => (tw_Qi g (fun r (u : Int32 × Int32) => (r = 0 ∨ r = 1) ∧ (r = 1 → LO64 v)) (fun u : Int32 × Int32 => [(po, .inr (6, [.ref p0, .ref p1, .ref p2, .int mm, .int mb])), (p0, aB g 480 lt), (p1, aI g 12 ln), (p2, aI g 2 mn), (fn, .inr (0, [.int u.1, .int u.2])), (h0, .inr (3, [.ref (w 0), .ref (w 2), .ref (w 7), .ref (w 8), .ref (w 9), .ref (w 10), .ref (w 11), .ref (w 12), .ref (w 13), .int v.nu, .int v.th, .int v.it, .int (nI v.fi), .int (nI v.me), .int v.mp])), ((w 0), .inr (2, [.ref (w 1), .int (nI v.n)])), ((w 1), aB g 600 v.b), ((w 2), .inr (1, [.ref (w 3), .ref (w 4), .ref (w 5), .ref (w 6), .int (nI v.lo)])), ((w 3), aJ g 4800 v.rw), ((w 4), aB g 600 v.bg), ((w 5), aB g 600 v.wt), ((w 6), aB g 600 v.dp), ((w 7), aI g 200 v.tg), ((w 8), aI g 200 v.ca), ((w 9), aI g 200 v.fs), ((w 10), aI g 200 v.sc), ((w 11), aI g 75 v.fa), ((w 12), aI g 75 v.ma), ((w 13), aI g 75 v.co)]) A)) (by decide) (Nat.le_of_ble_eq_true rfl) ?_
  intro p e s m below meth c ls H A E hB hK hZ hP hD hS hA hl
  obtain ⟨hx, hb, hml, hr, hown, hts, hlocks, hin⟩ := id E
  have hl : lv_has ls 5 [(0, .ref po), (1, .ref h0), (2, .ref fn)] := hl
  refine lv_aload_n hx hb d_Policy_admits_0 rfl (lv_at hl 1 rfl) ?_
  refine va_getN (D := g.1) (ci := 3) (v := .int (nI v.me)) (C := R_Layout) (T := F_Layout) (N := 15) hx hb hts in_Layout hown hK hP 5 rfl rfl 13 (by decide) (hts _ wd_276) (fun _ h9 => h9) rfl d_Policy_admits_1 ?_
  refine lv_aload_n hx hb d_Policy_admits_4 rfl (lv_at hl 0 rfl) ?_
  refine va_get (D := g.1) (ci := 6) (v := .int mm) (C := R_Policy) (T := F_Policy) (N := 5) hx hb hts in_Policy hown hK hP 0 rfl rfl 3 (by decide) (hts _ wd_79) (fun _ h9 => h9) rfl d_Policy_admits_5 ?_
  refine lv_icmp_le (tgt := 22) hx hb d_Policy_admits_8 (by decide) (fun h8 => ?_) (fun h8 => ?_)
  · refine lv_aload_n hx hb d_Policy_admits_22 rfl (lv_at hl 0 rfl) ?_
    refine lv_iconst (v := 0) hx hb d_Policy_admits_23 (by decide) ?_
    refine lv_aload_n hx hb d_Policy_admits_24 rfl (lv_at hl 1 rfl) ?_
    refine lv_aload_n hx hb d_Policy_admits_25 rfl (lv_at hl 1 rfl) ?_
    refine lv_aload_n hx hb d_Policy_admits_26 rfl (lv_at hl 1 rfl) ?_
    refine va_getN (D := g.1) (ci := 3) (v := .int v.th) (C := R_Layout) (T := F_Layout) (N := 15) hx hb hts in_Layout hown hK hP 5 rfl rfl 10 (by decide) (hts _ wd_263) (fun _ h9 => h9) rfl d_Policy_admits_27 ?_
    refine tw_si (tw_runV (ws := [(po, .inr (6, [.ref p0, .ref p1, .ref p2, .int mm, .int mb])), (p0, aB g 480 lt), (p1, aI g 12 ln), (p2, aI g 2 mn), (fn, .inr (0, [.int fa, .int fp])), (h0, .inr (3, [.ref (w 0), .ref (w 2), .ref (w 7), .ref (w 8), .ref (w 9), .ref (w 10), .ref (w 11), .ref (w 12), .ref (w 13), .int v.nu, .int v.th, .int v.it, .int (nI v.fi), .int (nI v.me), .int v.mp])), ((w 0), .inr (2, [.ref (w 1), .int (nI v.n)])), ((w 1), aB g 600 v.b), ((w 2), .inr (1, [.ref (w 3), .ref (w 4), .ref (w 5), .ref (w 6), .int (nI v.lo)])), ((w 3), aJ g 4800 v.rw), ((w 4), aB g 600 v.bg), ((w 5), aB g 600 v.wt), ((w 6), aB g 600 v.dp), ((w 7), aI g 200 v.tg), ((w 8), aI g 200 v.ca), ((w 9), aI g 200 v.fs), ((w 10), aI g 200 v.sc), ((w 11), aI g 75 v.fa), ((w 12), aI g 75 v.ma), ((w 13), aI g 75 v.co)]) (wc := [(h0, .inr (3, [.ref (w 0), .ref (w 2), .ref (w 7), .ref (w 8), .ref (w 9), .ref (w 10), .ref (w 11), .ref (w 12), .ref (w 13), .int v.nu, .int v.th, .int v.it, .int (nI v.fi), .int (nI v.me), .int v.mp])), ((w 0), .inr (2, [.ref (w 1), .int (nI v.n)])), ((w 1), aB g 600 v.b), ((w 2), .inr (1, [.ref (w 3), .ref (w 4), .ref (w 5), .ref (w 6), .int (nI v.lo)])), ((w 3), aJ g 4800 v.rw), ((w 4), aB g 600 v.bg), ((w 5), aB g 600 v.wt), ((w 6), aB g 600 v.dp), ((w 7), aI g 200 v.tg), ((w 8), aI g 200 v.ca), ((w 9), aI g 200 v.fs), ((w 10), aI g 200 v.sc), ((w 11), aI g 75 v.fa), ((w 12), aI g 75 v.ma), ((w 13), aI g 75 v.co)]) (As := [.int v.th]) (rest := [.ref h0, .int 0, .ref po]) E hB hK hZ (s_Layout_classTextAt l g H.size h0 w v v.th hI) mc_Layout_classTextAt mi_Layout_classTextAt me_Layout_classTextAt wd_649 hP hD hS hA [5, 6, 7, 8, 9, 10, 11, 12, 13, 14, 15, 16, 17, 18, 19] rfl (by decide) 0 rfl rfl rfl rfl rfl (by decide) rfl hl.1 rfl (Nat.le_of_ble_eq_true rfl) (by decide) d_Policy_admits_30) (fun r1 hr1 => ?_)
    refine tw_si (tw_runV (ws := [(po, .inr (6, [.ref p0, .ref p1, .ref p2, .int mm, .int mb])), (p0, aB g 480 lt), (p1, aI g 12 ln), (p2, aI g 2 mn), (fn, .inr (0, [.int fa, .int fp])), (h0, .inr (3, [.ref (w 0), .ref (w 2), .ref (w 7), .ref (w 8), .ref (w 9), .ref (w 10), .ref (w 11), .ref (w 12), .ref (w 13), .int v.nu, .int v.th, .int v.it, .int (nI v.fi), .int (nI v.me), .int v.mp])), ((w 0), .inr (2, [.ref (w 1), .int (nI v.n)])), ((w 1), aB g 600 v.b), ((w 2), .inr (1, [.ref (w 3), .ref (w 4), .ref (w 5), .ref (w 6), .int (nI v.lo)])), ((w 3), aJ g 4800 v.rw), ((w 4), aB g 600 v.bg), ((w 5), aB g 600 v.wt), ((w 6), aB g 600 v.dp), ((w 7), aI g 200 v.tg), ((w 8), aI g 200 v.ca), ((w 9), aI g 200 v.fs), ((w 10), aI g 200 v.sc), ((w 11), aI g 75 v.fa), ((w 12), aI g 75 v.ma), ((w 13), aI g 75 v.co)]) (wc := [(po, .inr (6, [.ref p0, .ref p1, .ref p2, .int mm, .int mb])), (p0, aB g 480 lt), (p1, aI g 12 ln), (p2, aI g 2 mn), (h0, .inr (3, [.ref (w 0), .ref (w 2), .ref (w 7), .ref (w 8), .ref (w 9), .ref (w 10), .ref (w 11), .ref (w 12), .ref (w 13), .int v.nu, .int v.th, .int v.it, .int (nI v.fi), .int (nI v.me), .int v.mp])), ((w 0), .inr (2, [.ref (w 1), .int (nI v.n)])), ((w 1), aB g 600 v.b), ((w 2), .inr (1, [.ref (w 3), .ref (w 4), .ref (w 5), .ref (w 6), .int (nI v.lo)])), ((w 3), aJ g 4800 v.rw), ((w 4), aB g 600 v.bg), ((w 5), aB g 600 v.wt), ((w 6), aB g 600 v.dp), ((w 7), aI g 200 v.tg), ((w 8), aI g 200 v.ca), ((w 9), aI g 200 v.fs), ((w 10), aI g 200 v.sc), ((w 11), aI g 75 v.fa), ((w 12), aI g 75 v.ma), ((w 13), aI g 75 v.co)]) (As := [.int 0, .ref h0, .int r1]) (rest := []) E hB hK hZ (s_Policy_isBegunBy l g H.size po p0 p1 p2 h0 w v mm mb lt ln mn 0 r1 hI hLn hMn (by decide)) mc_Policy_isBegunBy mi_Policy_isBegunBy me_Policy_isBegunBy wd_653 hP hD hS hA [0, 1, 2, 3, 5, 6, 7, 8, 9, 10, 11, 12, 13, 14, 15, 16, 17, 18, 19] rfl (by decide) 0 rfl rfl rfl rfl rfl (by decide) rfl hl.1 rfl (Nat.le_of_ble_eq_true rfl) (by decide) d_Policy_admits_33) (fun r2 hr2 => ?_)
    refine lv_if_eq (tgt := 50) hx hb d_Policy_admits_36 (by decide) (fun h36 => ?_) (fun h36 => ?_)
    · refine lv_iconst (v := 1) hx hb d_Policy_admits_50 (by decide) ?_
      refine lv_istore_n hx hb d_Policy_admits_51 rfl hl (by decide) rfl (fun ls hl => ?_)
      have hl : lv_has ls 5 [(3, .int 1), (0, .ref po), (1, .ref h0), (2, .ref fn)] := hl
      have loop52 : ∀ (kq : Nat) (j : Int32) (fa9 : Int32) (fp9 : Int32) (ls : Array Slot) (H : Heap) (locs : List Loc) , ims j v.nu = kq → lv_has ls 5 [(3, .int j), (0, .ref po), (1, .ref h0), (2, .ref fn)] → va_P g.1 classes [(po, .inr (6, [.ref p0, .ref p1, .ref p2, .int mm, .int mb])), (p0, aB g 480 lt), (p1, aI g 12 ln), (p2, aI g 2 mn), (fn, .inr (0, [.int fa9, .int fp9])), (h0, .inr (3, [.ref (w 0), .ref (w 2), .ref (w 7), .ref (w 8), .ref (w 9), .ref (w 10), .ref (w 11), .ref (w 12), .ref (w 13), .int v.nu, .int v.th, .int v.it, .int (nI v.fi), .int (nI v.me), .int v.mp])), ((w 0), .inr (2, [.ref (w 1), .int (nI v.n)])), ((w 1), aB g 600 v.b), ((w 2), .inr (1, [.ref (w 3), .ref (w 4), .ref (w 5), .ref (w 6), .int (nI v.lo)])), ((w 3), aJ g 4800 v.rw), ((w 4), aB g 600 v.bg), ((w 5), aB g 600 v.wt), ((w 6), aB g 600 v.dp), ((w 7), aI g 200 v.tg), ((w 8), aI g 200 v.ca), ((w 9), aI g 200 v.fs), ((w 10), aI g 200 v.sc), ((w 11), aI g 75 v.fa), ((w 12), aI g 75 v.ma), ((w 13), aI g 75 v.co)] H → va_D A [(po, .inr (6, [.ref p0, .ref p1, .ref p2, .int mm, .int mb])), (p0, aB g 480 lt), (p1, aI g 12 ln), (p2, aI g 2 mn), (fn, .inr (0, [.int fa9, .int fp9])), (h0, .inr (3, [.ref (w 0), .ref (w 2), .ref (w 7), .ref (w 8), .ref (w 9), .ref (w 10), .ref (w 11), .ref (w 12), .ref (w 13), .int v.nu, .int v.th, .int v.it, .int (nI v.fi), .int (nI v.me), .int v.mp])), ((w 0), .inr (2, [.ref (w 1), .int (nI v.n)])), ((w 1), aB g 600 v.b), ((w 2), .inr (1, [.ref (w 3), .ref (w 4), .ref (w 5), .ref (w 6), .int (nI v.lo)])), ((w 3), aJ g 4800 v.rw), ((w 4), aB g 600 v.bg), ((w 5), aB g 600 v.wt), ((w 6), aB g 600 v.dp), ((w 7), aI g 200 v.tg), ((w 8), aI g 200 v.ca), ((w 9), aI g 200 v.fs), ((w 10), aI g 200 v.sc), ((w 11), aI g 75 v.fa), ((w 12), aI g 75 v.ma), ((w 13), aI g 75 v.co)] → va_S A s.heap H locs → W p l e ({ frames := 6, cells := 0, slots := 0, locals := 133 }) s m [.ref po, .ref h0, .ref fn].toArray below meth c H locs 0 0 (MQ below (tw_Qi g (fun r (u : Int32 × Int32) => (r = 0 ∨ r = 1) ∧ (r = 1 → LO64 v)) (fun u : Int32 × Int32 => [(po, .inr (6, [.ref p0, .ref p1, .ref p2, .int mm, .int mb])), (p0, aB g 480 lt), (p1, aI g 12 ln), (p2, aI g 2 mn), (fn, .inr (0, [.int u.1, .int u.2])), (h0, .inr (3, [.ref (w 0), .ref (w 2), .ref (w 7), .ref (w 8), .ref (w 9), .ref (w 10), .ref (w 11), .ref (w 12), .ref (w 13), .int v.nu, .int v.th, .int v.it, .int (nI v.fi), .int (nI v.me), .int v.mp])), ((w 0), .inr (2, [.ref (w 1), .int (nI v.n)])), ((w 1), aB g 600 v.b), ((w 2), .inr (1, [.ref (w 3), .ref (w 4), .ref (w 5), .ref (w 6), .int (nI v.lo)])), ((w 3), aJ g 4800 v.rw), ((w 4), aB g 600 v.bg), ((w 5), aB g 600 v.wt), ((w 6), aB g 600 v.dp), ((w 7), aI g 200 v.tg), ((w 8), aI g 200 v.ca), ((w 9), aI g 200 v.fs), ((w 10), aI g 200 v.sc), ((w 11), aI g 75 v.fa), ((w 12), aI g 75 v.ma), ((w 13), aI g 75 v.co)]) A) [.ref po, .ref h0, .ref fn].toArray s 0 0 A) (F0 m 52 ls []) := by
        intro kq
        induction kq using Nat.strongRecOn with
        | _ kq ih =>
          intro j fa9 fp9 ls H locs hk  hl hP hD hS
          refine lv_iload_n hx hb d_Policy_admits_52 rfl (lv_at hl 0 rfl) ?_
          refine lv_aload_n hx hb d_Policy_admits_53 rfl (lv_at hl 2 rfl) ?_
          refine va_getN (D := g.1) (ci := 3) (v := .int v.nu) (C := R_Layout) (T := F_Layout) (N := 15) hx hb hts in_Layout hown hK hP 5 rfl rfl 9 (by decide) (hts _ wd_261) (fun _ h9 => h9) rfl d_Policy_admits_54 ?_
          refine lv_icmp_ge (tgt := 87) hx hb d_Policy_admits_57 (by decide) (fun h57 => ?_) (fun h57 => ?_)
          · refine lv_iconst (v := 0) hx hb d_Policy_admits_87 (by decide) ?_
            refine lv_istore_n hx hb d_Policy_admits_88 rfl hl (by decide) rfl (fun ls hl => ?_)
            have hl : lv_has ls 5 [(3, .int 0), (0, .ref po), (1, .ref h0), (2, .ref fn)] := hl
            have loop89 : ∀ (kq : Nat) (j : Nat) (fa9 : Int32) (fp9 : Int32) (ls : Array Slot) (H : Heap) (locs : List Loc) , v.me - j = kq → (hj : j ≤ v.me) → (hlo : ∀ k, k < j → co_of v (nI k) = 0 ∨ im_two v.b v.n (co_of v (nI k) + 8) ≤ 64) → lv_has ls 5 [(3, .int (nI j)), (0, .ref po), (1, .ref h0), (2, .ref fn)] → va_P g.1 classes [(po, .inr (6, [.ref p0, .ref p1, .ref p2, .int mm, .int mb])), (p0, aB g 480 lt), (p1, aI g 12 ln), (p2, aI g 2 mn), (fn, .inr (0, [.int fa9, .int fp9])), (h0, .inr (3, [.ref (w 0), .ref (w 2), .ref (w 7), .ref (w 8), .ref (w 9), .ref (w 10), .ref (w 11), .ref (w 12), .ref (w 13), .int v.nu, .int v.th, .int v.it, .int (nI v.fi), .int (nI v.me), .int v.mp])), ((w 0), .inr (2, [.ref (w 1), .int (nI v.n)])), ((w 1), aB g 600 v.b), ((w 2), .inr (1, [.ref (w 3), .ref (w 4), .ref (w 5), .ref (w 6), .int (nI v.lo)])), ((w 3), aJ g 4800 v.rw), ((w 4), aB g 600 v.bg), ((w 5), aB g 600 v.wt), ((w 6), aB g 600 v.dp), ((w 7), aI g 200 v.tg), ((w 8), aI g 200 v.ca), ((w 9), aI g 200 v.fs), ((w 10), aI g 200 v.sc), ((w 11), aI g 75 v.fa), ((w 12), aI g 75 v.ma), ((w 13), aI g 75 v.co)] H → va_D A [(po, .inr (6, [.ref p0, .ref p1, .ref p2, .int mm, .int mb])), (p0, aB g 480 lt), (p1, aI g 12 ln), (p2, aI g 2 mn), (fn, .inr (0, [.int fa9, .int fp9])), (h0, .inr (3, [.ref (w 0), .ref (w 2), .ref (w 7), .ref (w 8), .ref (w 9), .ref (w 10), .ref (w 11), .ref (w 12), .ref (w 13), .int v.nu, .int v.th, .int v.it, .int (nI v.fi), .int (nI v.me), .int v.mp])), ((w 0), .inr (2, [.ref (w 1), .int (nI v.n)])), ((w 1), aB g 600 v.b), ((w 2), .inr (1, [.ref (w 3), .ref (w 4), .ref (w 5), .ref (w 6), .int (nI v.lo)])), ((w 3), aJ g 4800 v.rw), ((w 4), aB g 600 v.bg), ((w 5), aB g 600 v.wt), ((w 6), aB g 600 v.dp), ((w 7), aI g 200 v.tg), ((w 8), aI g 200 v.ca), ((w 9), aI g 200 v.fs), ((w 10), aI g 200 v.sc), ((w 11), aI g 75 v.fa), ((w 12), aI g 75 v.ma), ((w 13), aI g 75 v.co)] → va_S A s.heap H locs → W p l e ({ frames := 6, cells := 0, slots := 0, locals := 133 }) s m [.ref po, .ref h0, .ref fn].toArray below meth c H locs 0 0 (MQ below (tw_Qi g (fun r (u : Int32 × Int32) => (r = 0 ∨ r = 1) ∧ (r = 1 → LO64 v)) (fun u : Int32 × Int32 => [(po, .inr (6, [.ref p0, .ref p1, .ref p2, .int mm, .int mb])), (p0, aB g 480 lt), (p1, aI g 12 ln), (p2, aI g 2 mn), (fn, .inr (0, [.int u.1, .int u.2])), (h0, .inr (3, [.ref (w 0), .ref (w 2), .ref (w 7), .ref (w 8), .ref (w 9), .ref (w 10), .ref (w 11), .ref (w 12), .ref (w 13), .int v.nu, .int v.th, .int v.it, .int (nI v.fi), .int (nI v.me), .int v.mp])), ((w 0), .inr (2, [.ref (w 1), .int (nI v.n)])), ((w 1), aB g 600 v.b), ((w 2), .inr (1, [.ref (w 3), .ref (w 4), .ref (w 5), .ref (w 6), .int (nI v.lo)])), ((w 3), aJ g 4800 v.rw), ((w 4), aB g 600 v.bg), ((w 5), aB g 600 v.wt), ((w 6), aB g 600 v.dp), ((w 7), aI g 200 v.tg), ((w 8), aI g 200 v.ca), ((w 9), aI g 200 v.fs), ((w 10), aI g 200 v.sc), ((w 11), aI g 75 v.fa), ((w 12), aI g 75 v.ma), ((w 13), aI g 75 v.co)]) A) [.ref po, .ref h0, .ref fn].toArray s 0 0 A) (F0 m 89 ls []) := by
              intro kq
              induction kq using Nat.strongRecOn with
              | _ kq ih89 =>
                intro j fa9 fp9 ls H locs hk89 hj hlo hl hP hD hS
                refine lv_iload_n hx hb d_Policy_admits_89 rfl (lv_at hl 0 rfl) ?_
                refine lv_aload_n hx hb d_Policy_admits_90 rfl (lv_at hl 2 rfl) ?_
                refine va_getN (D := g.1) (ci := 3) (v := .int (nI v.me)) (C := R_Layout) (T := F_Layout) (N := 15) hx hb hts in_Layout hown hK hP 5 rfl rfl 13 (by decide) (hts _ wd_276) (fun _ h9 => h9) rfl d_Policy_admits_91 ?_
                refine lv_icmp_ge (tgt := 129) hx hb d_Policy_admits_94 (by decide) (fun h94 => ?_) (fun h94 => ?_)
                · have h94 := tn_le h94 (by have := hI.me; omega) (by have := hI.me; omega)
                  refine lv_iconst (v := 1) hx hb d_Policy_admits_129 (by decide) ?_
                  exact tw_zret E hS (fa9, fp9) (by decide) (⟨Or.inr rfl, fun _ k hk => hlo k (by omega)⟩) hP hD d_Policy_admits_130
                · have h94 := tn_nle h94 (by have := hI.me; omega) (by have := hI.me; omega)
                  refine lv_aload_n hx hb d_Policy_admits_97 rfl (lv_at hl 1 rfl) ?_
                  refine lv_aload_n hx hb d_Policy_admits_98 rfl (lv_at hl 2 rfl) ?_
                  refine lv_iload_n hx hb d_Policy_admits_99 rfl (lv_at hl 0 rfl) ?_
                  refine tw_si (tw_runV (ws := [(po, .inr (6, [.ref p0, .ref p1, .ref p2, .int mm, .int mb])), (p0, aB g 480 lt), (p1, aI g 12 ln), (p2, aI g 2 mn), (fn, .inr (0, [.int fa9, .int fp9])), (h0, .inr (3, [.ref (w 0), .ref (w 2), .ref (w 7), .ref (w 8), .ref (w 9), .ref (w 10), .ref (w 11), .ref (w 12), .ref (w 13), .int v.nu, .int v.th, .int v.it, .int (nI v.fi), .int (nI v.me), .int v.mp])), ((w 0), .inr (2, [.ref (w 1), .int (nI v.n)])), ((w 1), aB g 600 v.b), ((w 2), .inr (1, [.ref (w 3), .ref (w 4), .ref (w 5), .ref (w 6), .int (nI v.lo)])), ((w 3), aJ g 4800 v.rw), ((w 4), aB g 600 v.bg), ((w 5), aB g 600 v.wt), ((w 6), aB g 600 v.dp), ((w 7), aI g 200 v.tg), ((w 8), aI g 200 v.ca), ((w 9), aI g 200 v.fs), ((w 10), aI g 200 v.sc), ((w 11), aI g 75 v.fa), ((w 12), aI g 75 v.ma), ((w 13), aI g 75 v.co)]) (wc := [(po, .inr (6, [.ref p0, .ref p1, .ref p2, .int mm, .int mb])), (p0, aB g 480 lt), (p1, aI g 12 ln), (p2, aI g 2 mn), (h0, .inr (3, [.ref (w 0), .ref (w 2), .ref (w 7), .ref (w 8), .ref (w 9), .ref (w 10), .ref (w 11), .ref (w 12), .ref (w 13), .int v.nu, .int v.th, .int v.it, .int (nI v.fi), .int (nI v.me), .int v.mp])), ((w 0), .inr (2, [.ref (w 1), .int (nI v.n)])), ((w 1), aB g 600 v.b), ((w 2), .inr (1, [.ref (w 3), .ref (w 4), .ref (w 5), .ref (w 6), .int (nI v.lo)])), ((w 3), aJ g 4800 v.rw), ((w 4), aB g 600 v.bg), ((w 5), aB g 600 v.wt), ((w 6), aB g 600 v.dp), ((w 7), aI g 200 v.tg), ((w 8), aI g 200 v.ca), ((w 9), aI g 200 v.fs), ((w 10), aI g 200 v.sc), ((w 11), aI g 75 v.fa), ((w 12), aI g 75 v.ma), ((w 13), aI g 75 v.co)]) (As := [.ref h0, .int (nI j)]) (rest := []) E hB hK hZ (e_Policy_faultOfMethod l g H.size po p0 p1 p2 h0 w v mm mb lt ln mn (nI j) hI hLn hMn) mc_Policy_faultOfMethod mi_Policy_faultOfMethod me_Policy_faultOfMethod wd_671 hP hD hS hA [0, 1, 2, 3, 5, 6, 7, 8, 9, 10, 11, 12, 13, 14, 15, 16, 17, 18, 19] rfl (by decide) 0 rfl rfl rfl rfl rfl (by decide) rfl hl.1 rfl (Nat.le_of_ble_eq_true rfl) (by decide) d_Policy_admits_100) (fun r3 hr3 => ?_)
                  refine lv_istore hx hb d_Policy_admits_103 hl (by decide) rfl (fun ls hl => ?_)
                  have hl : lv_has ls 5 [(4, .int r3), (3, .int (nI j)), (0, .ref po), (1, .ref h0), (2, .ref fn)] := hl
                  refine lv_iload hx hb d_Policy_admits_105 (lv_at hl 0 rfl) ?_
                  refine lv_if_eq (tgt := 123) hx hb d_Policy_admits_107 (by decide) (fun h107 => ?_) (fun h107 => ?_)
                  · refine lv_iinc (k := 1) (v := nI (j + 1)) hx hb d_Policy_admits_123 hl rfl ((nI_succ j).symm) (by decide) rfl (fun ls hl => ?_)
                    have hl : lv_has ls 5 [(3, .int (nI (j + 1))), (4, .int r3), (0, .ref po), (1, .ref h0), (2, .ref fn)] := hl
                    refine lv_goto (tgt := 89) hx hb d_Policy_admits_126 (by decide) ?_
                    have hP : va_P g.1 classes [(po, .inr (6, [.ref p0, .ref p1, .ref p2, .int mm, .int mb])), (p0, aB g 480 lt), (p1, aI g 12 ln), (p2, aI g 2 mn), (fn, .inr (0, [.int fa9, .int fp9])), (h0, .inr (3, [.ref (w 0), .ref (w 2), .ref (w 7), .ref (w 8), .ref (w 9), .ref (w 10), .ref (w 11), .ref (w 12), .ref (w 13), .int v.nu, .int v.th, .int v.it, .int (nI v.fi), .int (nI v.me), .int v.mp])), ((w 0), .inr (2, [.ref (w 1), .int (nI v.n)])), ((w 1), aB g 600 v.b), ((w 2), .inr (1, [.ref (w 3), .ref (w 4), .ref (w 5), .ref (w 6), .int (nI v.lo)])), ((w 3), aJ g 4800 v.rw), ((w 4), aB g 600 v.bg), ((w 5), aB g 600 v.wt), ((w 6), aB g 600 v.dp), ((w 7), aI g 200 v.tg), ((w 8), aI g 200 v.ca), ((w 9), aI g 200 v.fs), ((w 10), aI g 200 v.sc), ((w 11), aI g 75 v.fa), ((w 12), aI g 75 v.ma), ((w 13), aI g 75 v.co)] H := hP.sub [0, 1, 2, 3, 4, 5, 6, 7, 8, 9, 10, 11, 12, 13, 14, 15, 16, 17, 18, 19] rfl
                    have hD : va_D A [(po, .inr (6, [.ref p0, .ref p1, .ref p2, .int mm, .int mb])), (p0, aB g 480 lt), (p1, aI g 12 ln), (p2, aI g 2 mn), (fn, .inr (0, [.int fa9, .int fp9])), (h0, .inr (3, [.ref (w 0), .ref (w 2), .ref (w 7), .ref (w 8), .ref (w 9), .ref (w 10), .ref (w 11), .ref (w 12), .ref (w 13), .int v.nu, .int v.th, .int v.it, .int (nI v.fi), .int (nI v.me), .int v.mp])), ((w 0), .inr (2, [.ref (w 1), .int (nI v.n)])), ((w 1), aB g 600 v.b), ((w 2), .inr (1, [.ref (w 3), .ref (w 4), .ref (w 5), .ref (w 6), .int (nI v.lo)])), ((w 3), aJ g 4800 v.rw), ((w 4), aB g 600 v.bg), ((w 5), aB g 600 v.wt), ((w 6), aB g 600 v.dp), ((w 7), aI g 200 v.tg), ((w 8), aI g 200 v.ca), ((w 9), aI g 200 v.fs), ((w 10), aI g 200 v.sc), ((w 11), aI g 75 v.fa), ((w 12), aI g 75 v.ma), ((w 13), aI g 75 v.co)] := hD.sub [0, 1, 2, 3, 4, 5, 6, 7, 8, 9, 10, 11, 12, 13, 14, 15, 16, 17, 18, 19] (by decide) rfl
                    exact ih89 _ (by omega) (j + 1) fa9 fp9 ls _ _ rfl (by omega) (lo_put hlo (hr3 h107)) (lv_sub hl [0, 2, 3, 4] rfl) hP hD hS
                  · refine lv_aload_n hx hb d_Policy_admits_110 rfl (lv_at hl 4 rfl) ?_
                    refine lv_iload hx hb d_Policy_admits_111 (lv_at hl 0 rfl) ?_
                    refine lv_aload_n hx hb d_Policy_admits_113 rfl (lv_at hl 3 rfl) ?_
                    refine lv_iconst (v := 1) hx hb d_Policy_admits_114 (by decide) ?_
                    refine lv_iload_n hx hb d_Policy_admits_115 rfl (lv_at hl 1 rfl) ?_
                    refine tw_si (tw_runV (ws := [(po, .inr (6, [.ref p0, .ref p1, .ref p2, .int mm, .int mb])), (p0, aB g 480 lt), (p1, aI g 12 ln), (p2, aI g 2 mn), (fn, .inr (0, [.int fa9, .int fp9])), (h0, .inr (3, [.ref (w 0), .ref (w 2), .ref (w 7), .ref (w 8), .ref (w 9), .ref (w 10), .ref (w 11), .ref (w 12), .ref (w 13), .int v.nu, .int v.th, .int v.it, .int (nI v.fi), .int (nI v.me), .int v.mp])), ((w 0), .inr (2, [.ref (w 1), .int (nI v.n)])), ((w 1), aB g 600 v.b), ((w 2), .inr (1, [.ref (w 3), .ref (w 4), .ref (w 5), .ref (w 6), .int (nI v.lo)])), ((w 3), aJ g 4800 v.rw), ((w 4), aB g 600 v.bg), ((w 5), aB g 600 v.wt), ((w 6), aB g 600 v.dp), ((w 7), aI g 200 v.tg), ((w 8), aI g 200 v.ca), ((w 9), aI g 200 v.fs), ((w 10), aI g 200 v.sc), ((w 11), aI g 75 v.fa), ((w 12), aI g 75 v.ma), ((w 13), aI g 75 v.co)]) (wc := [(h0, .inr (3, [.ref (w 0), .ref (w 2), .ref (w 7), .ref (w 8), .ref (w 9), .ref (w 10), .ref (w 11), .ref (w 12), .ref (w 13), .int v.nu, .int v.th, .int v.it, .int (nI v.fi), .int (nI v.me), .int v.mp])), ((w 0), .inr (2, [.ref (w 1), .int (nI v.n)])), ((w 1), aB g 600 v.b), ((w 2), .inr (1, [.ref (w 3), .ref (w 4), .ref (w 5), .ref (w 6), .int (nI v.lo)])), ((w 3), aJ g 4800 v.rw), ((w 4), aB g 600 v.bg), ((w 5), aB g 600 v.wt), ((w 6), aB g 600 v.dp), ((w 7), aI g 200 v.tg), ((w 8), aI g 200 v.ca), ((w 9), aI g 200 v.fs), ((w 10), aI g 200 v.sc), ((w 11), aI g 75 v.fa), ((w 12), aI g 75 v.ma), ((w 13), aI g 75 v.co)]) (As := [.int 1, .int (nI j)]) (rest := [.int r3, .ref fn]) E hB hK hZ (s_Layout_memberAt l g H.size h0 w v 1 (nI j) hI) mc_Layout_memberAt mi_Layout_memberAt me_Layout_memberAt wd_675 hP hD hS hA [5, 6, 7, 8, 9, 10, 11, 12, 13, 14, 15, 16, 17, 18, 19] rfl (by decide) 0 rfl rfl rfl rfl rfl (by decide) rfl hl.1 rfl (Nat.le_of_ble_eq_true rfl) (by decide) d_Policy_admits_116) (fun r4 hr4 => ?_)
                    refine tw_wi (wr := [(po, .inr (6, [.ref p0, .ref p1, .ref p2, .int mm, .int mb])), (p0, aB g 480 lt), (p1, aI g 12 ln), (p2, aI g 2 mn), (h0, .inr (3, [.ref (w 0), .ref (w 2), .ref (w 7), .ref (w 8), .ref (w 9), .ref (w 10), .ref (w 11), .ref (w 12), .ref (w 13), .int v.nu, .int v.th, .int v.it, .int (nI v.fi), .int (nI v.me), .int v.mp])), ((w 0), .inr (2, [.ref (w 1), .int (nI v.n)])), ((w 1), aB g 600 v.b), ((w 2), .inr (1, [.ref (w 3), .ref (w 4), .ref (w 5), .ref (w 6), .int (nI v.lo)])), ((w 3), aJ g 4800 v.rw), ((w 4), aB g 600 v.bg), ((w 5), aB g 600 v.wt), ((w 6), aB g 600 v.dp), ((w 7), aI g 200 v.tg), ((w 8), aI g 200 v.ca), ((w 9), aI g 200 v.fs), ((w 10), aI g 200 v.sc), ((w 11), aI g 75 v.fa), ((w 12), aI g 75 v.ma), ((w 13), aI g 75 v.co)]) (tw_runV (ws := [(po, .inr (6, [.ref p0, .ref p1, .ref p2, .int mm, .int mb])), (p0, aB g 480 lt), (p1, aI g 12 ln), (p2, aI g 2 mn), (fn, .inr (0, [.int fa9, .int fp9])), (h0, .inr (3, [.ref (w 0), .ref (w 2), .ref (w 7), .ref (w 8), .ref (w 9), .ref (w 10), .ref (w 11), .ref (w 12), .ref (w 13), .int v.nu, .int v.th, .int v.it, .int (nI v.fi), .int (nI v.me), .int v.mp])), ((w 0), .inr (2, [.ref (w 1), .int (nI v.n)])), ((w 1), aB g 600 v.b), ((w 2), .inr (1, [.ref (w 3), .ref (w 4), .ref (w 5), .ref (w 6), .int (nI v.lo)])), ((w 3), aJ g 4800 v.rw), ((w 4), aB g 600 v.bg), ((w 5), aB g 600 v.wt), ((w 6), aB g 600 v.dp), ((w 7), aI g 200 v.tg), ((w 8), aI g 200 v.ca), ((w 9), aI g 200 v.fs), ((w 10), aI g 200 v.sc), ((w 11), aI g 75 v.fa), ((w 12), aI g 75 v.ma), ((w 13), aI g 75 v.co)]) (wc := [(fn, .inr (0, [.int fa9, .int fp9]))]) (As := [.int r3, .int r4]) (rest := []) E hB hK hZ (c_Finding_tell l g H.size fn fa9 fp9 r3 r4) mc_Finding_tell mi_Finding_tell me_Finding_tell wd_648 hP hD hS hA [4] rfl (by decide) 0 rfl rfl rfl rfl rfl (by decide) rfl hl.1 rfl (Nat.le_of_ble_eq_true rfl) (by decide) d_Policy_admits_119) hP hD hS hA [4] [0, 1, 2, 3, 5, 6, 7, 8, 9, 10, 11, 12, 13, 14, 15, 16, 17, 18, 19] rfl rfl (by decide) (by decide) (fun r5 u6 H locs hr5 hP hD hS => ?_)
                    try dsimp only at hr5
                    have hP : va_P g.1 classes [(po, .inr (6, [.ref p0, .ref p1, .ref p2, .int mm, .int mb])), (p0, aB g 480 lt), (p1, aI g 12 ln), (p2, aI g 2 mn), (h0, .inr (3, [.ref (w 0), .ref (w 2), .ref (w 7), .ref (w 8), .ref (w 9), .ref (w 10), .ref (w 11), .ref (w 12), .ref (w 13), .int v.nu, .int v.th, .int v.it, .int (nI v.fi), .int (nI v.me), .int v.mp])), ((w 0), .inr (2, [.ref (w 1), .int (nI v.n)])), ((w 1), aB g 600 v.b), ((w 2), .inr (1, [.ref (w 3), .ref (w 4), .ref (w 5), .ref (w 6), .int (nI v.lo)])), ((w 3), aJ g 4800 v.rw), ((w 4), aB g 600 v.bg), ((w 5), aB g 600 v.wt), ((w 6), aB g 600 v.dp), ((w 7), aI g 200 v.tg), ((w 8), aI g 200 v.ca), ((w 9), aI g 200 v.fs), ((w 10), aI g 200 v.sc), ((w 11), aI g 75 v.fa), ((w 12), aI g 75 v.ma), ((w 13), aI g 75 v.co), (fn, .inr (0, [.int r3, .int r4]))] H := hP
                    have hD : va_D A [(po, .inr (6, [.ref p0, .ref p1, .ref p2, .int mm, .int mb])), (p0, aB g 480 lt), (p1, aI g 12 ln), (p2, aI g 2 mn), (h0, .inr (3, [.ref (w 0), .ref (w 2), .ref (w 7), .ref (w 8), .ref (w 9), .ref (w 10), .ref (w 11), .ref (w 12), .ref (w 13), .int v.nu, .int v.th, .int v.it, .int (nI v.fi), .int (nI v.me), .int v.mp])), ((w 0), .inr (2, [.ref (w 1), .int (nI v.n)])), ((w 1), aB g 600 v.b), ((w 2), .inr (1, [.ref (w 3), .ref (w 4), .ref (w 5), .ref (w 6), .int (nI v.lo)])), ((w 3), aJ g 4800 v.rw), ((w 4), aB g 600 v.bg), ((w 5), aB g 600 v.wt), ((w 6), aB g 600 v.dp), ((w 7), aI g 200 v.tg), ((w 8), aI g 200 v.ca), ((w 9), aI g 200 v.fs), ((w 10), aI g 200 v.sc), ((w 11), aI g 75 v.fa), ((w 12), aI g 75 v.ma), ((w 13), aI g 75 v.co), (fn, .inr (0, [.int r3, .int r4]))] := hD
                    obtain rfl : r5 = 0 := hr5
                    have hP : va_P g.1 classes [(po, .inr (6, [.ref p0, .ref p1, .ref p2, .int mm, .int mb])), (p0, aB g 480 lt), (p1, aI g 12 ln), (p2, aI g 2 mn), (fn, .inr (0, [.int r3, .int r4])), (h0, .inr (3, [.ref (w 0), .ref (w 2), .ref (w 7), .ref (w 8), .ref (w 9), .ref (w 10), .ref (w 11), .ref (w 12), .ref (w 13), .int v.nu, .int v.th, .int v.it, .int (nI v.fi), .int (nI v.me), .int v.mp])), ((w 0), .inr (2, [.ref (w 1), .int (nI v.n)])), ((w 1), aB g 600 v.b), ((w 2), .inr (1, [.ref (w 3), .ref (w 4), .ref (w 5), .ref (w 6), .int (nI v.lo)])), ((w 3), aJ g 4800 v.rw), ((w 4), aB g 600 v.bg), ((w 5), aB g 600 v.wt), ((w 6), aB g 600 v.dp), ((w 7), aI g 200 v.tg), ((w 8), aI g 200 v.ca), ((w 9), aI g 200 v.fs), ((w 10), aI g 200 v.sc), ((w 11), aI g 75 v.fa), ((w 12), aI g 75 v.ma), ((w 13), aI g 75 v.co)] H := hP.sub [0, 1, 2, 3, 19, 4, 5, 6, 7, 8, 9, 10, 11, 12, 13, 14, 15, 16, 17, 18] rfl
                    have hD : va_D A [(po, .inr (6, [.ref p0, .ref p1, .ref p2, .int mm, .int mb])), (p0, aB g 480 lt), (p1, aI g 12 ln), (p2, aI g 2 mn), (fn, .inr (0, [.int r3, .int r4])), (h0, .inr (3, [.ref (w 0), .ref (w 2), .ref (w 7), .ref (w 8), .ref (w 9), .ref (w 10), .ref (w 11), .ref (w 12), .ref (w 13), .int v.nu, .int v.th, .int v.it, .int (nI v.fi), .int (nI v.me), .int v.mp])), ((w 0), .inr (2, [.ref (w 1), .int (nI v.n)])), ((w 1), aB g 600 v.b), ((w 2), .inr (1, [.ref (w 3), .ref (w 4), .ref (w 5), .ref (w 6), .int (nI v.lo)])), ((w 3), aJ g 4800 v.rw), ((w 4), aB g 600 v.bg), ((w 5), aB g 600 v.wt), ((w 6), aB g 600 v.dp), ((w 7), aI g 200 v.tg), ((w 8), aI g 200 v.ca), ((w 9), aI g 200 v.fs), ((w 10), aI g 200 v.sc), ((w 11), aI g 75 v.fa), ((w 12), aI g 75 v.ma), ((w 13), aI g 75 v.co)] := hD.sub [0, 1, 2, 3, 19, 4, 5, 6, 7, 8, 9, 10, 11, 12, 13, 14, 15, 16, 17, 18] (by decide) rfl
                    exact tw_zret E hS (r3, r4) (by decide) (⟨Or.inl rfl, fun h => absurd h (by decide)⟩) hP hD d_Policy_admits_122
            exact loop89 _ 0 fa9 fp9 ls _ _ rfl (Nat.zero_le _) (fun k h => absurd h (Nat.not_lt_zero k)) (hl) hP hD hS
          · refine lv_aload_n hx hb d_Policy_admits_60 rfl (lv_at hl 1 rfl) ?_
            refine lv_aload_n hx hb d_Policy_admits_61 rfl (lv_at hl 2 rfl) ?_
            refine lv_iload_n hx hb d_Policy_admits_62 rfl (lv_at hl 0 rfl) ?_
            refine tw_si (tw_runV (ws := [(po, .inr (6, [.ref p0, .ref p1, .ref p2, .int mm, .int mb])), (p0, aB g 480 lt), (p1, aI g 12 ln), (p2, aI g 2 mn), (fn, .inr (0, [.int fa9, .int fp9])), (h0, .inr (3, [.ref (w 0), .ref (w 2), .ref (w 7), .ref (w 8), .ref (w 9), .ref (w 10), .ref (w 11), .ref (w 12), .ref (w 13), .int v.nu, .int v.th, .int v.it, .int (nI v.fi), .int (nI v.me), .int v.mp])), ((w 0), .inr (2, [.ref (w 1), .int (nI v.n)])), ((w 1), aB g 600 v.b), ((w 2), .inr (1, [.ref (w 3), .ref (w 4), .ref (w 5), .ref (w 6), .int (nI v.lo)])), ((w 3), aJ g 4800 v.rw), ((w 4), aB g 600 v.bg), ((w 5), aB g 600 v.wt), ((w 6), aB g 600 v.dp), ((w 7), aI g 200 v.tg), ((w 8), aI g 200 v.ca), ((w 9), aI g 200 v.fs), ((w 10), aI g 200 v.sc), ((w 11), aI g 75 v.fa), ((w 12), aI g 75 v.ma), ((w 13), aI g 75 v.co)]) (wc := [(po, .inr (6, [.ref p0, .ref p1, .ref p2, .int mm, .int mb])), (p0, aB g 480 lt), (p1, aI g 12 ln), (p2, aI g 2 mn), (h0, .inr (3, [.ref (w 0), .ref (w 2), .ref (w 7), .ref (w 8), .ref (w 9), .ref (w 10), .ref (w 11), .ref (w 12), .ref (w 13), .int v.nu, .int v.th, .int v.it, .int (nI v.fi), .int (nI v.me), .int v.mp])), ((w 0), .inr (2, [.ref (w 1), .int (nI v.n)])), ((w 1), aB g 600 v.b), ((w 2), .inr (1, [.ref (w 3), .ref (w 4), .ref (w 5), .ref (w 6), .int (nI v.lo)])), ((w 3), aJ g 4800 v.rw), ((w 4), aB g 600 v.bg), ((w 5), aB g 600 v.wt), ((w 6), aB g 600 v.dp), ((w 7), aI g 200 v.tg), ((w 8), aI g 200 v.ca), ((w 9), aI g 200 v.fs), ((w 10), aI g 200 v.sc), ((w 11), aI g 75 v.fa), ((w 12), aI g 75 v.ma), ((w 13), aI g 75 v.co)]) (As := [.ref h0, .int j]) (rest := []) E hB hK hZ (s_Policy_mayUse l g H.size po p0 p1 p2 h0 w v mm mb lt ln mn j hI hLn hMn ) mc_Policy_mayUse mi_Policy_mayUse me_Policy_mayUse wd_664 hP hD hS hA [0, 1, 2, 3, 5, 6, 7, 8, 9, 10, 11, 12, 13, 14, 15, 16, 17, 18, 19] rfl (by decide) 0 rfl rfl rfl rfl rfl (by decide) rfl hl.1 rfl (Nat.le_of_ble_eq_true rfl) (by decide) d_Policy_admits_63) (fun r7 hr7 => ?_)
            refine lv_if_ne (tgt := 81) hx hb d_Policy_admits_66 (by decide) (fun h66 => ?_) (fun h66 => ?_)
            · refine lv_iinc (k := 0) (v := j + 1) hx hb d_Policy_admits_81 hl rfl rfl (by decide) rfl (fun ls hl => ?_)
              have hl : lv_has ls 5 [(3, .int (j + 1)), (0, .ref po), (1, .ref h0), (2, .ref fn)] := hl
              refine lv_goto (tgt := 52) hx hb d_Policy_admits_84 (by decide) ?_
              have hP : va_P g.1 classes [(po, .inr (6, [.ref p0, .ref p1, .ref p2, .int mm, .int mb])), (p0, aB g 480 lt), (p1, aI g 12 ln), (p2, aI g 2 mn), (fn, .inr (0, [.int fa9, .int fp9])), (h0, .inr (3, [.ref (w 0), .ref (w 2), .ref (w 7), .ref (w 8), .ref (w 9), .ref (w 10), .ref (w 11), .ref (w 12), .ref (w 13), .int v.nu, .int v.th, .int v.it, .int (nI v.fi), .int (nI v.me), .int v.mp])), ((w 0), .inr (2, [.ref (w 1), .int (nI v.n)])), ((w 1), aB g 600 v.b), ((w 2), .inr (1, [.ref (w 3), .ref (w 4), .ref (w 5), .ref (w 6), .int (nI v.lo)])), ((w 3), aJ g 4800 v.rw), ((w 4), aB g 600 v.bg), ((w 5), aB g 600 v.wt), ((w 6), aB g 600 v.dp), ((w 7), aI g 200 v.tg), ((w 8), aI g 200 v.ca), ((w 9), aI g 200 v.fs), ((w 10), aI g 200 v.sc), ((w 11), aI g 75 v.fa), ((w 12), aI g 75 v.ma), ((w 13), aI g 75 v.co)] H := hP.sub [0, 1, 2, 3, 4, 5, 6, 7, 8, 9, 10, 11, 12, 13, 14, 15, 16, 17, 18, 19] rfl
              have hD : va_D A [(po, .inr (6, [.ref p0, .ref p1, .ref p2, .int mm, .int mb])), (p0, aB g 480 lt), (p1, aI g 12 ln), (p2, aI g 2 mn), (fn, .inr (0, [.int fa9, .int fp9])), (h0, .inr (3, [.ref (w 0), .ref (w 2), .ref (w 7), .ref (w 8), .ref (w 9), .ref (w 10), .ref (w 11), .ref (w 12), .ref (w 13), .int v.nu, .int v.th, .int v.it, .int (nI v.fi), .int (nI v.me), .int v.mp])), ((w 0), .inr (2, [.ref (w 1), .int (nI v.n)])), ((w 1), aB g 600 v.b), ((w 2), .inr (1, [.ref (w 3), .ref (w 4), .ref (w 5), .ref (w 6), .int (nI v.lo)])), ((w 3), aJ g 4800 v.rw), ((w 4), aB g 600 v.bg), ((w 5), aB g 600 v.wt), ((w 6), aB g 600 v.dp), ((w 7), aI g 200 v.tg), ((w 8), aI g 200 v.ca), ((w 9), aI g 200 v.fs), ((w 10), aI g 200 v.sc), ((w 11), aI g 75 v.fa), ((w 12), aI g 75 v.ma), ((w 13), aI g 75 v.co)] := hD.sub [0, 1, 2, 3, 4, 5, 6, 7, 8, 9, 10, 11, 12, 13, 14, 15, 16, 17, 18, 19] (by decide) rfl
              exact ih _ (hk ▸ ims_dec h57) (j + 1) fa9 fp9 ls _ _ rfl  (lv_sub hl [0, 1, 2, 3] rfl) hP hD hS
            · refine lv_aload_n hx hb d_Policy_admits_69 rfl (lv_at hl 3 rfl) ?_
              refine lv_bipush (v := 15) hx hb d_Policy_admits_70 (by decide) ?_
              refine lv_aload_n hx hb d_Policy_admits_72 rfl (lv_at hl 2 rfl) ?_
              refine lv_iload_n hx hb d_Policy_admits_73 rfl (lv_at hl 0 rfl) ?_
              refine tw_si (tw_runV (ws := [(po, .inr (6, [.ref p0, .ref p1, .ref p2, .int mm, .int mb])), (p0, aB g 480 lt), (p1, aI g 12 ln), (p2, aI g 2 mn), (fn, .inr (0, [.int fa9, .int fp9])), (h0, .inr (3, [.ref (w 0), .ref (w 2), .ref (w 7), .ref (w 8), .ref (w 9), .ref (w 10), .ref (w 11), .ref (w 12), .ref (w 13), .int v.nu, .int v.th, .int v.it, .int (nI v.fi), .int (nI v.me), .int v.mp])), ((w 0), .inr (2, [.ref (w 1), .int (nI v.n)])), ((w 1), aB g 600 v.b), ((w 2), .inr (1, [.ref (w 3), .ref (w 4), .ref (w 5), .ref (w 6), .int (nI v.lo)])), ((w 3), aJ g 4800 v.rw), ((w 4), aB g 600 v.bg), ((w 5), aB g 600 v.wt), ((w 6), aB g 600 v.dp), ((w 7), aI g 200 v.tg), ((w 8), aI g 200 v.ca), ((w 9), aI g 200 v.fs), ((w 10), aI g 200 v.sc), ((w 11), aI g 75 v.fa), ((w 12), aI g 75 v.ma), ((w 13), aI g 75 v.co)]) (wc := [(h0, .inr (3, [.ref (w 0), .ref (w 2), .ref (w 7), .ref (w 8), .ref (w 9), .ref (w 10), .ref (w 11), .ref (w 12), .ref (w 13), .int v.nu, .int v.th, .int v.it, .int (nI v.fi), .int (nI v.me), .int v.mp])), ((w 0), .inr (2, [.ref (w 1), .int (nI v.n)])), ((w 1), aB g 600 v.b), ((w 2), .inr (1, [.ref (w 3), .ref (w 4), .ref (w 5), .ref (w 6), .int (nI v.lo)])), ((w 3), aJ g 4800 v.rw), ((w 4), aB g 600 v.bg), ((w 5), aB g 600 v.wt), ((w 6), aB g 600 v.dp), ((w 7), aI g 200 v.tg), ((w 8), aI g 200 v.ca), ((w 9), aI g 200 v.fs), ((w 10), aI g 200 v.sc), ((w 11), aI g 75 v.fa), ((w 12), aI g 75 v.ma), ((w 13), aI g 75 v.co)]) (As := [.int j]) (rest := [.int 15, .ref fn]) E hB hK hZ (s_Layout_placeOf l g H.size h0 w v j hI) mc_Layout_placeOf mi_Layout_placeOf me_Layout_placeOf wd_670 hP hD hS hA [5, 6, 7, 8, 9, 10, 11, 12, 13, 14, 15, 16, 17, 18, 19] rfl (by decide) 0 rfl rfl rfl rfl rfl (by decide) rfl hl.1 rfl (Nat.le_of_ble_eq_true rfl) (by decide) d_Policy_admits_74) (fun r8 hr8 => ?_)
              refine tw_wi (wr := [(po, .inr (6, [.ref p0, .ref p1, .ref p2, .int mm, .int mb])), (p0, aB g 480 lt), (p1, aI g 12 ln), (p2, aI g 2 mn), (h0, .inr (3, [.ref (w 0), .ref (w 2), .ref (w 7), .ref (w 8), .ref (w 9), .ref (w 10), .ref (w 11), .ref (w 12), .ref (w 13), .int v.nu, .int v.th, .int v.it, .int (nI v.fi), .int (nI v.me), .int v.mp])), ((w 0), .inr (2, [.ref (w 1), .int (nI v.n)])), ((w 1), aB g 600 v.b), ((w 2), .inr (1, [.ref (w 3), .ref (w 4), .ref (w 5), .ref (w 6), .int (nI v.lo)])), ((w 3), aJ g 4800 v.rw), ((w 4), aB g 600 v.bg), ((w 5), aB g 600 v.wt), ((w 6), aB g 600 v.dp), ((w 7), aI g 200 v.tg), ((w 8), aI g 200 v.ca), ((w 9), aI g 200 v.fs), ((w 10), aI g 200 v.sc), ((w 11), aI g 75 v.fa), ((w 12), aI g 75 v.ma), ((w 13), aI g 75 v.co)]) (tw_runV (ws := [(po, .inr (6, [.ref p0, .ref p1, .ref p2, .int mm, .int mb])), (p0, aB g 480 lt), (p1, aI g 12 ln), (p2, aI g 2 mn), (fn, .inr (0, [.int fa9, .int fp9])), (h0, .inr (3, [.ref (w 0), .ref (w 2), .ref (w 7), .ref (w 8), .ref (w 9), .ref (w 10), .ref (w 11), .ref (w 12), .ref (w 13), .int v.nu, .int v.th, .int v.it, .int (nI v.fi), .int (nI v.me), .int v.mp])), ((w 0), .inr (2, [.ref (w 1), .int (nI v.n)])), ((w 1), aB g 600 v.b), ((w 2), .inr (1, [.ref (w 3), .ref (w 4), .ref (w 5), .ref (w 6), .int (nI v.lo)])), ((w 3), aJ g 4800 v.rw), ((w 4), aB g 600 v.bg), ((w 5), aB g 600 v.wt), ((w 6), aB g 600 v.dp), ((w 7), aI g 200 v.tg), ((w 8), aI g 200 v.ca), ((w 9), aI g 200 v.fs), ((w 10), aI g 200 v.sc), ((w 11), aI g 75 v.fa), ((w 12), aI g 75 v.ma), ((w 13), aI g 75 v.co)]) (wc := [(fn, .inr (0, [.int fa9, .int fp9]))]) (As := [.int 15, .int r8]) (rest := []) E hB hK hZ (c_Finding_tell l g H.size fn fa9 fp9 15 r8) mc_Finding_tell mi_Finding_tell me_Finding_tell wd_648 hP hD hS hA [4] rfl (by decide) 0 rfl rfl rfl rfl rfl (by decide) rfl hl.1 rfl (Nat.le_of_ble_eq_true rfl) (by decide) d_Policy_admits_77) hP hD hS hA [4] [0, 1, 2, 3, 5, 6, 7, 8, 9, 10, 11, 12, 13, 14, 15, 16, 17, 18, 19] rfl rfl (by decide) (by decide) (fun r9 u10 H locs hr9 hP hD hS => ?_)
              try dsimp only at hr9
              have hP : va_P g.1 classes [(po, .inr (6, [.ref p0, .ref p1, .ref p2, .int mm, .int mb])), (p0, aB g 480 lt), (p1, aI g 12 ln), (p2, aI g 2 mn), (h0, .inr (3, [.ref (w 0), .ref (w 2), .ref (w 7), .ref (w 8), .ref (w 9), .ref (w 10), .ref (w 11), .ref (w 12), .ref (w 13), .int v.nu, .int v.th, .int v.it, .int (nI v.fi), .int (nI v.me), .int v.mp])), ((w 0), .inr (2, [.ref (w 1), .int (nI v.n)])), ((w 1), aB g 600 v.b), ((w 2), .inr (1, [.ref (w 3), .ref (w 4), .ref (w 5), .ref (w 6), .int (nI v.lo)])), ((w 3), aJ g 4800 v.rw), ((w 4), aB g 600 v.bg), ((w 5), aB g 600 v.wt), ((w 6), aB g 600 v.dp), ((w 7), aI g 200 v.tg), ((w 8), aI g 200 v.ca), ((w 9), aI g 200 v.fs), ((w 10), aI g 200 v.sc), ((w 11), aI g 75 v.fa), ((w 12), aI g 75 v.ma), ((w 13), aI g 75 v.co), (fn, .inr (0, [.int 15, .int r8]))] H := hP
              have hD : va_D A [(po, .inr (6, [.ref p0, .ref p1, .ref p2, .int mm, .int mb])), (p0, aB g 480 lt), (p1, aI g 12 ln), (p2, aI g 2 mn), (h0, .inr (3, [.ref (w 0), .ref (w 2), .ref (w 7), .ref (w 8), .ref (w 9), .ref (w 10), .ref (w 11), .ref (w 12), .ref (w 13), .int v.nu, .int v.th, .int v.it, .int (nI v.fi), .int (nI v.me), .int v.mp])), ((w 0), .inr (2, [.ref (w 1), .int (nI v.n)])), ((w 1), aB g 600 v.b), ((w 2), .inr (1, [.ref (w 3), .ref (w 4), .ref (w 5), .ref (w 6), .int (nI v.lo)])), ((w 3), aJ g 4800 v.rw), ((w 4), aB g 600 v.bg), ((w 5), aB g 600 v.wt), ((w 6), aB g 600 v.dp), ((w 7), aI g 200 v.tg), ((w 8), aI g 200 v.ca), ((w 9), aI g 200 v.fs), ((w 10), aI g 200 v.sc), ((w 11), aI g 75 v.fa), ((w 12), aI g 75 v.ma), ((w 13), aI g 75 v.co), (fn, .inr (0, [.int 15, .int r8]))] := hD
              obtain rfl : r9 = 0 := hr9
              have hP : va_P g.1 classes [(po, .inr (6, [.ref p0, .ref p1, .ref p2, .int mm, .int mb])), (p0, aB g 480 lt), (p1, aI g 12 ln), (p2, aI g 2 mn), (fn, .inr (0, [.int 15, .int r8])), (h0, .inr (3, [.ref (w 0), .ref (w 2), .ref (w 7), .ref (w 8), .ref (w 9), .ref (w 10), .ref (w 11), .ref (w 12), .ref (w 13), .int v.nu, .int v.th, .int v.it, .int (nI v.fi), .int (nI v.me), .int v.mp])), ((w 0), .inr (2, [.ref (w 1), .int (nI v.n)])), ((w 1), aB g 600 v.b), ((w 2), .inr (1, [.ref (w 3), .ref (w 4), .ref (w 5), .ref (w 6), .int (nI v.lo)])), ((w 3), aJ g 4800 v.rw), ((w 4), aB g 600 v.bg), ((w 5), aB g 600 v.wt), ((w 6), aB g 600 v.dp), ((w 7), aI g 200 v.tg), ((w 8), aI g 200 v.ca), ((w 9), aI g 200 v.fs), ((w 10), aI g 200 v.sc), ((w 11), aI g 75 v.fa), ((w 12), aI g 75 v.ma), ((w 13), aI g 75 v.co)] H := hP.sub [0, 1, 2, 3, 19, 4, 5, 6, 7, 8, 9, 10, 11, 12, 13, 14, 15, 16, 17, 18] rfl
              have hD : va_D A [(po, .inr (6, [.ref p0, .ref p1, .ref p2, .int mm, .int mb])), (p0, aB g 480 lt), (p1, aI g 12 ln), (p2, aI g 2 mn), (fn, .inr (0, [.int 15, .int r8])), (h0, .inr (3, [.ref (w 0), .ref (w 2), .ref (w 7), .ref (w 8), .ref (w 9), .ref (w 10), .ref (w 11), .ref (w 12), .ref (w 13), .int v.nu, .int v.th, .int v.it, .int (nI v.fi), .int (nI v.me), .int v.mp])), ((w 0), .inr (2, [.ref (w 1), .int (nI v.n)])), ((w 1), aB g 600 v.b), ((w 2), .inr (1, [.ref (w 3), .ref (w 4), .ref (w 5), .ref (w 6), .int (nI v.lo)])), ((w 3), aJ g 4800 v.rw), ((w 4), aB g 600 v.bg), ((w 5), aB g 600 v.wt), ((w 6), aB g 600 v.dp), ((w 7), aI g 200 v.tg), ((w 8), aI g 200 v.ca), ((w 9), aI g 200 v.fs), ((w 10), aI g 200 v.sc), ((w 11), aI g 75 v.fa), ((w 12), aI g 75 v.ma), ((w 13), aI g 75 v.co)] := hD.sub [0, 1, 2, 3, 19, 4, 5, 6, 7, 8, 9, 10, 11, 12, 13, 14, 15, 16, 17, 18] (by decide) rfl
              exact tw_zret E hS (15, r8) (by decide) (⟨Or.inl rfl, fun h => absurd h (by decide)⟩) hP hD d_Policy_admits_80
      exact loop52 _ 1 fa fp ls _ _ rfl  (hl) hP hD hS
    · refine lv_aload_n hx hb d_Policy_admits_39 rfl (lv_at hl 2 rfl) ?_
      refine lv_bipush (v := 14) hx hb d_Policy_admits_40 (by decide) ?_
      refine lv_aload_n hx hb d_Policy_admits_42 rfl (lv_at hl 1 rfl) ?_
      refine va_getN (D := g.1) (ci := 3) (v := .int v.th) (C := R_Layout) (T := F_Layout) (N := 15) hx hb hts in_Layout hown hK hP 5 rfl rfl 10 (by decide) (hts _ wd_263) (fun _ h9 => h9) rfl d_Policy_admits_43 ?_
      refine tw_wi (wr := [(po, .inr (6, [.ref p0, .ref p1, .ref p2, .int mm, .int mb])), (p0, aB g 480 lt), (p1, aI g 12 ln), (p2, aI g 2 mn), (h0, .inr (3, [.ref (w 0), .ref (w 2), .ref (w 7), .ref (w 8), .ref (w 9), .ref (w 10), .ref (w 11), .ref (w 12), .ref (w 13), .int v.nu, .int v.th, .int v.it, .int (nI v.fi), .int (nI v.me), .int v.mp])), ((w 0), .inr (2, [.ref (w 1), .int (nI v.n)])), ((w 1), aB g 600 v.b), ((w 2), .inr (1, [.ref (w 3), .ref (w 4), .ref (w 5), .ref (w 6), .int (nI v.lo)])), ((w 3), aJ g 4800 v.rw), ((w 4), aB g 600 v.bg), ((w 5), aB g 600 v.wt), ((w 6), aB g 600 v.dp), ((w 7), aI g 200 v.tg), ((w 8), aI g 200 v.ca), ((w 9), aI g 200 v.fs), ((w 10), aI g 200 v.sc), ((w 11), aI g 75 v.fa), ((w 12), aI g 75 v.ma), ((w 13), aI g 75 v.co)]) (tw_runV (ws := [(po, .inr (6, [.ref p0, .ref p1, .ref p2, .int mm, .int mb])), (p0, aB g 480 lt), (p1, aI g 12 ln), (p2, aI g 2 mn), (fn, .inr (0, [.int fa, .int fp])), (h0, .inr (3, [.ref (w 0), .ref (w 2), .ref (w 7), .ref (w 8), .ref (w 9), .ref (w 10), .ref (w 11), .ref (w 12), .ref (w 13), .int v.nu, .int v.th, .int v.it, .int (nI v.fi), .int (nI v.me), .int v.mp])), ((w 0), .inr (2, [.ref (w 1), .int (nI v.n)])), ((w 1), aB g 600 v.b), ((w 2), .inr (1, [.ref (w 3), .ref (w 4), .ref (w 5), .ref (w 6), .int (nI v.lo)])), ((w 3), aJ g 4800 v.rw), ((w 4), aB g 600 v.bg), ((w 5), aB g 600 v.wt), ((w 6), aB g 600 v.dp), ((w 7), aI g 200 v.tg), ((w 8), aI g 200 v.ca), ((w 9), aI g 200 v.fs), ((w 10), aI g 200 v.sc), ((w 11), aI g 75 v.fa), ((w 12), aI g 75 v.ma), ((w 13), aI g 75 v.co)]) (wc := [(fn, .inr (0, [.int fa, .int fp]))]) (As := [.int 14, .int v.th]) (rest := []) E hB hK hZ (c_Finding_tell l g H.size fn fa fp 14 v.th) mc_Finding_tell mi_Finding_tell me_Finding_tell wd_648 hP hD hS hA [4] rfl (by decide) 0 rfl rfl rfl rfl rfl (by decide) rfl hl.1 rfl (Nat.le_of_ble_eq_true rfl) (by decide) d_Policy_admits_46) hP hD hS hA [4] [0, 1, 2, 3, 5, 6, 7, 8, 9, 10, 11, 12, 13, 14, 15, 16, 17, 18, 19] rfl rfl (by decide) (by decide) (fun r11 u12 H locs hr11 hP hD hS => ?_)
      try dsimp only at hr11
      have hP : va_P g.1 classes [(po, .inr (6, [.ref p0, .ref p1, .ref p2, .int mm, .int mb])), (p0, aB g 480 lt), (p1, aI g 12 ln), (p2, aI g 2 mn), (h0, .inr (3, [.ref (w 0), .ref (w 2), .ref (w 7), .ref (w 8), .ref (w 9), .ref (w 10), .ref (w 11), .ref (w 12), .ref (w 13), .int v.nu, .int v.th, .int v.it, .int (nI v.fi), .int (nI v.me), .int v.mp])), ((w 0), .inr (2, [.ref (w 1), .int (nI v.n)])), ((w 1), aB g 600 v.b), ((w 2), .inr (1, [.ref (w 3), .ref (w 4), .ref (w 5), .ref (w 6), .int (nI v.lo)])), ((w 3), aJ g 4800 v.rw), ((w 4), aB g 600 v.bg), ((w 5), aB g 600 v.wt), ((w 6), aB g 600 v.dp), ((w 7), aI g 200 v.tg), ((w 8), aI g 200 v.ca), ((w 9), aI g 200 v.fs), ((w 10), aI g 200 v.sc), ((w 11), aI g 75 v.fa), ((w 12), aI g 75 v.ma), ((w 13), aI g 75 v.co), (fn, .inr (0, [.int 14, .int v.th]))] H := hP
      have hD : va_D A [(po, .inr (6, [.ref p0, .ref p1, .ref p2, .int mm, .int mb])), (p0, aB g 480 lt), (p1, aI g 12 ln), (p2, aI g 2 mn), (h0, .inr (3, [.ref (w 0), .ref (w 2), .ref (w 7), .ref (w 8), .ref (w 9), .ref (w 10), .ref (w 11), .ref (w 12), .ref (w 13), .int v.nu, .int v.th, .int v.it, .int (nI v.fi), .int (nI v.me), .int v.mp])), ((w 0), .inr (2, [.ref (w 1), .int (nI v.n)])), ((w 1), aB g 600 v.b), ((w 2), .inr (1, [.ref (w 3), .ref (w 4), .ref (w 5), .ref (w 6), .int (nI v.lo)])), ((w 3), aJ g 4800 v.rw), ((w 4), aB g 600 v.bg), ((w 5), aB g 600 v.wt), ((w 6), aB g 600 v.dp), ((w 7), aI g 200 v.tg), ((w 8), aI g 200 v.ca), ((w 9), aI g 200 v.fs), ((w 10), aI g 200 v.sc), ((w 11), aI g 75 v.fa), ((w 12), aI g 75 v.ma), ((w 13), aI g 75 v.co), (fn, .inr (0, [.int 14, .int v.th]))] := hD
      obtain rfl : r11 = 0 := hr11
      have hP : va_P g.1 classes [(po, .inr (6, [.ref p0, .ref p1, .ref p2, .int mm, .int mb])), (p0, aB g 480 lt), (p1, aI g 12 ln), (p2, aI g 2 mn), (fn, .inr (0, [.int 14, .int v.th])), (h0, .inr (3, [.ref (w 0), .ref (w 2), .ref (w 7), .ref (w 8), .ref (w 9), .ref (w 10), .ref (w 11), .ref (w 12), .ref (w 13), .int v.nu, .int v.th, .int v.it, .int (nI v.fi), .int (nI v.me), .int v.mp])), ((w 0), .inr (2, [.ref (w 1), .int (nI v.n)])), ((w 1), aB g 600 v.b), ((w 2), .inr (1, [.ref (w 3), .ref (w 4), .ref (w 5), .ref (w 6), .int (nI v.lo)])), ((w 3), aJ g 4800 v.rw), ((w 4), aB g 600 v.bg), ((w 5), aB g 600 v.wt), ((w 6), aB g 600 v.dp), ((w 7), aI g 200 v.tg), ((w 8), aI g 200 v.ca), ((w 9), aI g 200 v.fs), ((w 10), aI g 200 v.sc), ((w 11), aI g 75 v.fa), ((w 12), aI g 75 v.ma), ((w 13), aI g 75 v.co)] H := hP.sub [0, 1, 2, 3, 19, 4, 5, 6, 7, 8, 9, 10, 11, 12, 13, 14, 15, 16, 17, 18] rfl
      have hD : va_D A [(po, .inr (6, [.ref p0, .ref p1, .ref p2, .int mm, .int mb])), (p0, aB g 480 lt), (p1, aI g 12 ln), (p2, aI g 2 mn), (fn, .inr (0, [.int 14, .int v.th])), (h0, .inr (3, [.ref (w 0), .ref (w 2), .ref (w 7), .ref (w 8), .ref (w 9), .ref (w 10), .ref (w 11), .ref (w 12), .ref (w 13), .int v.nu, .int v.th, .int v.it, .int (nI v.fi), .int (nI v.me), .int v.mp])), ((w 0), .inr (2, [.ref (w 1), .int (nI v.n)])), ((w 1), aB g 600 v.b), ((w 2), .inr (1, [.ref (w 3), .ref (w 4), .ref (w 5), .ref (w 6), .int (nI v.lo)])), ((w 3), aJ g 4800 v.rw), ((w 4), aB g 600 v.bg), ((w 5), aB g 600 v.wt), ((w 6), aB g 600 v.dp), ((w 7), aI g 200 v.tg), ((w 8), aI g 200 v.ca), ((w 9), aI g 200 v.fs), ((w 10), aI g 200 v.sc), ((w 11), aI g 75 v.fa), ((w 12), aI g 75 v.ma), ((w 13), aI g 75 v.co)] := hD.sub [0, 1, 2, 3, 19, 4, 5, 6, 7, 8, 9, 10, 11, 12, 13, 14, 15, 16, 17, 18] (by decide) rfl
      exact tw_zret E hS (14, v.th) (by decide) (⟨Or.inl rfl, fun h => absurd h (by decide)⟩) hP hD d_Policy_admits_49
  · refine lv_aload_n hx hb d_Policy_admits_11 rfl (lv_at hl 2 rfl) ?_
    refine lv_bipush (v := 13) hx hb d_Policy_admits_12 (by decide) ?_
    refine lv_aload_n hx hb d_Policy_admits_14 rfl (lv_at hl 1 rfl) ?_
    refine va_getN (D := g.1) (ci := 3) (v := .int v.mp) (C := R_Layout) (T := F_Layout) (N := 15) hx hb hts in_Layout hown hK hP 5 rfl rfl 14 (by decide) (hts _ wd_279) (fun _ h9 => h9) rfl d_Policy_admits_15 ?_
    refine tw_wi (wr := [(po, .inr (6, [.ref p0, .ref p1, .ref p2, .int mm, .int mb])), (p0, aB g 480 lt), (p1, aI g 12 ln), (p2, aI g 2 mn), (h0, .inr (3, [.ref (w 0), .ref (w 2), .ref (w 7), .ref (w 8), .ref (w 9), .ref (w 10), .ref (w 11), .ref (w 12), .ref (w 13), .int v.nu, .int v.th, .int v.it, .int (nI v.fi), .int (nI v.me), .int v.mp])), ((w 0), .inr (2, [.ref (w 1), .int (nI v.n)])), ((w 1), aB g 600 v.b), ((w 2), .inr (1, [.ref (w 3), .ref (w 4), .ref (w 5), .ref (w 6), .int (nI v.lo)])), ((w 3), aJ g 4800 v.rw), ((w 4), aB g 600 v.bg), ((w 5), aB g 600 v.wt), ((w 6), aB g 600 v.dp), ((w 7), aI g 200 v.tg), ((w 8), aI g 200 v.ca), ((w 9), aI g 200 v.fs), ((w 10), aI g 200 v.sc), ((w 11), aI g 75 v.fa), ((w 12), aI g 75 v.ma), ((w 13), aI g 75 v.co)]) (tw_runV (ws := [(po, .inr (6, [.ref p0, .ref p1, .ref p2, .int mm, .int mb])), (p0, aB g 480 lt), (p1, aI g 12 ln), (p2, aI g 2 mn), (fn, .inr (0, [.int fa, .int fp])), (h0, .inr (3, [.ref (w 0), .ref (w 2), .ref (w 7), .ref (w 8), .ref (w 9), .ref (w 10), .ref (w 11), .ref (w 12), .ref (w 13), .int v.nu, .int v.th, .int v.it, .int (nI v.fi), .int (nI v.me), .int v.mp])), ((w 0), .inr (2, [.ref (w 1), .int (nI v.n)])), ((w 1), aB g 600 v.b), ((w 2), .inr (1, [.ref (w 3), .ref (w 4), .ref (w 5), .ref (w 6), .int (nI v.lo)])), ((w 3), aJ g 4800 v.rw), ((w 4), aB g 600 v.bg), ((w 5), aB g 600 v.wt), ((w 6), aB g 600 v.dp), ((w 7), aI g 200 v.tg), ((w 8), aI g 200 v.ca), ((w 9), aI g 200 v.fs), ((w 10), aI g 200 v.sc), ((w 11), aI g 75 v.fa), ((w 12), aI g 75 v.ma), ((w 13), aI g 75 v.co)]) (wc := [(fn, .inr (0, [.int fa, .int fp]))]) (As := [.int 13, .int v.mp]) (rest := []) E hB hK hZ (c_Finding_tell l g H.size fn fa fp 13 v.mp) mc_Finding_tell mi_Finding_tell me_Finding_tell wd_648 hP hD hS hA [4] rfl (by decide) 0 rfl rfl rfl rfl rfl (by decide) rfl hl.1 rfl (Nat.le_of_ble_eq_true rfl) (by decide) d_Policy_admits_18) hP hD hS hA [4] [0, 1, 2, 3, 5, 6, 7, 8, 9, 10, 11, 12, 13, 14, 15, 16, 17, 18, 19] rfl rfl (by decide) (by decide) (fun r13 u14 H locs hr13 hP hD hS => ?_)
    try dsimp only at hr13
    have hP : va_P g.1 classes [(po, .inr (6, [.ref p0, .ref p1, .ref p2, .int mm, .int mb])), (p0, aB g 480 lt), (p1, aI g 12 ln), (p2, aI g 2 mn), (h0, .inr (3, [.ref (w 0), .ref (w 2), .ref (w 7), .ref (w 8), .ref (w 9), .ref (w 10), .ref (w 11), .ref (w 12), .ref (w 13), .int v.nu, .int v.th, .int v.it, .int (nI v.fi), .int (nI v.me), .int v.mp])), ((w 0), .inr (2, [.ref (w 1), .int (nI v.n)])), ((w 1), aB g 600 v.b), ((w 2), .inr (1, [.ref (w 3), .ref (w 4), .ref (w 5), .ref (w 6), .int (nI v.lo)])), ((w 3), aJ g 4800 v.rw), ((w 4), aB g 600 v.bg), ((w 5), aB g 600 v.wt), ((w 6), aB g 600 v.dp), ((w 7), aI g 200 v.tg), ((w 8), aI g 200 v.ca), ((w 9), aI g 200 v.fs), ((w 10), aI g 200 v.sc), ((w 11), aI g 75 v.fa), ((w 12), aI g 75 v.ma), ((w 13), aI g 75 v.co), (fn, .inr (0, [.int 13, .int v.mp]))] H := hP
    have hD : va_D A [(po, .inr (6, [.ref p0, .ref p1, .ref p2, .int mm, .int mb])), (p0, aB g 480 lt), (p1, aI g 12 ln), (p2, aI g 2 mn), (h0, .inr (3, [.ref (w 0), .ref (w 2), .ref (w 7), .ref (w 8), .ref (w 9), .ref (w 10), .ref (w 11), .ref (w 12), .ref (w 13), .int v.nu, .int v.th, .int v.it, .int (nI v.fi), .int (nI v.me), .int v.mp])), ((w 0), .inr (2, [.ref (w 1), .int (nI v.n)])), ((w 1), aB g 600 v.b), ((w 2), .inr (1, [.ref (w 3), .ref (w 4), .ref (w 5), .ref (w 6), .int (nI v.lo)])), ((w 3), aJ g 4800 v.rw), ((w 4), aB g 600 v.bg), ((w 5), aB g 600 v.wt), ((w 6), aB g 600 v.dp), ((w 7), aI g 200 v.tg), ((w 8), aI g 200 v.ca), ((w 9), aI g 200 v.fs), ((w 10), aI g 200 v.sc), ((w 11), aI g 75 v.fa), ((w 12), aI g 75 v.ma), ((w 13), aI g 75 v.co), (fn, .inr (0, [.int 13, .int v.mp]))] := hD
    obtain rfl : r13 = 0 := hr13
    have hP : va_P g.1 classes [(po, .inr (6, [.ref p0, .ref p1, .ref p2, .int mm, .int mb])), (p0, aB g 480 lt), (p1, aI g 12 ln), (p2, aI g 2 mn), (fn, .inr (0, [.int 13, .int v.mp])), (h0, .inr (3, [.ref (w 0), .ref (w 2), .ref (w 7), .ref (w 8), .ref (w 9), .ref (w 10), .ref (w 11), .ref (w 12), .ref (w 13), .int v.nu, .int v.th, .int v.it, .int (nI v.fi), .int (nI v.me), .int v.mp])), ((w 0), .inr (2, [.ref (w 1), .int (nI v.n)])), ((w 1), aB g 600 v.b), ((w 2), .inr (1, [.ref (w 3), .ref (w 4), .ref (w 5), .ref (w 6), .int (nI v.lo)])), ((w 3), aJ g 4800 v.rw), ((w 4), aB g 600 v.bg), ((w 5), aB g 600 v.wt), ((w 6), aB g 600 v.dp), ((w 7), aI g 200 v.tg), ((w 8), aI g 200 v.ca), ((w 9), aI g 200 v.fs), ((w 10), aI g 200 v.sc), ((w 11), aI g 75 v.fa), ((w 12), aI g 75 v.ma), ((w 13), aI g 75 v.co)] H := hP.sub [0, 1, 2, 3, 19, 4, 5, 6, 7, 8, 9, 10, 11, 12, 13, 14, 15, 16, 17, 18] rfl
    have hD : va_D A [(po, .inr (6, [.ref p0, .ref p1, .ref p2, .int mm, .int mb])), (p0, aB g 480 lt), (p1, aI g 12 ln), (p2, aI g 2 mn), (fn, .inr (0, [.int 13, .int v.mp])), (h0, .inr (3, [.ref (w 0), .ref (w 2), .ref (w 7), .ref (w 8), .ref (w 9), .ref (w 10), .ref (w 11), .ref (w 12), .ref (w 13), .int v.nu, .int v.th, .int v.it, .int (nI v.fi), .int (nI v.me), .int v.mp])), ((w 0), .inr (2, [.ref (w 1), .int (nI v.n)])), ((w 1), aB g 600 v.b), ((w 2), .inr (1, [.ref (w 3), .ref (w 4), .ref (w 5), .ref (w 6), .int (nI v.lo)])), ((w 3), aJ g 4800 v.rw), ((w 4), aB g 600 v.bg), ((w 5), aB g 600 v.wt), ((w 6), aB g 600 v.dp), ((w 7), aI g 200 v.tg), ((w 8), aI g 200 v.ca), ((w 9), aI g 200 v.fs), ((w 10), aI g 200 v.sc), ((w 11), aI g 75 v.fa), ((w 12), aI g 75 v.ma), ((w 13), aI g 75 v.co)] := hD.sub [0, 1, 2, 3, 19, 4, 5, 6, 7, 8, 9, 10, 11, 12, 13, 14, 15, 16, 17, 18] (by decide) rfl
    exact tw_zret E hS (13, v.mp) (by decide) (⟨Or.inl rfl, fun h => absurd h (by decide)⟩) hP hD d_Policy_admits_21
end
section
/-! What the reference's questions rest on. -/
theorem tx_2 (j : Nat) : 400 + (2 * nI j) = nI (400 + 2 * j) := by
  rw [show (2 : Int32) * nI j = nI (2 * j) from pk_mul 2 j]
  exact nI_add 400 _
theorem tx_3 {j w : Nat} (h : 3 ≤ w) : 4 + (4 * nI j) + (2 * (nI w - 3)) = nI (4 + 4 * j + 2 * (w - 3)) := by
  rw [show (4 : Int32) * nI j = nI (4 * j) from pk_mul 4 j, show nI w - 3 = nI (w - 3) from pk_sub (b := 3) h, show (2 : Int32) * nI (w - 3) = nI (2 * (w - 3)) from pk_mul 2 _, show (4 : Int32) + nI (4 * j) = nI (4 + 4 * j) from nI_add 4 _]
  exact nI_add _ _
theorem tx_5 {c j w : Nat} (h : 5 ≤ w) : 4 + (4 * (nI c + nI j)) + (2 * (nI w - 5)) = nI (4 + 4 * (c + j) + 2 * (w - 5)) := by
  rw [nI_add, show (4 : Int32) * nI (c + j) = nI (4 * (c + j)) from pk_mul 4 _, show nI w - 5 = nI (w - 5) from pk_sub (b := 5) h, show (2 : Int32) * nI (w - 5) = nI (2 * (w - 5)) from pk_mul 2 _, show (4 : Int32) + nI (4 * (c + j)) = nI (4 + 4 * (c + j)) from nI_add 4 _]
  exact nI_add _ _
theorem txg_w3 {gt : Nat → Int32} {j w : Nat} (h : TXG gt (4 + 4 * j) ∧ TXG gt (6 + 4 * j)) (hw : 3 ≤ w ∧ w ≤ 4) : TXG gt (4 + 4 * j + 2 * (w - 3)) := by
  by_cases e : w = 3
  · subst e; exact h.1
  · have e2 : w = 4 := by omega
    subst e2
    rw [show 4 + 4 * j + 2 * (4 - 3) = 6 + 4 * j by omega]
    exact h.2
theorem txg_w5 {gt : Nat → Int32} {j w : Nat} (h : TXG gt (4 + 4 * j) ∧ TXG gt (6 + 4 * j)) (hw : 5 ≤ w ∧ w ≤ 6) : TXG gt (4 + 4 * j + 2 * (w - 5)) := by
  by_cases e : w = 5
  · subst e; exact h.1
  · have e2 : w = 6 := by omega
    subst e2
    rw [show 4 + 4 * j + 2 * (6 - 5) = 6 + 4 * j by omega]
    exact h.2
theorem gme_ne {gbg gl glo : Nat → Int32} {k jb : Nat} (h : GME gbg gl glo k) (h2 : ¬ gl k ≤ nI jb) (hb : jb < 2 ^ 31) : ∃ b l o, gbg k = nI b ∧ gl k = nI l ∧ b + l ≤ 600 ∧ glo k = nI o ∧ o ≤ 64 ∧ jb < l := by
  rcases h with h | ⟨b, l, o, e1, e2, e3, e4, e5⟩
  · rw [h] at h2
    exact absurd (Int32.not_lt.mp (nI_pos hb)) h2
  · rw [e2] at h2
    exact ⟨b, l, o, e1, e2, e3, e4, e5, tn_nle h2 (by omega) hb⟩
theorem gdd_ge {gd : Nat → Int32} {p : Nat} (h : GDD gd) (hp : p < 600) (h0 : ¬ gd p < 0) : ∃ d, d ≤ 64 ∧ gd p = nI d := by
  rcases h p hp with e | e
  · rw [e] at h0; exact absurd (by decide) h0
  · exact e
end
section
theorem d_Mod_count_12 : decode b_Mod_count 12 = .ok (.iload_n 1, 1) := by decide +kernel
theorem d_Mod_count_13 : decode b_Mod_count 13 = .ok (.iconst 0, 1) := by decide +kernel
theorem d_Mod_count_14 : decode b_Mod_count 14 = .ok (.bipush 6, 2) := by decide +kernel
theorem d_Mod_count_16 : decode b_Mod_count 16 = .ok (.invokestatic 136, 3) := by decide +kernel
theorem d_Mod_count_19 : decode b_Mod_count 19 = .ok (.ifCond .ne 7, 3) := by decide +kernel
theorem d_Mod_count_22 : decode b_Mod_count 22 = .ok (.iconst 2, 1) := by decide +kernel
theorem d_Mod_count_23 : decode b_Mod_count 23 = .ok (.goto 4, 3) := by decide +kernel
theorem d_Mod_count_26 : decode b_Mod_count 26 = .ok (.iconst 0, 1) := by decide +kernel
theorem d_Mod_count_37 : decode b_Mod_count 37 = .ok (.aload_n 0, 1) := by decide +kernel
theorem d_Mod_count_38 : decode b_Mod_count 38 = .ok (.getfield 112, 3) := by decide +kernel
theorem d_Mod_count_41 : decode b_Mod_count 41 = .ok (.iload_n 1, 1) := by decide +kernel
theorem d_Mod_count_42 : decode b_Mod_count 42 = .ok (.iaload, 1) := by decide +kernel
theorem d_Mod_depth_8 : decode b_Mod_depth 8 = .ok (.iconst 0, 1) := by decide +kernel
theorem d_Mod_depth_9 : decode b_Mod_depth 9 = .ok (.goto 4, 3) := by decide +kernel
theorem d_Mod_depth_21 : decode b_Mod_depth 21 = .ok (.aload_n 0, 1) := by decide +kernel
theorem d_Mod_depth_22 : decode b_Mod_depth 22 = .ok (.iload_n 1, 1) := by decide +kernel
theorem d_Mod_depth_23 : decode b_Mod_depth 23 = .ok (.iload_n 2, 1) := by decide +kernel
theorem d_Mod_depth_24 : decode b_Mod_depth 24 = .ok (.invokevirtual 417, 3) := by decide +kernel
theorem d_Mod_depth_27 : decode b_Mod_depth 27 = .ok (.istore_n 3, 1) := by decide +kernel
theorem d_Mod_depth_28 : decode b_Mod_depth 28 = .ok (.iload_n 3, 1) := by decide +kernel
theorem d_Mod_depth_29 : decode b_Mod_depth 29 = .ok (.ifCond .ge 7, 3) := by decide +kernel
theorem d_Mod_depth_32 : decode b_Mod_depth 32 = .ok (.iconst (-1), 1) := by decide +kernel
theorem d_Mod_depth_33 : decode b_Mod_depth 33 = .ok (.goto 9, 3) := by decide +kernel
theorem d_Mod_depth_36 : decode b_Mod_depth 36 = .ok (.aload_n 0, 1) := by decide +kernel
theorem d_Mod_depth_37 : decode b_Mod_depth 37 = .ok (.getfield 127, 3) := by decide +kernel
theorem d_Mod_depth_40 : decode b_Mod_depth 40 = .ok (.iload_n 3, 1) := by decide +kernel
theorem d_Mod_depth_41 : decode b_Mod_depth 41 = .ok (.iaload, 1) := by decide +kernel
theorem d_Mod_depth_42 : decode b_Mod_depth 42 = .ok (.ireturn, 1) := by decide +kernel
theorem d_Mod_frameAt_0 : decode b_Mod_frameAt 0 = .ok (.iload_n 1, 1) := by decide +kernel
theorem d_Mod_frameAt_1 : decode b_Mod_frameAt 1 = .ok (.ifCond .lt 31, 3) := by decide +kernel
theorem d_Mod_frameAt_4 : decode b_Mod_frameAt 4 = .ok (.iload_n 1, 1) := by decide +kernel
theorem d_Mod_frameAt_5 : decode b_Mod_frameAt 5 = .ok (.aload_n 0, 1) := by decide +kernel
theorem d_Mod_frameAt_6 : decode b_Mod_frameAt 6 = .ok (.getfield 112, 3) := by decide +kernel
theorem d_Mod_frameAt_9 : decode b_Mod_frameAt 9 = .ok (.iconst 3, 1) := by decide +kernel
theorem d_Mod_frameAt_10 : decode b_Mod_frameAt 10 = .ok (.iaload, 1) := by decide +kernel
theorem d_Mod_frameAt_11 : decode b_Mod_frameAt 11 = .ok (.if_icmp .ge 21, 3) := by decide +kernel
theorem d_Mod_frameAt_14 : decode b_Mod_frameAt 14 = .ok (.iload_n 2, 1) := by decide +kernel
theorem d_Mod_frameAt_15 : decode b_Mod_frameAt 15 = .ok (.ifCond .lt 17, 3) := by decide +kernel
theorem d_Mod_frameAt_18 : decode b_Mod_frameAt 18 = .ok (.iload_n 2, 1) := by decide +kernel
theorem d_Mod_frameAt_19 : decode b_Mod_frameAt 19 = .ok (.aload_n 0, 1) := by decide +kernel
theorem d_Mod_frameAt_20 : decode b_Mod_frameAt 20 = .ok (.getfield 121, 3) := by decide +kernel
theorem d_Mod_frameAt_23 : decode b_Mod_frameAt 23 = .ok (.iload_n 1, 1) := by decide +kernel
theorem d_Mod_frameAt_24 : decode b_Mod_frameAt 24 = .ok (.iaload, 1) := by decide +kernel
theorem d_Mod_frameAt_25 : decode b_Mod_frameAt 25 = .ok (.if_icmp .ge 7, 3) := by decide +kernel
theorem d_Mod_frameAt_28 : decode b_Mod_frameAt 28 = .ok (.iconst 1, 1) := by decide +kernel
theorem d_Mod_frameAt_29 : decode b_Mod_frameAt 29 = .ok (.goto 4, 3) := by decide +kernel
theorem d_Mod_frameAt_32 : decode b_Mod_frameAt 32 = .ok (.iconst 0, 1) := by decide +kernel
theorem d_Mod_frameAt_33 : decode b_Mod_frameAt 33 = .ok (.istore_n 3, 1) := by decide +kernel
theorem d_Mod_frameAt_34 : decode b_Mod_frameAt 34 = .ok (.iload_n 3, 1) := by decide +kernel
theorem d_Mod_frameAt_35 : decode b_Mod_frameAt 35 = .ok (.ifCond .eq 30, 3) := by decide +kernel
theorem d_Mod_frameAt_38 : decode b_Mod_frameAt 38 = .ok (.aload_n 0, 1) := by decide +kernel
theorem d_Mod_frameAt_39 : decode b_Mod_frameAt 39 = .ok (.getfield 127, 3) := by decide +kernel
theorem d_Mod_frameAt_42 : decode b_Mod_frameAt 42 = .ok (.aload_n 0, 1) := by decide +kernel
theorem d_Mod_frameAt_43 : decode b_Mod_frameAt 43 = .ok (.getfield 118, 3) := by decide +kernel
theorem d_Mod_frameAt_46 : decode b_Mod_frameAt 46 = .ok (.iload_n 1, 1) := by decide +kernel
theorem d_Mod_frameAt_47 : decode b_Mod_frameAt 47 = .ok (.iaload, 1) := by decide +kernel
theorem d_Mod_frameAt_48 : decode b_Mod_frameAt 48 = .ok (.iload_n 2, 1) := by decide +kernel
theorem d_Mod_frameAt_49 : decode b_Mod_frameAt 49 = .ok (.iadd, 1) := by decide +kernel
theorem d_Mod_frameAt_50 : decode b_Mod_frameAt 50 = .ok (.iaload, 1) := by decide +kernel
theorem d_Mod_frameAt_51 : decode b_Mod_frameAt 51 = .ok (.ifCond .lt 14, 3) := by decide +kernel
theorem d_Mod_frameAt_54 : decode b_Mod_frameAt 54 = .ok (.aload_n 0, 1) := by decide +kernel
theorem d_Mod_frameAt_55 : decode b_Mod_frameAt 55 = .ok (.getfield 118, 3) := by decide +kernel
theorem d_Mod_frameAt_58 : decode b_Mod_frameAt 58 = .ok (.iload_n 1, 1) := by decide +kernel
theorem d_Mod_frameAt_59 : decode b_Mod_frameAt 59 = .ok (.iaload, 1) := by decide +kernel
theorem d_Mod_frameAt_60 : decode b_Mod_frameAt 60 = .ok (.iload_n 2, 1) := by decide +kernel
theorem d_Mod_frameAt_61 : decode b_Mod_frameAt 61 = .ok (.iadd, 1) := by decide +kernel
theorem d_Mod_frameAt_62 : decode b_Mod_frameAt 62 = .ok (.goto 4, 3) := by decide +kernel
theorem d_Mod_frameAt_65 : decode b_Mod_frameAt 65 = .ok (.iconst (-1), 1) := by decide +kernel
theorem d_Mod_frameAt_66 : decode b_Mod_frameAt 66 = .ok (.ireturn, 1) := by decide +kernel
theorem d_Mod_kind_8 : decode b_Mod_kind 8 = .ok (.iconst 0, 1) := by decide +kernel
theorem d_Mod_kind_9 : decode b_Mod_kind 9 = .ok (.goto 4, 3) := by decide +kernel
theorem d_Mod_kind_21 : decode b_Mod_kind 21 = .ok (.aload_n 0, 1) := by decide +kernel
theorem d_Mod_kind_22 : decode b_Mod_kind 22 = .ok (.iload_n 1, 1) := by decide +kernel
theorem d_Mod_kind_23 : decode b_Mod_kind 23 = .ok (.iload_n 2, 1) := by decide +kernel
theorem d_Mod_kind_24 : decode b_Mod_kind 24 = .ok (.invokevirtual 417, 3) := by decide +kernel
theorem d_Mod_kind_27 : decode b_Mod_kind 27 = .ok (.istore 5, 2) := by decide +kernel
theorem d_Mod_kind_29 : decode b_Mod_kind 29 = .ok (.iload 5, 2) := by decide +kernel
theorem d_Mod_kind_31 : decode b_Mod_kind 31 = .ok (.ifCond .lt 33, 3) := by decide +kernel
theorem d_Mod_kind_34 : decode b_Mod_kind 34 = .ok (.iload 4, 2) := by decide +kernel
theorem d_Mod_kind_36 : decode b_Mod_kind 36 = .ok (.ifCond .lt 28, 3) := by decide +kernel
theorem d_Mod_kind_39 : decode b_Mod_kind 39 = .ok (.iload 4, 2) := by decide +kernel
theorem d_Mod_kind_41 : decode b_Mod_kind 41 = .ok (.iload_n 3, 1) := by decide +kernel
theorem d_Mod_kind_42 : decode b_Mod_kind 42 = .ok (.ifCond .eq 12, 3) := by decide +kernel
theorem d_Mod_kind_45 : decode b_Mod_kind 45 = .ok (.aload_n 0, 1) := by decide +kernel
theorem d_Mod_kind_46 : decode b_Mod_kind 46 = .ok (.getfield 124, 3) := by decide +kernel
theorem d_Mod_kind_49 : decode b_Mod_kind 49 = .ok (.iload_n 1, 1) := by decide +kernel
theorem d_Mod_kind_50 : decode b_Mod_kind 50 = .ok (.iaload, 1) := by decide +kernel
theorem d_Mod_kind_51 : decode b_Mod_kind 51 = .ok (.goto 10, 3) := by decide +kernel
theorem d_Mod_kind_54 : decode b_Mod_kind 54 = .ok (.aload_n 0, 1) := by decide +kernel
theorem d_Mod_kind_55 : decode b_Mod_kind 55 = .ok (.getfield 127, 3) := by decide +kernel
theorem d_Mod_kind_58 : decode b_Mod_kind 58 = .ok (.iload 5, 2) := by decide +kernel
theorem d_Mod_kind_60 : decode b_Mod_kind 60 = .ok (.iaload, 1) := by decide +kernel
theorem d_Mod_kind_61 : decode b_Mod_kind 61 = .ok (.if_icmp .lt 5, 3) := by decide +kernel
theorem d_Mod_kind_64 : decode b_Mod_kind 64 = .ok (.iconst (-1), 1) := by decide +kernel
theorem d_Mod_kind_65 : decode b_Mod_kind 65 = .ok (.ireturn, 1) := by decide +kernel
theorem d_Mod_kind_66 : decode b_Mod_kind 66 = .ok (.aload_n 0, 1) := by decide +kernel
theorem d_Mod_kind_67 : decode b_Mod_kind 67 = .ok (.getfield 130, 3) := by decide +kernel
theorem d_Mod_kind_70 : decode b_Mod_kind 70 = .ok (.sipush 128, 3) := by decide +kernel
theorem d_Mod_kind_73 : decode b_Mod_kind 73 = .ok (.iload 5, 2) := by decide +kernel
theorem d_Mod_kind_75 : decode b_Mod_kind 75 = .ok (.imul, 1) := by decide +kernel
theorem d_Mod_kind_76 : decode b_Mod_kind 76 = .ok (.iload_n 3, 1) := by decide +kernel
theorem d_Mod_kind_77 : decode b_Mod_kind 77 = .ok (.ifCond .eq 8, 3) := by decide +kernel
theorem d_Mod_kind_80 : decode b_Mod_kind 80 = .ok (.iload 4, 2) := by decide +kernel
theorem d_Mod_kind_82 : decode b_Mod_kind 82 = .ok (.goto 8, 3) := by decide +kernel
theorem d_Mod_kind_85 : decode b_Mod_kind 85 = .ok (.bipush 64, 2) := by decide +kernel
theorem d_Mod_kind_87 : decode b_Mod_kind 87 = .ok (.iload 4, 2) := by decide +kernel
theorem d_Mod_kind_89 : decode b_Mod_kind 89 = .ok (.iadd, 1) := by decide +kernel
theorem d_Mod_kind_90 : decode b_Mod_kind 90 = .ok (.iadd, 1) := by decide +kernel
theorem d_Mod_kind_91 : decode b_Mod_kind 91 = .ok (.iaload, 1) := by decide +kernel
theorem d_Mod_kind_92 : decode b_Mod_kind 92 = .ok (.ireturn, 1) := by decide +kernel
theorem d_Mod_text_12 : decode b_Mod_text 12 = .ok (.iload_n 1, 1) := by decide +kernel
theorem d_Mod_text_13 : decode b_Mod_text 13 = .ok (.iconst 0, 1) := by decide +kernel
theorem d_Mod_text_14 : decode b_Mod_text 14 = .ok (.bipush 6, 2) := by decide +kernel
theorem d_Mod_text_16 : decode b_Mod_text 16 = .ok (.invokestatic 136, 3) := by decide +kernel
theorem d_Mod_text_19 : decode b_Mod_text 19 = .ok (.ifCond .ne 7, 3) := by decide +kernel
theorem d_Mod_text_22 : decode b_Mod_text 22 = .ok (.iconst 2, 1) := by decide +kernel
theorem d_Mod_text_23 : decode b_Mod_text 23 = .ok (.goto 4, 3) := by decide +kernel
theorem d_Mod_text_26 : decode b_Mod_text 26 = .ok (.iconst 0, 1) := by decide +kernel
theorem d_Mod_text_36 : decode b_Mod_text 36 = .ok (.iload_n 1, 1) := by decide +kernel
theorem d_Mod_text_37 : decode b_Mod_text 37 = .ok (.ifCond .ne 7, 3) := by decide +kernel
theorem d_Mod_text_40 : decode b_Mod_text 40 = .ok (.iconst 0, 1) := by decide +kernel
theorem d_Mod_text_41 : decode b_Mod_text 41 = .ok (.goto 64, 3) := by decide +kernel
theorem d_Mod_text_44 : decode b_Mod_text 44 = .ok (.iload_n 1, 1) := by decide +kernel
theorem d_Mod_text_45 : decode b_Mod_text 45 = .ok (.iconst 1, 1) := by decide +kernel
theorem d_Mod_text_46 : decode b_Mod_text 46 = .ok (.if_icmp .ne 7, 3) := by decide +kernel
theorem d_Mod_text_49 : decode b_Mod_text 49 = .ok (.iconst 2, 1) := by decide +kernel
theorem d_Mod_text_50 : decode b_Mod_text 50 = .ok (.goto 55, 3) := by decide +kernel
theorem d_Mod_text_53 : decode b_Mod_text 53 = .ok (.iload_n 1, 1) := by decide +kernel
theorem d_Mod_text_54 : decode b_Mod_text 54 = .ok (.iconst 2, 1) := by decide +kernel
theorem d_Mod_text_55 : decode b_Mod_text 55 = .ok (.if_icmp .ne 13, 3) := by decide +kernel
theorem d_Mod_text_58 : decode b_Mod_text 58 = .ok (.sipush 400, 3) := by decide +kernel
theorem d_Mod_text_61 : decode b_Mod_text 61 = .ok (.iconst 2, 1) := by decide +kernel
theorem d_Mod_text_62 : decode b_Mod_text 62 = .ok (.iload_n 2, 1) := by decide +kernel
theorem d_Mod_text_63 : decode b_Mod_text 63 = .ok (.imul, 1) := by decide +kernel
theorem d_Mod_text_64 : decode b_Mod_text 64 = .ok (.iadd, 1) := by decide +kernel
theorem d_Mod_text_65 : decode b_Mod_text 65 = .ok (.goto 40, 3) := by decide +kernel
theorem d_Mod_text_68 : decode b_Mod_text 68 = .ok (.iload_n 1, 1) := by decide +kernel
theorem d_Mod_text_69 : decode b_Mod_text 69 = .ok (.iconst 5, 1) := by decide +kernel
theorem d_Mod_text_70 : decode b_Mod_text 70 = .ok (.if_icmp .ge 17, 3) := by decide +kernel
theorem d_Mod_text_73 : decode b_Mod_text 73 = .ok (.iconst 4, 1) := by decide +kernel
theorem d_Mod_text_74 : decode b_Mod_text 74 = .ok (.iconst 4, 1) := by decide +kernel
theorem d_Mod_text_75 : decode b_Mod_text 75 = .ok (.iload_n 2, 1) := by decide +kernel
theorem d_Mod_text_76 : decode b_Mod_text 76 = .ok (.imul, 1) := by decide +kernel
theorem d_Mod_text_77 : decode b_Mod_text 77 = .ok (.iadd, 1) := by decide +kernel
theorem d_Mod_text_78 : decode b_Mod_text 78 = .ok (.iconst 2, 1) := by decide +kernel
theorem d_Mod_text_79 : decode b_Mod_text 79 = .ok (.iload_n 1, 1) := by decide +kernel
theorem d_Mod_text_80 : decode b_Mod_text 80 = .ok (.iconst 3, 1) := by decide +kernel
theorem d_Mod_text_81 : decode b_Mod_text 81 = .ok (.isub, 1) := by decide +kernel
theorem d_Mod_text_82 : decode b_Mod_text 82 = .ok (.imul, 1) := by decide +kernel
theorem d_Mod_text_83 : decode b_Mod_text 83 = .ok (.iadd, 1) := by decide +kernel
theorem d_Mod_text_84 : decode b_Mod_text 84 = .ok (.goto 21, 3) := by decide +kernel
theorem d_Mod_text_87 : decode b_Mod_text 87 = .ok (.iconst 4, 1) := by decide +kernel
theorem d_Mod_text_88 : decode b_Mod_text 88 = .ok (.iconst 4, 1) := by decide +kernel
theorem d_Mod_text_89 : decode b_Mod_text 89 = .ok (.aload_n 0, 1) := by decide +kernel
theorem d_Mod_text_90 : decode b_Mod_text 90 = .ok (.getfield 112, 3) := by decide +kernel
theorem d_Mod_text_93 : decode b_Mod_text 93 = .ok (.iconst 2, 1) := by decide +kernel
theorem d_Mod_text_94 : decode b_Mod_text 94 = .ok (.iaload, 1) := by decide +kernel
theorem d_Mod_text_95 : decode b_Mod_text 95 = .ok (.iload_n 2, 1) := by decide +kernel
theorem d_Mod_text_96 : decode b_Mod_text 96 = .ok (.iadd, 1) := by decide +kernel
theorem d_Mod_text_97 : decode b_Mod_text 97 = .ok (.imul, 1) := by decide +kernel
theorem d_Mod_text_98 : decode b_Mod_text 98 = .ok (.iadd, 1) := by decide +kernel
theorem d_Mod_text_99 : decode b_Mod_text 99 = .ok (.iconst 2, 1) := by decide +kernel
theorem d_Mod_text_100 : decode b_Mod_text 100 = .ok (.iload_n 1, 1) := by decide +kernel
theorem d_Mod_text_101 : decode b_Mod_text 101 = .ok (.iconst 5, 1) := by decide +kernel
theorem d_Mod_text_102 : decode b_Mod_text 102 = .ok (.isub, 1) := by decide +kernel
theorem d_Mod_text_103 : decode b_Mod_text 103 = .ok (.imul, 1) := by decide +kernel
theorem d_Mod_text_104 : decode b_Mod_text 104 = .ok (.iadd, 1) := by decide +kernel
theorem d_Mod_text_105 : decode b_Mod_text 105 = .ok (.istore 4, 2) := by decide +kernel
theorem d_Mod_text_107 : decode b_Mod_text 107 = .ok (.iload_n 1, 1) := by decide +kernel
theorem d_Mod_text_108 : decode b_Mod_text 108 = .ok (.iconst 2, 1) := by decide +kernel
theorem d_Mod_text_109 : decode b_Mod_text 109 = .ok (.if_icmp .lt 45, 3) := by decide +kernel
theorem d_Mod_text_112 : decode b_Mod_text 112 = .ok (.iload_n 2, 1) := by decide +kernel
theorem d_Mod_text_113 : decode b_Mod_text 113 = .ok (.ifCond .lt 45, 3) := by decide +kernel
theorem d_Mod_text_116 : decode b_Mod_text 116 = .ok (.iload_n 2, 1) := by decide +kernel
theorem d_Mod_text_117 : decode b_Mod_text 117 = .ok (.iload_n 1, 1) := by decide +kernel
theorem d_Mod_text_118 : decode b_Mod_text 118 = .ok (.iconst 2, 1) := by decide +kernel
theorem d_Mod_text_119 : decode b_Mod_text 119 = .ok (.if_icmp .ne 12, 3) := by decide +kernel
theorem d_Mod_text_122 : decode b_Mod_text 122 = .ok (.aload_n 0, 1) := by decide +kernel
theorem d_Mod_text_123 : decode b_Mod_text 123 = .ok (.getfield 112, 3) := by decide +kernel
theorem d_Mod_text_126 : decode b_Mod_text 126 = .ok (.iconst 1, 1) := by decide +kernel
theorem d_Mod_text_127 : decode b_Mod_text 127 = .ok (.iaload, 1) := by decide +kernel
theorem d_Mod_text_128 : decode b_Mod_text 128 = .ok (.goto 23, 3) := by decide +kernel
theorem d_Mod_text_131 : decode b_Mod_text 131 = .ok (.iload_n 1, 1) := by decide +kernel
theorem d_Mod_text_132 : decode b_Mod_text 132 = .ok (.iconst 5, 1) := by decide +kernel
theorem d_Mod_text_133 : decode b_Mod_text 133 = .ok (.if_icmp .ge 12, 3) := by decide +kernel
theorem d_Mod_text_136 : decode b_Mod_text 136 = .ok (.aload_n 0, 1) := by decide +kernel
theorem d_Mod_text_137 : decode b_Mod_text 137 = .ok (.getfield 112, 3) := by decide +kernel
theorem d_Mod_text_140 : decode b_Mod_text 140 = .ok (.iconst 2, 1) := by decide +kernel
theorem d_Mod_text_141 : decode b_Mod_text 141 = .ok (.iaload, 1) := by decide +kernel
theorem d_Mod_text_142 : decode b_Mod_text 142 = .ok (.goto 9, 3) := by decide +kernel
theorem d_Mod_text_145 : decode b_Mod_text 145 = .ok (.aload_n 0, 1) := by decide +kernel
theorem d_Mod_text_146 : decode b_Mod_text 146 = .ok (.getfield 112, 3) := by decide +kernel
theorem d_Mod_text_149 : decode b_Mod_text 149 = .ok (.iconst 3, 1) := by decide +kernel
theorem d_Mod_text_150 : decode b_Mod_text 150 = .ok (.iaload, 1) := by decide +kernel
theorem d_Mod_text_151 : decode b_Mod_text 151 = .ok (.if_icmp .ge 7, 3) := by decide +kernel
theorem d_Mod_text_154 : decode b_Mod_text 154 = .ok (.iconst 1, 1) := by decide +kernel
theorem d_Mod_text_155 : decode b_Mod_text 155 = .ok (.goto 4, 3) := by decide +kernel
theorem d_Mod_text_158 : decode b_Mod_text 158 = .ok (.iconst 0, 1) := by decide +kernel
theorem d_Mod_text_159 : decode b_Mod_text 159 = .ok (.istore 5, 2) := by decide +kernel
theorem d_Mod_text_161 : decode b_Mod_text 161 = .ok (.iload 5, 2) := by decide +kernel
theorem d_Mod_text_163 : decode b_Mod_text 163 = .ok (.ifCond .eq 38, 3) := by decide +kernel
theorem d_Mod_text_166 : decode b_Mod_text 166 = .ok (.iload_n 3, 1) := by decide +kernel
theorem d_Mod_text_167 : decode b_Mod_text 167 = .ok (.ifCond .lt 34, 3) := by decide +kernel
theorem d_Mod_text_170 : decode b_Mod_text 170 = .ok (.iload_n 3, 1) := by decide +kernel
theorem d_Mod_text_171 : decode b_Mod_text 171 = .ok (.aload_n 0, 1) := by decide +kernel
theorem d_Mod_text_172 : decode b_Mod_text 172 = .ok (.getfield 115, 3) := by decide +kernel
theorem d_Mod_text_175 : decode b_Mod_text 175 = .ok (.iload 4, 2) := by decide +kernel
theorem d_Mod_text_177 : decode b_Mod_text 177 = .ok (.iconst 1, 1) := by decide +kernel
theorem d_Mod_text_178 : decode b_Mod_text 178 = .ok (.iadd, 1) := by decide +kernel
theorem d_Mod_text_179 : decode b_Mod_text 179 = .ok (.iaload, 1) := by decide +kernel
theorem d_Mod_text_180 : decode b_Mod_text 180 = .ok (.if_icmp .ge 21, 3) := by decide +kernel
theorem d_Mod_text_183 : decode b_Mod_text 183 = .ok (.aload_n 0, 1) := by decide +kernel
theorem d_Mod_text_184 : decode b_Mod_text 184 = .ok (.getfield 109, 3) := by decide +kernel
theorem d_Mod_text_187 : decode b_Mod_text 187 = .ok (.aload_n 0, 1) := by decide +kernel
theorem d_Mod_text_188 : decode b_Mod_text 188 = .ok (.getfield 115, 3) := by decide +kernel
theorem d_Mod_text_191 : decode b_Mod_text 191 = .ok (.iload 4, 2) := by decide +kernel
theorem d_Mod_text_193 : decode b_Mod_text 193 = .ok (.iaload, 1) := by decide +kernel
theorem d_Mod_text_194 : decode b_Mod_text 194 = .ok (.iload_n 3, 1) := by decide +kernel
theorem d_Mod_text_195 : decode b_Mod_text 195 = .ok (.iadd, 1) := by decide +kernel
theorem d_Mod_text_196 : decode b_Mod_text 196 = .ok (.iaload, 1) := by decide +kernel
theorem d_Mod_text_197 : decode b_Mod_text 197 = .ok (.i2c, 1) := by decide +kernel
theorem d_Mod_text_198 : decode b_Mod_text 198 = .ok (.goto 5, 3) := by decide +kernel
theorem d_Mod_text_201 : decode b_Mod_text 201 = .ok (.bipush 32, 2) := by decide +kernel
theorem d_Mod_text_203 : decode b_Mod_text 203 = .ok (.ireturn, 1) := by decide +kernel
end
section
set_option maxHeartbeats 4000000 in
set_option maxRecDepth 100000 in
theorem g_Mod_refused (l : Launch) (g : tw_G) (sz : Nat) (h0 : Nat) (q : Nat → Nat) (n : Nat) (mm : Int32) (mb : Int32) (fa : Int32) (fp : Int32) (av : Nat) (ev : Nat) (wi : Int32) (mn : Nat) (tp : Int32) (tc : Int32) (sc : Int32) (nf : Nat) (fd : Nat) (me : Nat) (mp : Int32) (xn : Nat) (mt : Nat) (wh : Nat) (tq : Nat) (ag : Nat) (an : Int32) (ig : Int32) (rf : Int32) (x : Int32) : Met l y_Mod_refused [.code y_Mod_refused b_Mod_refused 2 (some .boolean)] ({ frames := 0, cells := 0, slots := 0, locals := 0 }) (tw_P g [.ref h0, .int x] [(h0, .inr (10, mob q rf n mm mb fa fp av ev wi mn tp tc sc nf fd me mp xn mt wh tq ag an ig))] sz) (tw_Qi g (fun (r : Int32) (u : Int32) => ((r = 0 ∨ r = 1) ∧ r = (if 0 < x then 1 else 0)) ∧ (u = x)) (fun u : Int32 => [(h0, .inr (10, mob q u n mm mb fa fp av ev wi mn tp tc sc nf fd me mp xn mt wh tq ag an ig))]) (va_A [(h0, .inr (10, mob q rf n mm mb fa fp av ev wi mn tp tc sc nf fd me mp xn mt wh tq ag an ig))] sz)) 0 0 (va_A [(h0, .inr (10, mob q rf n mm mb fa fp av ev wi mn tp tc sc nf fd me mp xn mt wh tq ag an ig))] sz) := by
  refine tw_metW (l := l) (g := g) (y := y_Mod_refused) (cc := b_Mod_refused) (maxL := 2) (ret := (some .boolean)) (rm := { frames := 0, cells := 0, slots := 0, locals := 0 }) (mc := 0) (ms := 0) (av := [.ref h0, .int x]) (ws := [(h0, .inr (10, mob q rf n mm mb fa fp av ev wi mn tp tc sc nf fd me mp xn mt wh tq ag an ig))]) (sz := sz) (Qc := fun A => (tw_Qi g (fun (r : Int32) (u : Int32) => ((r = 0 ∨ r = 1) ∧ r = (if 0 < x then 1 else 0)) ∧ (u = x)) (fun u : Int32 => [(h0, .inr (10, mob q u n mm mb fa fp av ev wi mn tp tc sc nf fd me mp xn mt wh tq ag an ig))]) A)) (by decide) (Nat.le_of_ble_eq_true rfl) ?_
  intro p e s m below meth c ls H A E hB hK hZ hP hD hS hA hl
  obtain ⟨hx, hb, hml, hr, hown, hts, hlocks, hin⟩ := id E
  have hl : lv_has ls 2 [(0, .ref h0), (1, .int x)] := hl
  refine lv_aload_n hx hb d_Mod_refused_0 rfl (lv_at hl 0 rfl) ?_
  refine lv_iload_n hx hb d_Mod_refused_1 rfl (lv_at hl 1 rfl) ?_
  refine va_put (D := g.1) (ci := 10) (v := .int x) (ty := .int) (C := R_Mod) (T := F_Mod) (N := 61) hx hb hts in_Mod t_Mod t_Mod_ok n_Mod hown hK hP hD hS 0 rfl rfl 0 (by decide) (hts _ wd_1250) (fun _ h9 => h9) rfl (t_Mod_ok 0 (by decide)) rfl rfl (Nat.le_of_ble_eq_true rfl) d_Mod_refused_2 (fun H locs hP hD hS => ?_)
  have hP : va_P g.1 classes [(h0, .inr (10, mob q x n mm mb fa fp av ev wi mn tp tc sc nf fd me mp xn mt wh tq ag an ig))] H := hP
  have hD : va_D A [(h0, .inr (10, mob q x n mm mb fa fp av ev wi mn tp tc sc nf fd me mp xn mt wh tq ag an ig))] := hD
  refine lv_iload_n hx hb d_Mod_refused_5 rfl (lv_at hl 1 rfl) ?_
  refine lv_if_le (tgt := 13) hx hb d_Mod_refused_6 (by decide) (fun h6 => ?_) (fun h6 => ?_)
  · refine lv_iconst (v := 0) hx hb d_Mod_refused_13 (by decide) ?_
    exact tw_zret E hS x (by decide) (⟨⟨Or.inl rfl, (if_neg (Int32.not_lt.mpr h6)).symm⟩, rfl⟩) hP hD d_Mod_refused_14
  · refine lv_iconst (v := 1) hx hb d_Mod_refused_9 (by decide) ?_
    refine lv_goto (tgt := 14) hx hb d_Mod_refused_10 (by decide) ?_
    exact tw_zret E hS x (by decide) (⟨⟨Or.inr rfl, (if_pos (Int32.not_le.mp h6)).symm⟩, rfl⟩) hP hD d_Mod_refused_14
set_option maxHeartbeats 4000000 in
set_option maxRecDepth 100000 in
theorem g_Mod_count (l : Launch) (g : tw_G) (sz : Nat) (h0 : Nat) (q : Nat → Nat) (n : Nat) (mm : Int32) (mb : Int32) (fa : Int32) (fp : Int32) (av : Nat) (ev : Nat) (wi : Int32) (mn : Nat) (tp : Int32) (tc : Int32) (sc : Int32) (nf : Nat) (fd : Nat) (me : Nat) (mp : Int32) (xn : Nat) (mt : Nat) (wh : Nat) (tq : Nat) (ag : Nat) (an : Int32) (ig : Int32) (to : Nat → Int32) (rf : Int32) (wt : Int32) : Met l y_Mod_count [.code y_Mod_count b_Mod_count 2 (some .int)] ({ frames := 1, cells := 0, slots := 0, locals := 22 }) (tw_P g [.ref h0, .int wt] [(h0, .inr (10, mob q rf n mm mb fa fp av ev wi mn tp tc sc nf fd me mp xn mt wh tq ag an ig)), ((q 54), aI g 8 to)] sz) (tw_Qi g (fun (r : Int32) (u : Int32) => True) (fun u : Int32 => [(h0, .inr (10, mob q u n mm mb fa fp av ev wi mn tp tc sc nf fd me mp xn mt wh tq ag an ig)), ((q 54), aI g 8 to)]) (va_A [(h0, .inr (10, mob q rf n mm mb fa fp av ev wi mn tp tc sc nf fd me mp xn mt wh tq ag an ig)), ((q 54), aI g 8 to)] sz)) 0 0 (va_A [(h0, .inr (10, mob q rf n mm mb fa fp av ev wi mn tp tc sc nf fd me mp xn mt wh tq ag an ig)), ((q 54), aI g 8 to)] sz) := by
  refine tw_metW (l := l) (g := g) (y := y_Mod_count) (cc := b_Mod_count) (maxL := 2) (ret := (some .int)) (rm := { frames := 1, cells := 0, slots := 0, locals := 22 }) (mc := 0) (ms := 0) (av := [.ref h0, .int wt]) (ws := [(h0, .inr (10, mob q rf n mm mb fa fp av ev wi mn tp tc sc nf fd me mp xn mt wh tq ag an ig)), ((q 54), aI g 8 to)]) (sz := sz) (Qc := fun A => (tw_Qi g (fun (r : Int32) (u : Int32) => True) (fun u : Int32 => [(h0, .inr (10, mob q u n mm mb fa fp av ev wi mn tp tc sc nf fd me mp xn mt wh tq ag an ig)), ((q 54), aI g 8 to)]) A)) (by decide) (Nat.le_of_ble_eq_true rfl) ?_
  intro p e s m below meth c ls H A E hB hK hZ hP hD hS hA hl
  obtain ⟨hx, hb, hml, hr, hown, hts, hlocks, hin⟩ := id E
  have hl : lv_has ls 2 [(0, .ref h0), (1, .int wt)] := hl
  refine lv_aload_n hx hb d_Mod_count_0 rfl (lv_at hl 0 rfl) ?_
  refine lv_aload_n hx hb d_Mod_count_1 rfl (lv_at hl 0 rfl) ?_
  refine va_get (D := g.1) (ci := 10) (v := .int ig) (C := R_Mod) (T := F_Mod) (N := 61) hx hb hts in_Mod hown hK hP 0 rfl rfl 52 (by decide) (hts _ wd_1302) (fun _ h9 => h9) rfl d_Mod_count_2 ?_
  refine lv_if_ne (tgt := 12) hx hb d_Mod_count_5 (by decide) (fun h5 => ?_) (fun h5 => ?_)
  · refine lv_iload_n hx hb d_Mod_count_12 rfl (lv_at hl 1 rfl) ?_
    refine lv_iconst (v := 0) hx hb d_Mod_count_13 (by decide) ?_
    refine lv_bipush (v := 6) hx hb d_Mod_count_14 (by decide) ?_
    refine tw_si (tw_runS (ws := [(h0, .inr (10, mob q rf n mm mb fa fp av ev wi mn tp tc sc nf fd me mp xn mt wh tq ag an ig)), ((q 54), aI g 8 to)]) (wc := []) (As := [.int wt, .int 0, .int 6]) (rest := [.ref h0]) E hB hK hZ (c_Mod_isIn l g H.size wt 0 6) mc_Mod_isIn ms_Mod_isIn wd_1443 hP hD hS hA [] rfl (by decide) rfl rfl (by decide) rfl hl.1 rfl (Nat.le_of_ble_eq_true rfl) (by decide) d_Mod_count_16) (fun r1 hr1 => ?_)
    obtain rfl : r1 = is_in wt 0 6 := hr1
    refine lv_if_ne (tgt := 26) hx hb d_Mod_count_19 (by decide) (fun h19 => ?_) (fun h19 => ?_)
    · obtain ⟨i1, i2⟩ := is_inN h19
      obtain ⟨jw, hjw, hje⟩ := nI_of2 (n := 6) (by decide) i1 (Int32.not_lt.mp i2)
      subst hje
      refine lv_iconst (v := 0) hx hb d_Mod_count_26 (by decide) ?_
      refine tw_wi (wr := [((q 54), aI g 8 to)]) (tw_runV (ws := [(h0, .inr (10, mob q rf n mm mb fa fp av ev wi mn tp tc sc nf fd me mp xn mt wh tq ag an ig)), ((q 54), aI g 8 to)]) (wc := [(h0, .inr (10, mob q rf n mm mb fa fp av ev wi mn tp tc sc nf fd me mp xn mt wh tq ag an ig))]) (As := [.int 0]) (rest := []) E hB hK hZ (g_Mod_refused l g H.size h0 q n mm mb fa fp av ev wi mn tp tc sc nf fd me mp xn mt wh tq ag an ig rf 0) mc_Mod_refused mi_Mod_refused me_Mod_refused wd_1446 hP hD hS hA [0] rfl (by decide) 0 rfl rfl rfl rfl rfl (by decide) rfl hl.1 rfl (Nat.le_of_ble_eq_true rfl) (by decide) d_Mod_count_27) hP hD hS hA [0] [1] rfl rfl (by decide) (by decide) (fun r2 u3 H locs hr2 hP hD hS => ?_)
      try dsimp only at hr2
      have hP : va_P g.1 classes [((q 54), aI g 8 to), (h0, .inr (10, mob q u3 n mm mb fa fp av ev wi mn tp tc sc nf fd me mp xn mt wh tq ag an ig))] H := hP
      have hD : va_D A [((q 54), aI g 8 to), (h0, .inr (10, mob q u3 n mm mb fa fp av ev wi mn tp tc sc nf fd me mp xn mt wh tq ag an ig))] := hD
      have hP : va_P g.1 classes [(h0, .inr (10, mob q u3 n mm mb fa fp av ev wi mn tp tc sc nf fd me mp xn mt wh tq ag an ig)), ((q 54), aI g 8 to)] H := hP.sub [1, 0] rfl
      have hD : va_D A [(h0, .inr (10, mob q u3 n mm mb fa fp av ev wi mn tp tc sc nf fd me mp xn mt wh tq ag an ig)), ((q 54), aI g 8 to)] := hD.sub [1, 0] (by decide) rfl
      obtain ⟨hB3, hp3_0⟩ := hr2
      have hrr27 : r2 = 0 := hB3.2.trans (by decide)
      subst hrr27
      refine lv_if_eq (tgt := 37) hx hb d_Mod_count_30 (by decide) (fun h30 => ?_) (fun h30 => ?_)
      · refine lv_aload_n hx hb d_Mod_count_37 rfl (lv_at hl 0 rfl) ?_
        refine va_get (D := g.1) (ci := 10) (v := .ref (q 54)) (C := R_Mod) (T := F_Mod) (N := 61) hx hb hts in_Mod hown hK hP 0 rfl rfl 54 (by decide) (hts _ wd_1304) (fun _ h9 => h9) rfl d_Mod_count_38 ?_
        refine lv_iload_n hx hb d_Mod_count_41 rfl (lv_at hl 1 rfl) ?_
        refine va_iald hx hb hK hP 1 0 rfl rfl (vp_in_nI (by omega) (by decide)) d_Mod_count_42 ?_
        obtain ⟨x4, ex4⟩ : ∃ z : Int32, to ((nI jw).toNatClampNeg) = z := ⟨_, rfl⟩
        refine tw_ri (e2 := x4) ex4 ?_
        exact tw_iret E hS u3 trivial hP hD d_Mod_count_43
      · first | exact absurd h30 (by decide) | exact absurd (by decide) h30
    · refine lv_iconst (v := 2) hx hb d_Mod_count_22 (by decide) ?_
      refine lv_goto (tgt := 27) hx hb d_Mod_count_23 (by decide) ?_
      refine tw_wi (wr := [((q 54), aI g 8 to)]) (tw_runV (ws := [(h0, .inr (10, mob q rf n mm mb fa fp av ev wi mn tp tc sc nf fd me mp xn mt wh tq ag an ig)), ((q 54), aI g 8 to)]) (wc := [(h0, .inr (10, mob q rf n mm mb fa fp av ev wi mn tp tc sc nf fd me mp xn mt wh tq ag an ig))]) (As := [.int 2]) (rest := []) E hB hK hZ (g_Mod_refused l g H.size h0 q n mm mb fa fp av ev wi mn tp tc sc nf fd me mp xn mt wh tq ag an ig rf 2) mc_Mod_refused mi_Mod_refused me_Mod_refused wd_1446 hP hD hS hA [0] rfl (by decide) 0 rfl rfl rfl rfl rfl (by decide) rfl hl.1 rfl (Nat.le_of_ble_eq_true rfl) (by decide) d_Mod_count_27) hP hD hS hA [0] [1] rfl rfl (by decide) (by decide) (fun r5 u6 H locs hr5 hP hD hS => ?_)
      try dsimp only at hr5
      have hP : va_P g.1 classes [((q 54), aI g 8 to), (h0, .inr (10, mob q u6 n mm mb fa fp av ev wi mn tp tc sc nf fd me mp xn mt wh tq ag an ig))] H := hP
      have hD : va_D A [((q 54), aI g 8 to), (h0, .inr (10, mob q u6 n mm mb fa fp av ev wi mn tp tc sc nf fd me mp xn mt wh tq ag an ig))] := hD
      have hP : va_P g.1 classes [(h0, .inr (10, mob q u6 n mm mb fa fp av ev wi mn tp tc sc nf fd me mp xn mt wh tq ag an ig)), ((q 54), aI g 8 to)] H := hP.sub [1, 0] rfl
      have hD : va_D A [(h0, .inr (10, mob q u6 n mm mb fa fp av ev wi mn tp tc sc nf fd me mp xn mt wh tq ag an ig)), ((q 54), aI g 8 to)] := hD.sub [1, 0] (by decide) rfl
      obtain ⟨hB6, hp6_0⟩ := hr5
      have hrr27 : r5 = 1 := hB6.2.trans (by decide)
      subst hrr27
      refine lv_if_eq (tgt := 37) hx hb d_Mod_count_30 (by decide) (fun h30 => ?_) (fun h30 => ?_)
      · first | exact absurd h30 (by decide) | exact absurd (by decide) h30
      · refine lv_iconst (v := 0) hx hb d_Mod_count_33 (by decide) ?_
        refine lv_goto (tgt := 43) hx hb d_Mod_count_34 (by decide) ?_
        exact tw_iret E hS u6 trivial hP hD d_Mod_count_43
  · refine lv_iconst (v := 1) hx hb d_Mod_count_8 (by decide) ?_
    refine lv_goto (tgt := 27) hx hb d_Mod_count_9 (by decide) ?_
    refine tw_wi (wr := [((q 54), aI g 8 to)]) (tw_runV (ws := [(h0, .inr (10, mob q rf n mm mb fa fp av ev wi mn tp tc sc nf fd me mp xn mt wh tq ag an ig)), ((q 54), aI g 8 to)]) (wc := [(h0, .inr (10, mob q rf n mm mb fa fp av ev wi mn tp tc sc nf fd me mp xn mt wh tq ag an ig))]) (As := [.int 1]) (rest := []) E hB hK hZ (g_Mod_refused l g H.size h0 q n mm mb fa fp av ev wi mn tp tc sc nf fd me mp xn mt wh tq ag an ig rf 1) mc_Mod_refused mi_Mod_refused me_Mod_refused wd_1446 hP hD hS hA [0] rfl (by decide) 0 rfl rfl rfl rfl rfl (by decide) rfl hl.1 rfl (Nat.le_of_ble_eq_true rfl) (by decide) d_Mod_count_27) hP hD hS hA [0] [1] rfl rfl (by decide) (by decide) (fun r7 u8 H locs hr7 hP hD hS => ?_)
    try dsimp only at hr7
    have hP : va_P g.1 classes [((q 54), aI g 8 to), (h0, .inr (10, mob q u8 n mm mb fa fp av ev wi mn tp tc sc nf fd me mp xn mt wh tq ag an ig))] H := hP
    have hD : va_D A [((q 54), aI g 8 to), (h0, .inr (10, mob q u8 n mm mb fa fp av ev wi mn tp tc sc nf fd me mp xn mt wh tq ag an ig))] := hD
    have hP : va_P g.1 classes [(h0, .inr (10, mob q u8 n mm mb fa fp av ev wi mn tp tc sc nf fd me mp xn mt wh tq ag an ig)), ((q 54), aI g 8 to)] H := hP.sub [1, 0] rfl
    have hD : va_D A [(h0, .inr (10, mob q u8 n mm mb fa fp av ev wi mn tp tc sc nf fd me mp xn mt wh tq ag an ig)), ((q 54), aI g 8 to)] := hD.sub [1, 0] (by decide) rfl
    obtain ⟨hB8, hp8_0⟩ := hr7
    have hrr27 : r7 = 1 := hB8.2.trans (by decide)
    subst hrr27
    refine lv_if_eq (tgt := 37) hx hb d_Mod_count_30 (by decide) (fun h30 => ?_) (fun h30 => ?_)
    · first | exact absurd h30 (by decide) | exact absurd (by decide) h30
    · refine lv_iconst (v := 0) hx hb d_Mod_count_33 (by decide) ?_
      refine lv_goto (tgt := 43) hx hb d_Mod_count_34 (by decide) ?_
      exact tw_iret E hS u8 trivial hP hD d_Mod_count_43
set_option maxHeartbeats 4000000 in
set_option maxRecDepth 100000 in
theorem g_Mod_text (l : Launch) (g : tw_G) (sz : Nat) (h0 : Nat) (q : Nat → Nat) (n : Nat) (mm : Int32) (mb : Int32) (fa : Int32) (fp : Int32) (av : Nat) (ev : Nat) (wi : Int32) (mn : Nat) (tp : Int32) (tc : Int32) (sc : Int32) (nf : Nat) (fd : Nat) (me : Nat) (mp : Int32) (xn : Nat) (mt : Nat) (wh : Nat) (tq : Nat) (ag : Nat) (an : Int32) (ig : Int32) (gb : Nat → Int32) (to : Nat → Int32) (gt : Nat → Int32) (gbg : Nat → Int32) (gl : Nat → Int32) (glo : Nat → Int32) (gd : Nat → Int32) (rf : Int32) (wt : Int32) (k1 : Int32) (i9 : Int32) (hGZ : ig = 0 ∨ GOK to gt gbg gl glo gd) : Met l y_Mod_text [.code y_Mod_text b_Mod_text 6 (some .char)] ({ frames := 1, cells := 0, slots := 0, locals := 22 }) (tw_P g [.ref h0, .int wt, .int k1, .int i9] [(h0, .inr (10, mob q rf n mm mb fa fp av ev wi mn tp tc sc nf fd me mp xn mt wh tq ag an ig)), ((q 53), aI g 600 gb), ((q 54), aI g 8 to), ((q 55), aI g 1100 gt), ((q 56), aI g 160 gbg), ((q 57), aI g 160 gl), ((q 58), aI g 160 glo), ((q 59), aI g 600 gd)] sz) (tw_Qi g (fun (r : Int32) (u : Int32) => True) (fun u : Int32 => [(h0, .inr (10, mob q u n mm mb fa fp av ev wi mn tp tc sc nf fd me mp xn mt wh tq ag an ig)), ((q 53), aI g 600 gb), ((q 54), aI g 8 to), ((q 55), aI g 1100 gt), ((q 56), aI g 160 gbg), ((q 57), aI g 160 gl), ((q 58), aI g 160 glo), ((q 59), aI g 600 gd)]) (va_A [(h0, .inr (10, mob q rf n mm mb fa fp av ev wi mn tp tc sc nf fd me mp xn mt wh tq ag an ig)), ((q 53), aI g 600 gb), ((q 54), aI g 8 to), ((q 55), aI g 1100 gt), ((q 56), aI g 160 gbg), ((q 57), aI g 160 gl), ((q 58), aI g 160 glo), ((q 59), aI g 600 gd)] sz)) 0 0 (va_A [(h0, .inr (10, mob q rf n mm mb fa fp av ev wi mn tp tc sc nf fd me mp xn mt wh tq ag an ig)), ((q 53), aI g 600 gb), ((q 54), aI g 8 to), ((q 55), aI g 1100 gt), ((q 56), aI g 160 gbg), ((q 57), aI g 160 gl), ((q 58), aI g 160 glo), ((q 59), aI g 600 gd)] sz) := by
  refine tw_metW (l := l) (g := g) (y := y_Mod_text) (cc := b_Mod_text) (maxL := 6) (ret := (some .char)) (rm := { frames := 1, cells := 0, slots := 0, locals := 22 }) (mc := 0) (ms := 0) (av := [.ref h0, .int wt, .int k1, .int i9]) (ws := [(h0, .inr (10, mob q rf n mm mb fa fp av ev wi mn tp tc sc nf fd me mp xn mt wh tq ag an ig)), ((q 53), aI g 600 gb), ((q 54), aI g 8 to), ((q 55), aI g 1100 gt), ((q 56), aI g 160 gbg), ((q 57), aI g 160 gl), ((q 58), aI g 160 glo), ((q 59), aI g 600 gd)]) (sz := sz) (Qc := fun A => (tw_Qi g (fun (r : Int32) (u : Int32) => True) (fun u : Int32 => [(h0, .inr (10, mob q u n mm mb fa fp av ev wi mn tp tc sc nf fd me mp xn mt wh tq ag an ig)), ((q 53), aI g 600 gb), ((q 54), aI g 8 to), ((q 55), aI g 1100 gt), ((q 56), aI g 160 gbg), ((q 57), aI g 160 gl), ((q 58), aI g 160 glo), ((q 59), aI g 600 gd)]) A)) (by decide) (Nat.le_of_ble_eq_true rfl) ?_
  intro p e s m below meth c ls H A E hB hK hZ hP hD hS hA hl
  obtain ⟨hx, hb, hml, hr, hown, hts, hlocks, hin⟩ := id E
  have hl : lv_has ls 6 [(0, .ref h0), (1, .int wt), (2, .int k1), (3, .int i9)] := hl
  refine lv_aload_n hx hb d_Mod_text_0 rfl (lv_at hl 0 rfl) ?_
  refine lv_aload_n hx hb d_Mod_text_1 rfl (lv_at hl 0 rfl) ?_
  refine va_get (D := g.1) (ci := 10) (v := .int ig) (C := R_Mod) (T := F_Mod) (N := 61) hx hb hts in_Mod hown hK hP 0 rfl rfl 52 (by decide) (hts _ wd_1302) (fun _ h9 => h9) rfl d_Mod_text_2 ?_
  refine lv_if_ne (tgt := 12) hx hb d_Mod_text_5 (by decide) (fun h5 => ?_) (fun h5 => ?_)
  · obtain ⟨c1, c2, c3, gc1, gc2, gT, g0, g2, gm, gf, gk_, gd_⟩ := hGZ.resolve_left h5
    refine lv_iload_n hx hb d_Mod_text_12 rfl (lv_at hl 1 rfl) ?_
    refine lv_iconst (v := 0) hx hb d_Mod_text_13 (by decide) ?_
    refine lv_bipush (v := 6) hx hb d_Mod_text_14 (by decide) ?_
    refine tw_si (tw_runS (ws := [(h0, .inr (10, mob q rf n mm mb fa fp av ev wi mn tp tc sc nf fd me mp xn mt wh tq ag an ig)), ((q 53), aI g 600 gb), ((q 54), aI g 8 to), ((q 55), aI g 1100 gt), ((q 56), aI g 160 gbg), ((q 57), aI g 160 gl), ((q 58), aI g 160 glo), ((q 59), aI g 600 gd)]) (wc := []) (As := [.int wt, .int 0, .int 6]) (rest := [.ref h0]) E hB hK hZ (c_Mod_isIn l g H.size wt 0 6) mc_Mod_isIn ms_Mod_isIn wd_1443 hP hD hS hA [] rfl (by decide) rfl rfl (by decide) rfl hl.1 rfl (Nat.le_of_ble_eq_true rfl) (by decide) d_Mod_text_16) (fun r1 hr1 => ?_)
    obtain rfl : r1 = is_in wt 0 6 := hr1
    refine lv_if_ne (tgt := 26) hx hb d_Mod_text_19 (by decide) (fun h19 => ?_) (fun h19 => ?_)
    · obtain ⟨i1, i2⟩ := is_inN h19
      obtain ⟨jw, hjw, hje⟩ := nI_of2 (n := 6) (by decide) i1 (Int32.not_lt.mp i2)
      subst hje
      refine lv_iconst (v := 0) hx hb d_Mod_text_26 (by decide) ?_
      refine tw_wi (wr := [((q 53), aI g 600 gb), ((q 54), aI g 8 to), ((q 55), aI g 1100 gt), ((q 56), aI g 160 gbg), ((q 57), aI g 160 gl), ((q 58), aI g 160 glo), ((q 59), aI g 600 gd)]) (tw_runV (ws := [(h0, .inr (10, mob q rf n mm mb fa fp av ev wi mn tp tc sc nf fd me mp xn mt wh tq ag an ig)), ((q 53), aI g 600 gb), ((q 54), aI g 8 to), ((q 55), aI g 1100 gt), ((q 56), aI g 160 gbg), ((q 57), aI g 160 gl), ((q 58), aI g 160 glo), ((q 59), aI g 600 gd)]) (wc := [(h0, .inr (10, mob q rf n mm mb fa fp av ev wi mn tp tc sc nf fd me mp xn mt wh tq ag an ig))]) (As := [.int 0]) (rest := []) E hB hK hZ (g_Mod_refused l g H.size h0 q n mm mb fa fp av ev wi mn tp tc sc nf fd me mp xn mt wh tq ag an ig rf 0) mc_Mod_refused mi_Mod_refused me_Mod_refused wd_1446 hP hD hS hA [0] rfl (by decide) 0 rfl rfl rfl rfl rfl (by decide) rfl hl.1 rfl (Nat.le_of_ble_eq_true rfl) (by decide) d_Mod_text_27) hP hD hS hA [0] [1, 2, 3, 4, 5, 6, 7] rfl rfl (by decide) (by decide) (fun r2 u3 H locs hr2 hP hD hS => ?_)
      try dsimp only at hr2
      have hP : va_P g.1 classes [((q 53), aI g 600 gb), ((q 54), aI g 8 to), ((q 55), aI g 1100 gt), ((q 56), aI g 160 gbg), ((q 57), aI g 160 gl), ((q 58), aI g 160 glo), ((q 59), aI g 600 gd), (h0, .inr (10, mob q u3 n mm mb fa fp av ev wi mn tp tc sc nf fd me mp xn mt wh tq ag an ig))] H := hP
      have hD : va_D A [((q 53), aI g 600 gb), ((q 54), aI g 8 to), ((q 55), aI g 1100 gt), ((q 56), aI g 160 gbg), ((q 57), aI g 160 gl), ((q 58), aI g 160 glo), ((q 59), aI g 600 gd), (h0, .inr (10, mob q u3 n mm mb fa fp av ev wi mn tp tc sc nf fd me mp xn mt wh tq ag an ig))] := hD
      have hP : va_P g.1 classes [(h0, .inr (10, mob q u3 n mm mb fa fp av ev wi mn tp tc sc nf fd me mp xn mt wh tq ag an ig)), ((q 53), aI g 600 gb), ((q 54), aI g 8 to), ((q 55), aI g 1100 gt), ((q 56), aI g 160 gbg), ((q 57), aI g 160 gl), ((q 58), aI g 160 glo), ((q 59), aI g 600 gd)] H := hP.sub [7, 0, 1, 2, 3, 4, 5, 6] rfl
      have hD : va_D A [(h0, .inr (10, mob q u3 n mm mb fa fp av ev wi mn tp tc sc nf fd me mp xn mt wh tq ag an ig)), ((q 53), aI g 600 gb), ((q 54), aI g 8 to), ((q 55), aI g 1100 gt), ((q 56), aI g 160 gbg), ((q 57), aI g 160 gl), ((q 58), aI g 160 glo), ((q 59), aI g 600 gd)] := hD.sub [7, 0, 1, 2, 3, 4, 5, 6] (by decide) rfl
      obtain ⟨hB3, hp3_0⟩ := hr2
      have hrr27 : r2 = 0 := hB3.2.trans (by decide)
      subst hrr27
      refine lv_if_eq (tgt := 36) hx hb d_Mod_text_30 (by decide) (fun h30 => ?_) (fun h30 => ?_)
      · refine lv_iload_n hx hb d_Mod_text_36 rfl (lv_at hl 1 rfl) ?_
        refine lv_if_ne (tgt := 44) hx hb d_Mod_text_37 (by decide) (fun h37 => ?_) (fun h37 => ?_)
        · have h37 := tn_ne (b := 0) h37
          refine lv_iload_n hx hb d_Mod_text_44 rfl (lv_at hl 1 rfl) ?_
          refine lv_iconst (v := 1) hx hb d_Mod_text_45 (by decide) ?_
          refine lv_icmp_ne (tgt := 53) hx hb d_Mod_text_46 (by decide) (fun h46 => ?_) (fun h46 => ?_)
          · have h46 := tn_ne (b := 1) h46
            refine lv_iload_n hx hb d_Mod_text_53 rfl (lv_at hl 1 rfl) ?_
            refine lv_iconst (v := 2) hx hb d_Mod_text_54 (by decide) ?_
            refine lv_icmp_ne (tgt := 68) hx hb d_Mod_text_55 (by decide) (fun h55 => ?_) (fun h55 => ?_)
            · have h55b := tn_ne (b := 2) h55
              refine lv_iload_n hx hb d_Mod_text_68 rfl (lv_at hl 1 rfl) ?_
              refine lv_iconst (v := 5) hx hb d_Mod_text_69 (by decide) ?_
              refine lv_icmp_ge (tgt := 87) hx hb d_Mod_text_70 (by decide) (fun h70 => ?_) (fun h70 => ?_)
              · have h70b := tn_le (a := 5) h70 (by decide) (by omega)
                refine lv_iconst (v := 4) hx hb d_Mod_text_87 (by decide) ?_
                refine lv_iconst (v := 4) hx hb d_Mod_text_88 (by decide) ?_
                refine lv_aload_n hx hb d_Mod_text_89 rfl (lv_at hl 0 rfl) ?_
                refine va_get (D := g.1) (ci := 10) (v := .ref (q 54)) (C := R_Mod) (T := F_Mod) (N := 61) hx hb hts in_Mod hown hK hP 0 rfl rfl 54 (by decide) (hts _ wd_1304) (fun _ h9 => h9) rfl d_Mod_text_90 ?_
                refine lv_iconst (v := 2) hx hb d_Mod_text_93 (by decide) ?_
                refine va_iald hx hb hK hP 2 0 rfl rfl (vp_in_nI (n := 2) (by decide) (by decide)) d_Mod_text_94 ?_
                refine tw_ri (e2 := nI c2) gT.2.1 ?_
                refine lv_iload_n hx hb d_Mod_text_95 rfl (lv_at hl 2 rfl) ?_
                refine lv_iadd hx hb d_Mod_text_96 ?_
                refine tw_ri (e2 := (nI c2) + k1) rfl ?_
                refine lv_imul hx hb d_Mod_text_97 ?_
                refine tw_ri (e2 := 4 * ((nI c2) + k1)) rfl ?_
                refine lv_iadd hx hb d_Mod_text_98 ?_
                refine tw_ri (e2 := 4 + (4 * ((nI c2) + k1))) rfl ?_
                refine lv_iconst (v := 2) hx hb d_Mod_text_99 (by decide) ?_
                refine lv_iload_n hx hb d_Mod_text_100 rfl (lv_at hl 1 rfl) ?_
                refine lv_iconst (v := 5) hx hb d_Mod_text_101 (by decide) ?_
                refine lv_isub hx hb d_Mod_text_102 ?_
                refine tw_ri (e2 := (nI jw) - 5) rfl ?_
                refine lv_imul hx hb d_Mod_text_103 ?_
                refine tw_ri (e2 := 2 * ((nI jw) - 5)) rfl ?_
                refine lv_iadd hx hb d_Mod_text_104 ?_
                refine tw_ri (e2 := (4 + (4 * ((nI c2) + k1))) + (2 * ((nI jw) - 5))) rfl ?_
                refine lv_istore hx hb d_Mod_text_105 hl (by decide) rfl (fun ls hl => ?_)
                have hl : lv_has ls 6 [(4, .int ((4 + (4 * ((nI c2) + k1))) + (2 * ((nI jw) - 5)))), (0, .ref h0), (1, .int (nI jw)), (2, .int k1), (3, .int i9)] := hl
                refine lv_iload_n hx hb d_Mod_text_107 rfl (lv_at hl 2 rfl) ?_
                refine lv_iconst (v := 2) hx hb d_Mod_text_108 (by decide) ?_
                refine lv_icmp_lt (tgt := 154) hx hb d_Mod_text_109 (by decide) (fun h109 => ?_) (fun h109 => ?_)
                · exact absurd (tn_lt (b := 2) h109 (by omega) (by decide)) (by omega)
                · refine lv_iload_n hx hb d_Mod_text_112 rfl (lv_at hl 3 rfl) ?_
                  refine lv_if_lt (tgt := 158) hx hb d_Mod_text_113 (by decide) (fun h113 => ?_) (fun h113 => ?_)
                  · refine lv_iconst (v := 0) hx hb d_Mod_text_158 (by decide) ?_
                    refine lv_istore hx hb d_Mod_text_159 hl (by decide) rfl (fun ls hl => ?_)
                    have hl : lv_has ls 6 [(5, .int 0), (4, .int ((4 + (4 * ((nI c2) + k1))) + (2 * ((nI jw) - 5)))), (0, .ref h0), (1, .int (nI jw)), (2, .int k1), (3, .int i9)] := hl
                    refine lv_iload hx hb d_Mod_text_161 (lv_at hl 0 rfl) ?_
                    refine lv_if_eq (tgt := 201) hx hb d_Mod_text_163 (by decide) (fun h163 => ?_) (fun h163 => ?_)
                    · refine lv_bipush (v := 32) hx hb d_Mod_text_201 (by decide) ?_
                      exact tw_zret E hS u3 (by decide) trivial hP hD d_Mod_text_203
                    · first | exact absurd h163 (by decide) | exact absurd (by decide) h163
                  · obtain ⟨jk, hjk, hke⟩ := nI_of h113
                    subst hke
                    refine lv_iload_n hx hb d_Mod_text_116 rfl (lv_at hl 3 rfl) ?_
                    refine lv_iload_n hx hb d_Mod_text_117 rfl (lv_at hl 2 rfl) ?_
                    refine lv_iconst (v := 2) hx hb d_Mod_text_118 (by decide) ?_
                    refine lv_icmp_ne (tgt := 131) hx hb d_Mod_text_119 (by decide) (fun h119 => ?_) (fun h119 => ?_)
                    · refine lv_iload_n hx hb d_Mod_text_131 rfl (lv_at hl 2 rfl) ?_
                      refine lv_iconst (v := 5) hx hb d_Mod_text_132 (by decide) ?_
                      refine lv_icmp_ge (tgt := 145) hx hb d_Mod_text_133 (by decide) (fun h133 => ?_) (fun h133 => ?_)
                      · refine lv_aload_n hx hb d_Mod_text_145 rfl (lv_at hl 1 rfl) ?_
                        refine va_get (D := g.1) (ci := 10) (v := .ref (q 54)) (C := R_Mod) (T := F_Mod) (N := 61) hx hb hts in_Mod hown hK hP 0 rfl rfl 54 (by decide) (hts _ wd_1304) (fun _ h9 => h9) rfl d_Mod_text_146 ?_
                        refine lv_iconst (v := 3) hx hb d_Mod_text_149 (by decide) ?_
                        refine va_iald hx hb hK hP 2 0 rfl rfl (vp_in_nI (n := 3) (by decide) (by decide)) d_Mod_text_150 ?_
                        refine tw_ri (e2 := nI c3) gT.2.2 ?_
                        refine lv_icmp_ge (tgt := 158) hx hb d_Mod_text_151 (by decide) (fun h151 => ?_) (fun h151 => ?_)
                        · refine lv_iconst (v := 0) hx hb d_Mod_text_158 (by decide) ?_
                          refine lv_istore hx hb d_Mod_text_159 hl (by decide) rfl (fun ls hl => ?_)
                          have hl : lv_has ls 6 [(5, .int 0), (4, .int ((4 + (4 * ((nI c2) + (nI jk)))) + (2 * ((nI jw) - 5)))), (0, .ref h0), (1, .int (nI jw)), (2, .int (nI jk)), (3, .int i9)] := hl
                          refine lv_iload hx hb d_Mod_text_161 (lv_at hl 0 rfl) ?_
                          refine lv_if_eq (tgt := 201) hx hb d_Mod_text_163 (by decide) (fun h163 => ?_) (fun h163 => ?_)
                          · refine lv_bipush (v := 32) hx hb d_Mod_text_201 (by decide) ?_
                            exact tw_zret E hS u3 (by decide) trivial hP hD d_Mod_text_203
                          · first | exact absurd h163 (by decide) | exact absurd (by decide) h163
                        · have h151 := tn_nle h151 (by omega) (by omega)
                          obtain ⟨pg, lg, z1, z2, z3⟩ : TXG gt (4 + 4 * (c2 + jk) + 2 * (jw - 5)) := (txg_w5 (gm (c2 + jk) (by omega)) (by omega))
                          refine lv_iconst (v := 1) hx hb d_Mod_text_154 (by decide) ?_
                          refine lv_goto (tgt := 159) hx hb d_Mod_text_155 (by decide) ?_
                          refine lv_istore hx hb d_Mod_text_159 hl (by decide) rfl (fun ls hl => ?_)
                          have hl : lv_has ls 6 [(5, .int 1), (4, .int ((4 + (4 * ((nI c2) + (nI jk)))) + (2 * ((nI jw) - 5)))), (0, .ref h0), (1, .int (nI jw)), (2, .int (nI jk)), (3, .int i9)] := hl
                          refine lv_iload hx hb d_Mod_text_161 (lv_at hl 0 rfl) ?_
                          refine lv_if_eq (tgt := 201) hx hb d_Mod_text_163 (by decide) (fun h163 => ?_) (fun h163 => ?_)
                          · first | exact absurd h163 (by decide) | exact absurd (by decide) h163
                          · refine lv_iload_n hx hb d_Mod_text_166 rfl (lv_at hl 5 rfl) ?_
                            refine lv_if_lt (tgt := 201) hx hb d_Mod_text_167 (by decide) (fun h167 => ?_) (fun h167 => ?_)
                            · refine lv_bipush (v := 32) hx hb d_Mod_text_201 (by decide) ?_
                              exact tw_zret E hS u3 (by decide) trivial hP hD d_Mod_text_203
                            · obtain ⟨ji, hji, hie⟩ := nI_of h167
                              subst hie
                              refine lv_iload_n hx hb d_Mod_text_170 rfl (lv_at hl 5 rfl) ?_
                              refine lv_aload_n hx hb d_Mod_text_171 rfl (lv_at hl 2 rfl) ?_
                              refine va_get (D := g.1) (ci := 10) (v := .ref (q 55)) (C := R_Mod) (T := F_Mod) (N := 61) hx hb hts in_Mod hown hK hP 0 rfl rfl 55 (by decide) (hts _ wd_1305) (fun _ h9 => h9) rfl d_Mod_text_172 ?_
                              refine lv_iload hx hb d_Mod_text_175 (lv_at hl 1 rfl) ?_
                              refine lv_iconst (v := 1) hx hb d_Mod_text_177 (by decide) ?_
                              refine lv_iadd hx hb d_Mod_text_178 ?_
                              refine tw_ri (e2 := nI ((4 + 4 * (c2 + jk) + 2 * (jw - 5)) + 1)) (by rw [show ((4 + (4 * ((nI c2) + (nI jk)))) + (2 * ((nI jw) - 5))) = nI (4 + 4 * (c2 + jk) + 2 * (jw - 5)) from tx_5 (by omega)]; exact nI_add _ 1) ?_
                              refine va_iald hx hb hK hP 3 0 rfl rfl (vp_in_nI (by omega) (by decide)) d_Mod_text_179 ?_
                              refine tw_ri (e2 := nI lg) (by rw [nI_clamp (by omega)]; exact z2) ?_
                              refine lv_icmp_ge (tgt := 201) hx hb d_Mod_text_180 (by decide) (fun h180 => ?_) (fun h180 => ?_)
                              · refine lv_bipush (v := 32) hx hb d_Mod_text_201 (by decide) ?_
                                exact tw_zret E hS u3 (by decide) trivial hP hD d_Mod_text_203
                              · have h180 := tn_nle h180 (by omega) (by omega)
                                refine lv_aload_n hx hb d_Mod_text_183 rfl (lv_at hl 2 rfl) ?_
                                refine va_get (D := g.1) (ci := 10) (v := .ref (q 53)) (C := R_Mod) (T := F_Mod) (N := 61) hx hb hts in_Mod hown hK hP 0 rfl rfl 53 (by decide) (hts _ wd_1303) (fun _ h9 => h9) rfl d_Mod_text_184 ?_
                                refine lv_aload_n hx hb d_Mod_text_187 rfl (lv_at hl 2 rfl) ?_
                                refine va_get (D := g.1) (ci := 10) (v := .ref (q 55)) (C := R_Mod) (T := F_Mod) (N := 61) hx hb hts in_Mod hown hK hP 0 rfl rfl 55 (by decide) (hts _ wd_1305) (fun _ h9 => h9) rfl d_Mod_text_188 ?_
                                refine lv_iload hx hb d_Mod_text_191 (lv_at hl 1 rfl) ?_
                                refine va_iald hx hb hK hP 3 0 rfl rfl (by rw [show ((4 + (4 * ((nI c2) + (nI jk)))) + (2 * ((nI jw) - 5))) = nI (4 + 4 * (c2 + jk) + 2 * (jw - 5)) from tx_5 (by omega)]; exact vp_in_nI (by omega) (by decide)) d_Mod_text_193 ?_
                                refine tw_ri (e2 := nI pg) (by rw [show ((4 + (4 * ((nI c2) + (nI jk)))) + (2 * ((nI jw) - 5))) = nI (4 + 4 * (c2 + jk) + 2 * (jw - 5)) from tx_5 (by omega), nI_clamp (by omega)]; exact z1) ?_
                                refine lv_iload_n hx hb d_Mod_text_194 rfl (lv_at hl 5 rfl) ?_
                                refine lv_iadd hx hb d_Mod_text_195 ?_
                                refine tw_ri (e2 := nI (pg + ji)) (nI_add _ _) ?_
                                refine va_iald hx hb hK hP 1 0 rfl rfl (vp_in_nI (by omega) (by decide)) d_Mod_text_196 ?_
                                obtain ⟨x4, ex4⟩ : ∃ z : Int32, gb ((nI (pg + ji)).toNatClampNeg) = z := ⟨_, rfl⟩
                                refine tw_ri (e2 := x4) ex4 ?_
                                refine lv_i2c (v := (x4.toUInt32 % 65536).toInt32) hx hb d_Mod_text_197 rfl ?_
                                refine lv_goto (tgt := 203) hx hb d_Mod_text_198 (by decide) ?_
                                exact tw_zret E hS u3 (tn_char _) trivial hP hD d_Mod_text_203
                      · exact absurd h70 h133
                    · exact absurd h119 h55
              · have h70b := tn_nle (a := 5) h70 (by decide) (by omega)
                refine lv_iconst (v := 4) hx hb d_Mod_text_73 (by decide) ?_
                refine lv_iconst (v := 4) hx hb d_Mod_text_74 (by decide) ?_
                refine lv_iload_n hx hb d_Mod_text_75 rfl (lv_at hl 2 rfl) ?_
                refine lv_imul hx hb d_Mod_text_76 ?_
                refine tw_ri (e2 := 4 * k1) rfl ?_
                refine lv_iadd hx hb d_Mod_text_77 ?_
                refine tw_ri (e2 := 4 + (4 * k1)) rfl ?_
                refine lv_iconst (v := 2) hx hb d_Mod_text_78 (by decide) ?_
                refine lv_iload_n hx hb d_Mod_text_79 rfl (lv_at hl 1 rfl) ?_
                refine lv_iconst (v := 3) hx hb d_Mod_text_80 (by decide) ?_
                refine lv_isub hx hb d_Mod_text_81 ?_
                refine tw_ri (e2 := (nI jw) - 3) rfl ?_
                refine lv_imul hx hb d_Mod_text_82 ?_
                refine tw_ri (e2 := 2 * ((nI jw) - 3)) rfl ?_
                refine lv_iadd hx hb d_Mod_text_83 ?_
                refine tw_ri (e2 := (4 + (4 * k1)) + (2 * ((nI jw) - 3))) rfl ?_
                refine lv_goto (tgt := 105) hx hb d_Mod_text_84 (by decide) ?_
                refine lv_istore hx hb d_Mod_text_105 hl (by decide) rfl (fun ls hl => ?_)
                have hl : lv_has ls 6 [(4, .int ((4 + (4 * k1)) + (2 * ((nI jw) - 3)))), (0, .ref h0), (1, .int (nI jw)), (2, .int k1), (3, .int i9)] := hl
                refine lv_iload_n hx hb d_Mod_text_107 rfl (lv_at hl 2 rfl) ?_
                refine lv_iconst (v := 2) hx hb d_Mod_text_108 (by decide) ?_
                refine lv_icmp_lt (tgt := 154) hx hb d_Mod_text_109 (by decide) (fun h109 => ?_) (fun h109 => ?_)
                · exact absurd (tn_lt (b := 2) h109 (by omega) (by decide)) (by omega)
                · refine lv_iload_n hx hb d_Mod_text_112 rfl (lv_at hl 3 rfl) ?_
                  refine lv_if_lt (tgt := 158) hx hb d_Mod_text_113 (by decide) (fun h113 => ?_) (fun h113 => ?_)
                  · refine lv_iconst (v := 0) hx hb d_Mod_text_158 (by decide) ?_
                    refine lv_istore hx hb d_Mod_text_159 hl (by decide) rfl (fun ls hl => ?_)
                    have hl : lv_has ls 6 [(5, .int 0), (4, .int ((4 + (4 * k1)) + (2 * ((nI jw) - 3)))), (0, .ref h0), (1, .int (nI jw)), (2, .int k1), (3, .int i9)] := hl
                    refine lv_iload hx hb d_Mod_text_161 (lv_at hl 0 rfl) ?_
                    refine lv_if_eq (tgt := 201) hx hb d_Mod_text_163 (by decide) (fun h163 => ?_) (fun h163 => ?_)
                    · refine lv_bipush (v := 32) hx hb d_Mod_text_201 (by decide) ?_
                      exact tw_zret E hS u3 (by decide) trivial hP hD d_Mod_text_203
                    · first | exact absurd h163 (by decide) | exact absurd (by decide) h163
                  · obtain ⟨jk, hjk, hke⟩ := nI_of h113
                    subst hke
                    refine lv_iload_n hx hb d_Mod_text_116 rfl (lv_at hl 3 rfl) ?_
                    refine lv_iload_n hx hb d_Mod_text_117 rfl (lv_at hl 2 rfl) ?_
                    refine lv_iconst (v := 2) hx hb d_Mod_text_118 (by decide) ?_
                    refine lv_icmp_ne (tgt := 131) hx hb d_Mod_text_119 (by decide) (fun h119 => ?_) (fun h119 => ?_)
                    · refine lv_iload_n hx hb d_Mod_text_131 rfl (lv_at hl 2 rfl) ?_
                      refine lv_iconst (v := 5) hx hb d_Mod_text_132 (by decide) ?_
                      refine lv_icmp_ge (tgt := 145) hx hb d_Mod_text_133 (by decide) (fun h133 => ?_) (fun h133 => ?_)
                      · exact absurd h133 h70
                      · refine lv_aload_n hx hb d_Mod_text_136 rfl (lv_at hl 1 rfl) ?_
                        refine va_get (D := g.1) (ci := 10) (v := .ref (q 54)) (C := R_Mod) (T := F_Mod) (N := 61) hx hb hts in_Mod hown hK hP 0 rfl rfl 54 (by decide) (hts _ wd_1304) (fun _ h9 => h9) rfl d_Mod_text_137 ?_
                        refine lv_iconst (v := 2) hx hb d_Mod_text_140 (by decide) ?_
                        refine va_iald hx hb hK hP 2 0 rfl rfl (vp_in_nI (n := 2) (by decide) (by decide)) d_Mod_text_141 ?_
                        refine tw_ri (e2 := nI c2) gT.2.1 ?_
                        refine lv_goto (tgt := 151) hx hb d_Mod_text_142 (by decide) ?_
                        refine lv_icmp_ge (tgt := 158) hx hb d_Mod_text_151 (by decide) (fun h151 => ?_) (fun h151 => ?_)
                        · refine lv_iconst (v := 0) hx hb d_Mod_text_158 (by decide) ?_
                          refine lv_istore hx hb d_Mod_text_159 hl (by decide) rfl (fun ls hl => ?_)
                          have hl : lv_has ls 6 [(5, .int 0), (4, .int ((4 + (4 * (nI jk))) + (2 * ((nI jw) - 3)))), (0, .ref h0), (1, .int (nI jw)), (2, .int (nI jk)), (3, .int i9)] := hl
                          refine lv_iload hx hb d_Mod_text_161 (lv_at hl 0 rfl) ?_
                          refine lv_if_eq (tgt := 201) hx hb d_Mod_text_163 (by decide) (fun h163 => ?_) (fun h163 => ?_)
                          · refine lv_bipush (v := 32) hx hb d_Mod_text_201 (by decide) ?_
                            exact tw_zret E hS u3 (by decide) trivial hP hD d_Mod_text_203
                          · first | exact absurd h163 (by decide) | exact absurd (by decide) h163
                        · have h151 := tn_nle h151 (by omega) (by omega)
                          obtain ⟨pg, lg, z1, z2, z3⟩ : TXG gt (4 + 4 * jk + 2 * (jw - 3)) := (txg_w3 (gm jk (by omega)) (by omega))
                          refine lv_iconst (v := 1) hx hb d_Mod_text_154 (by decide) ?_
                          refine lv_goto (tgt := 159) hx hb d_Mod_text_155 (by decide) ?_
                          refine lv_istore hx hb d_Mod_text_159 hl (by decide) rfl (fun ls hl => ?_)
                          have hl : lv_has ls 6 [(5, .int 1), (4, .int ((4 + (4 * (nI jk))) + (2 * ((nI jw) - 3)))), (0, .ref h0), (1, .int (nI jw)), (2, .int (nI jk)), (3, .int i9)] := hl
                          refine lv_iload hx hb d_Mod_text_161 (lv_at hl 0 rfl) ?_
                          refine lv_if_eq (tgt := 201) hx hb d_Mod_text_163 (by decide) (fun h163 => ?_) (fun h163 => ?_)
                          · first | exact absurd h163 (by decide) | exact absurd (by decide) h163
                          · refine lv_iload_n hx hb d_Mod_text_166 rfl (lv_at hl 5 rfl) ?_
                            refine lv_if_lt (tgt := 201) hx hb d_Mod_text_167 (by decide) (fun h167 => ?_) (fun h167 => ?_)
                            · refine lv_bipush (v := 32) hx hb d_Mod_text_201 (by decide) ?_
                              exact tw_zret E hS u3 (by decide) trivial hP hD d_Mod_text_203
                            · obtain ⟨ji, hji, hie⟩ := nI_of h167
                              subst hie
                              refine lv_iload_n hx hb d_Mod_text_170 rfl (lv_at hl 5 rfl) ?_
                              refine lv_aload_n hx hb d_Mod_text_171 rfl (lv_at hl 2 rfl) ?_
                              refine va_get (D := g.1) (ci := 10) (v := .ref (q 55)) (C := R_Mod) (T := F_Mod) (N := 61) hx hb hts in_Mod hown hK hP 0 rfl rfl 55 (by decide) (hts _ wd_1305) (fun _ h9 => h9) rfl d_Mod_text_172 ?_
                              refine lv_iload hx hb d_Mod_text_175 (lv_at hl 1 rfl) ?_
                              refine lv_iconst (v := 1) hx hb d_Mod_text_177 (by decide) ?_
                              refine lv_iadd hx hb d_Mod_text_178 ?_
                              refine tw_ri (e2 := nI ((4 + 4 * jk + 2 * (jw - 3)) + 1)) (by rw [show ((4 + (4 * (nI jk))) + (2 * ((nI jw) - 3))) = nI (4 + 4 * jk + 2 * (jw - 3)) from tx_3 (by omega)]; exact nI_add _ 1) ?_
                              refine va_iald hx hb hK hP 3 0 rfl rfl (vp_in_nI (by omega) (by decide)) d_Mod_text_179 ?_
                              refine tw_ri (e2 := nI lg) (by rw [nI_clamp (by omega)]; exact z2) ?_
                              refine lv_icmp_ge (tgt := 201) hx hb d_Mod_text_180 (by decide) (fun h180 => ?_) (fun h180 => ?_)
                              · refine lv_bipush (v := 32) hx hb d_Mod_text_201 (by decide) ?_
                                exact tw_zret E hS u3 (by decide) trivial hP hD d_Mod_text_203
                              · have h180 := tn_nle h180 (by omega) (by omega)
                                refine lv_aload_n hx hb d_Mod_text_183 rfl (lv_at hl 2 rfl) ?_
                                refine va_get (D := g.1) (ci := 10) (v := .ref (q 53)) (C := R_Mod) (T := F_Mod) (N := 61) hx hb hts in_Mod hown hK hP 0 rfl rfl 53 (by decide) (hts _ wd_1303) (fun _ h9 => h9) rfl d_Mod_text_184 ?_
                                refine lv_aload_n hx hb d_Mod_text_187 rfl (lv_at hl 2 rfl) ?_
                                refine va_get (D := g.1) (ci := 10) (v := .ref (q 55)) (C := R_Mod) (T := F_Mod) (N := 61) hx hb hts in_Mod hown hK hP 0 rfl rfl 55 (by decide) (hts _ wd_1305) (fun _ h9 => h9) rfl d_Mod_text_188 ?_
                                refine lv_iload hx hb d_Mod_text_191 (lv_at hl 1 rfl) ?_
                                refine va_iald hx hb hK hP 3 0 rfl rfl (by rw [show ((4 + (4 * (nI jk))) + (2 * ((nI jw) - 3))) = nI (4 + 4 * jk + 2 * (jw - 3)) from tx_3 (by omega)]; exact vp_in_nI (by omega) (by decide)) d_Mod_text_193 ?_
                                refine tw_ri (e2 := nI pg) (by rw [show ((4 + (4 * (nI jk))) + (2 * ((nI jw) - 3))) = nI (4 + 4 * jk + 2 * (jw - 3)) from tx_3 (by omega), nI_clamp (by omega)]; exact z1) ?_
                                refine lv_iload_n hx hb d_Mod_text_194 rfl (lv_at hl 5 rfl) ?_
                                refine lv_iadd hx hb d_Mod_text_195 ?_
                                refine tw_ri (e2 := nI (pg + ji)) (nI_add _ _) ?_
                                refine va_iald hx hb hK hP 1 0 rfl rfl (vp_in_nI (by omega) (by decide)) d_Mod_text_196 ?_
                                obtain ⟨x5, ex5⟩ : ∃ z : Int32, gb ((nI (pg + ji)).toNatClampNeg) = z := ⟨_, rfl⟩
                                refine tw_ri (e2 := x5) ex5 ?_
                                refine lv_i2c (v := (x5.toUInt32 % 65536).toInt32) hx hb d_Mod_text_197 rfl ?_
                                refine lv_goto (tgt := 203) hx hb d_Mod_text_198 (by decide) ?_
                                exact tw_zret E hS u3 (tn_char _) trivial hP hD d_Mod_text_203
                    · exact absurd h119 h55
            · have h55b := tn_eq (b := 2) h55 (by omega) (by decide)
              refine lv_sipush (v := 400) hx hb d_Mod_text_58 (by decide) ?_
              refine lv_iconst (v := 2) hx hb d_Mod_text_61 (by decide) ?_
              refine lv_iload_n hx hb d_Mod_text_62 rfl (lv_at hl 2 rfl) ?_
              refine lv_imul hx hb d_Mod_text_63 ?_
              refine tw_ri (e2 := 2 * k1) rfl ?_
              refine lv_iadd hx hb d_Mod_text_64 ?_
              refine tw_ri (e2 := 400 + (2 * k1)) rfl ?_
              refine lv_goto (tgt := 105) hx hb d_Mod_text_65 (by decide) ?_
              refine lv_istore hx hb d_Mod_text_105 hl (by decide) rfl (fun ls hl => ?_)
              have hl : lv_has ls 6 [(4, .int (400 + (2 * k1))), (0, .ref h0), (1, .int (nI jw)), (2, .int k1), (3, .int i9)] := hl
              refine lv_iload_n hx hb d_Mod_text_107 rfl (lv_at hl 2 rfl) ?_
              refine lv_iconst (v := 2) hx hb d_Mod_text_108 (by decide) ?_
              refine lv_icmp_lt (tgt := 154) hx hb d_Mod_text_109 (by decide) (fun h109 => ?_) (fun h109 => ?_)
              · exact absurd (tn_lt (b := 2) h109 (by omega) (by decide)) (by omega)
              · refine lv_iload_n hx hb d_Mod_text_112 rfl (lv_at hl 3 rfl) ?_
                refine lv_if_lt (tgt := 158) hx hb d_Mod_text_113 (by decide) (fun h113 => ?_) (fun h113 => ?_)
                · refine lv_iconst (v := 0) hx hb d_Mod_text_158 (by decide) ?_
                  refine lv_istore hx hb d_Mod_text_159 hl (by decide) rfl (fun ls hl => ?_)
                  have hl : lv_has ls 6 [(5, .int 0), (4, .int (400 + (2 * k1))), (0, .ref h0), (1, .int (nI jw)), (2, .int k1), (3, .int i9)] := hl
                  refine lv_iload hx hb d_Mod_text_161 (lv_at hl 0 rfl) ?_
                  refine lv_if_eq (tgt := 201) hx hb d_Mod_text_163 (by decide) (fun h163 => ?_) (fun h163 => ?_)
                  · refine lv_bipush (v := 32) hx hb d_Mod_text_201 (by decide) ?_
                    exact tw_zret E hS u3 (by decide) trivial hP hD d_Mod_text_203
                  · first | exact absurd h163 (by decide) | exact absurd (by decide) h163
                · obtain ⟨jk, hjk, hke⟩ := nI_of h113
                  subst hke
                  refine lv_iload_n hx hb d_Mod_text_116 rfl (lv_at hl 3 rfl) ?_
                  refine lv_iload_n hx hb d_Mod_text_117 rfl (lv_at hl 2 rfl) ?_
                  refine lv_iconst (v := 2) hx hb d_Mod_text_118 (by decide) ?_
                  refine lv_icmp_ne (tgt := 131) hx hb d_Mod_text_119 (by decide) (fun h119 => ?_) (fun h119 => ?_)
                  · exact absurd h55 h119
                  · refine lv_aload_n hx hb d_Mod_text_122 rfl (lv_at hl 1 rfl) ?_
                    refine va_get (D := g.1) (ci := 10) (v := .ref (q 54)) (C := R_Mod) (T := F_Mod) (N := 61) hx hb hts in_Mod hown hK hP 0 rfl rfl 54 (by decide) (hts _ wd_1304) (fun _ h9 => h9) rfl d_Mod_text_123 ?_
                    refine lv_iconst (v := 1) hx hb d_Mod_text_126 (by decide) ?_
                    refine va_iald hx hb hK hP 2 0 rfl rfl (vp_in_nI (n := 1) (by decide) (by decide)) d_Mod_text_127 ?_
                    refine tw_ri (e2 := nI c1) gT.1 ?_
                    refine lv_goto (tgt := 151) hx hb d_Mod_text_128 (by decide) ?_
                    refine lv_icmp_ge (tgt := 158) hx hb d_Mod_text_151 (by decide) (fun h151 => ?_) (fun h151 => ?_)
                    · refine lv_iconst (v := 0) hx hb d_Mod_text_158 (by decide) ?_
                      refine lv_istore hx hb d_Mod_text_159 hl (by decide) rfl (fun ls hl => ?_)
                      have hl : lv_has ls 6 [(5, .int 0), (4, .int (400 + (2 * (nI jk)))), (0, .ref h0), (1, .int (nI jw)), (2, .int (nI jk)), (3, .int i9)] := hl
                      refine lv_iload hx hb d_Mod_text_161 (lv_at hl 0 rfl) ?_
                      refine lv_if_eq (tgt := 201) hx hb d_Mod_text_163 (by decide) (fun h163 => ?_) (fun h163 => ?_)
                      · refine lv_bipush (v := 32) hx hb d_Mod_text_201 (by decide) ?_
                        exact tw_zret E hS u3 (by decide) trivial hP hD d_Mod_text_203
                      · first | exact absurd h163 (by decide) | exact absurd (by decide) h163
                    · have h151 := tn_nle h151 (by omega) (by omega)
                      obtain ⟨pg, lg, z1, z2, z3⟩ : TXG gt (400 + 2 * jk) := (gf jk h151)
                      refine lv_iconst (v := 1) hx hb d_Mod_text_154 (by decide) ?_
                      refine lv_goto (tgt := 159) hx hb d_Mod_text_155 (by decide) ?_
                      refine lv_istore hx hb d_Mod_text_159 hl (by decide) rfl (fun ls hl => ?_)
                      have hl : lv_has ls 6 [(5, .int 1), (4, .int (400 + (2 * (nI jk)))), (0, .ref h0), (1, .int (nI jw)), (2, .int (nI jk)), (3, .int i9)] := hl
                      refine lv_iload hx hb d_Mod_text_161 (lv_at hl 0 rfl) ?_
                      refine lv_if_eq (tgt := 201) hx hb d_Mod_text_163 (by decide) (fun h163 => ?_) (fun h163 => ?_)
                      · first | exact absurd h163 (by decide) | exact absurd (by decide) h163
                      · refine lv_iload_n hx hb d_Mod_text_166 rfl (lv_at hl 5 rfl) ?_
                        refine lv_if_lt (tgt := 201) hx hb d_Mod_text_167 (by decide) (fun h167 => ?_) (fun h167 => ?_)
                        · refine lv_bipush (v := 32) hx hb d_Mod_text_201 (by decide) ?_
                          exact tw_zret E hS u3 (by decide) trivial hP hD d_Mod_text_203
                        · obtain ⟨ji, hji, hie⟩ := nI_of h167
                          subst hie
                          refine lv_iload_n hx hb d_Mod_text_170 rfl (lv_at hl 5 rfl) ?_
                          refine lv_aload_n hx hb d_Mod_text_171 rfl (lv_at hl 2 rfl) ?_
                          refine va_get (D := g.1) (ci := 10) (v := .ref (q 55)) (C := R_Mod) (T := F_Mod) (N := 61) hx hb hts in_Mod hown hK hP 0 rfl rfl 55 (by decide) (hts _ wd_1305) (fun _ h9 => h9) rfl d_Mod_text_172 ?_
                          refine lv_iload hx hb d_Mod_text_175 (lv_at hl 1 rfl) ?_
                          refine lv_iconst (v := 1) hx hb d_Mod_text_177 (by decide) ?_
                          refine lv_iadd hx hb d_Mod_text_178 ?_
                          refine tw_ri (e2 := nI ((400 + 2 * jk) + 1)) (by rw [show (400 + (2 * (nI jk))) = nI (400 + 2 * jk) from tx_2 jk]; exact nI_add _ 1) ?_
                          refine va_iald hx hb hK hP 3 0 rfl rfl (vp_in_nI (by omega) (by decide)) d_Mod_text_179 ?_
                          refine tw_ri (e2 := nI lg) (by rw [nI_clamp (by omega)]; exact z2) ?_
                          refine lv_icmp_ge (tgt := 201) hx hb d_Mod_text_180 (by decide) (fun h180 => ?_) (fun h180 => ?_)
                          · refine lv_bipush (v := 32) hx hb d_Mod_text_201 (by decide) ?_
                            exact tw_zret E hS u3 (by decide) trivial hP hD d_Mod_text_203
                          · have h180 := tn_nle h180 (by omega) (by omega)
                            refine lv_aload_n hx hb d_Mod_text_183 rfl (lv_at hl 2 rfl) ?_
                            refine va_get (D := g.1) (ci := 10) (v := .ref (q 53)) (C := R_Mod) (T := F_Mod) (N := 61) hx hb hts in_Mod hown hK hP 0 rfl rfl 53 (by decide) (hts _ wd_1303) (fun _ h9 => h9) rfl d_Mod_text_184 ?_
                            refine lv_aload_n hx hb d_Mod_text_187 rfl (lv_at hl 2 rfl) ?_
                            refine va_get (D := g.1) (ci := 10) (v := .ref (q 55)) (C := R_Mod) (T := F_Mod) (N := 61) hx hb hts in_Mod hown hK hP 0 rfl rfl 55 (by decide) (hts _ wd_1305) (fun _ h9 => h9) rfl d_Mod_text_188 ?_
                            refine lv_iload hx hb d_Mod_text_191 (lv_at hl 1 rfl) ?_
                            refine va_iald hx hb hK hP 3 0 rfl rfl (by rw [show (400 + (2 * (nI jk))) = nI (400 + 2 * jk) from tx_2 jk]; exact vp_in_nI (by omega) (by decide)) d_Mod_text_193 ?_
                            refine tw_ri (e2 := nI pg) (by rw [show (400 + (2 * (nI jk))) = nI (400 + 2 * jk) from tx_2 jk, nI_clamp (by omega)]; exact z1) ?_
                            refine lv_iload_n hx hb d_Mod_text_194 rfl (lv_at hl 5 rfl) ?_
                            refine lv_iadd hx hb d_Mod_text_195 ?_
                            refine tw_ri (e2 := nI (pg + ji)) (nI_add _ _) ?_
                            refine va_iald hx hb hK hP 1 0 rfl rfl (vp_in_nI (by omega) (by decide)) d_Mod_text_196 ?_
                            obtain ⟨x6, ex6⟩ : ∃ z : Int32, gb ((nI (pg + ji)).toNatClampNeg) = z := ⟨_, rfl⟩
                            refine tw_ri (e2 := x6) ex6 ?_
                            refine lv_i2c (v := (x6.toUInt32 % 65536).toInt32) hx hb d_Mod_text_197 rfl ?_
                            refine lv_goto (tgt := 203) hx hb d_Mod_text_198 (by decide) ?_
                            exact tw_zret E hS u3 (tn_char _) trivial hP hD d_Mod_text_203
          · refine lv_iconst (v := 2) hx hb d_Mod_text_49 (by decide) ?_
            refine lv_goto (tgt := 105) hx hb d_Mod_text_50 (by decide) ?_
            refine lv_istore hx hb d_Mod_text_105 hl (by decide) rfl (fun ls hl => ?_)
            have hl : lv_has ls 6 [(4, .int 2), (0, .ref h0), (1, .int (nI jw)), (2, .int k1), (3, .int i9)] := hl
            refine lv_iload_n hx hb d_Mod_text_107 rfl (lv_at hl 2 rfl) ?_
            refine lv_iconst (v := 2) hx hb d_Mod_text_108 (by decide) ?_
            refine lv_icmp_lt (tgt := 154) hx hb d_Mod_text_109 (by decide) (fun h109 => ?_) (fun h109 => ?_)
            · obtain ⟨pg, lg, z1, z2, z3⟩ : TXG gt 2 := g2
              refine lv_iconst (v := 1) hx hb d_Mod_text_154 (by decide) ?_
              refine lv_goto (tgt := 159) hx hb d_Mod_text_155 (by decide) ?_
              refine lv_istore hx hb d_Mod_text_159 hl (by decide) rfl (fun ls hl => ?_)
              have hl : lv_has ls 6 [(5, .int 1), (4, .int 2), (0, .ref h0), (1, .int (nI jw)), (2, .int k1), (3, .int i9)] := hl
              refine lv_iload hx hb d_Mod_text_161 (lv_at hl 0 rfl) ?_
              refine lv_if_eq (tgt := 201) hx hb d_Mod_text_163 (by decide) (fun h163 => ?_) (fun h163 => ?_)
              · first | exact absurd h163 (by decide) | exact absurd (by decide) h163
              · refine lv_iload_n hx hb d_Mod_text_166 rfl (lv_at hl 5 rfl) ?_
                refine lv_if_lt (tgt := 201) hx hb d_Mod_text_167 (by decide) (fun h167 => ?_) (fun h167 => ?_)
                · refine lv_bipush (v := 32) hx hb d_Mod_text_201 (by decide) ?_
                  exact tw_zret E hS u3 (by decide) trivial hP hD d_Mod_text_203
                · obtain ⟨ji, hji, hie⟩ := nI_of h167
                  subst hie
                  refine lv_iload_n hx hb d_Mod_text_170 rfl (lv_at hl 5 rfl) ?_
                  refine lv_aload_n hx hb d_Mod_text_171 rfl (lv_at hl 2 rfl) ?_
                  refine va_get (D := g.1) (ci := 10) (v := .ref (q 55)) (C := R_Mod) (T := F_Mod) (N := 61) hx hb hts in_Mod hown hK hP 0 rfl rfl 55 (by decide) (hts _ wd_1305) (fun _ h9 => h9) rfl d_Mod_text_172 ?_
                  refine lv_iload hx hb d_Mod_text_175 (lv_at hl 1 rfl) ?_
                  refine lv_iconst (v := 1) hx hb d_Mod_text_177 (by decide) ?_
                  refine lv_iadd hx hb d_Mod_text_178 ?_
                  refine tw_ri (e2 := nI (2 + 1)) (by rw [show 2 = nI 2 from rfl]; exact nI_add _ 1) ?_
                  refine va_iald hx hb hK hP 3 0 rfl rfl (vp_in_nI (by omega) (by decide)) d_Mod_text_179 ?_
                  refine tw_ri (e2 := nI lg) (by rw [nI_clamp (by omega)]; exact z2) ?_
                  refine lv_icmp_ge (tgt := 201) hx hb d_Mod_text_180 (by decide) (fun h180 => ?_) (fun h180 => ?_)
                  · refine lv_bipush (v := 32) hx hb d_Mod_text_201 (by decide) ?_
                    exact tw_zret E hS u3 (by decide) trivial hP hD d_Mod_text_203
                  · have h180 := tn_nle h180 (by omega) (by omega)
                    refine lv_aload_n hx hb d_Mod_text_183 rfl (lv_at hl 2 rfl) ?_
                    refine va_get (D := g.1) (ci := 10) (v := .ref (q 53)) (C := R_Mod) (T := F_Mod) (N := 61) hx hb hts in_Mod hown hK hP 0 rfl rfl 53 (by decide) (hts _ wd_1303) (fun _ h9 => h9) rfl d_Mod_text_184 ?_
                    refine lv_aload_n hx hb d_Mod_text_187 rfl (lv_at hl 2 rfl) ?_
                    refine va_get (D := g.1) (ci := 10) (v := .ref (q 55)) (C := R_Mod) (T := F_Mod) (N := 61) hx hb hts in_Mod hown hK hP 0 rfl rfl 55 (by decide) (hts _ wd_1305) (fun _ h9 => h9) rfl d_Mod_text_188 ?_
                    refine lv_iload hx hb d_Mod_text_191 (lv_at hl 1 rfl) ?_
                    refine va_iald hx hb hK hP 3 0 rfl rfl (by rw [show 2 = nI 2 from rfl]; exact vp_in_nI (by omega) (by decide)) d_Mod_text_193 ?_
                    refine tw_ri (e2 := nI pg) (by rw [show 2 = nI 2 from rfl, nI_clamp (by omega)]; exact z1) ?_
                    refine lv_iload_n hx hb d_Mod_text_194 rfl (lv_at hl 5 rfl) ?_
                    refine lv_iadd hx hb d_Mod_text_195 ?_
                    refine tw_ri (e2 := nI (pg + ji)) (nI_add _ _) ?_
                    refine va_iald hx hb hK hP 1 0 rfl rfl (vp_in_nI (by omega) (by decide)) d_Mod_text_196 ?_
                    obtain ⟨x7, ex7⟩ : ∃ z : Int32, gb ((nI (pg + ji)).toNatClampNeg) = z := ⟨_, rfl⟩
                    refine tw_ri (e2 := x7) ex7 ?_
                    refine lv_i2c (v := (x7.toUInt32 % 65536).toInt32) hx hb d_Mod_text_197 rfl ?_
                    refine lv_goto (tgt := 203) hx hb d_Mod_text_198 (by decide) ?_
                    exact tw_zret E hS u3 (tn_char _) trivial hP hD d_Mod_text_203
            · exact absurd (by rw [h46]; decide) h109
        · refine lv_iconst (v := 0) hx hb d_Mod_text_40 (by decide) ?_
          refine lv_goto (tgt := 105) hx hb d_Mod_text_41 (by decide) ?_
          refine lv_istore hx hb d_Mod_text_105 hl (by decide) rfl (fun ls hl => ?_)
          have hl : lv_has ls 6 [(4, .int 0), (0, .ref h0), (1, .int (nI jw)), (2, .int k1), (3, .int i9)] := hl
          refine lv_iload_n hx hb d_Mod_text_107 rfl (lv_at hl 2 rfl) ?_
          refine lv_iconst (v := 2) hx hb d_Mod_text_108 (by decide) ?_
          refine lv_icmp_lt (tgt := 154) hx hb d_Mod_text_109 (by decide) (fun h109 => ?_) (fun h109 => ?_)
          · obtain ⟨pg, lg, z1, z2, z3⟩ : TXG gt 0 := g0
            refine lv_iconst (v := 1) hx hb d_Mod_text_154 (by decide) ?_
            refine lv_goto (tgt := 159) hx hb d_Mod_text_155 (by decide) ?_
            refine lv_istore hx hb d_Mod_text_159 hl (by decide) rfl (fun ls hl => ?_)
            have hl : lv_has ls 6 [(5, .int 1), (4, .int 0), (0, .ref h0), (1, .int (nI jw)), (2, .int k1), (3, .int i9)] := hl
            refine lv_iload hx hb d_Mod_text_161 (lv_at hl 0 rfl) ?_
            refine lv_if_eq (tgt := 201) hx hb d_Mod_text_163 (by decide) (fun h163 => ?_) (fun h163 => ?_)
            · first | exact absurd h163 (by decide) | exact absurd (by decide) h163
            · refine lv_iload_n hx hb d_Mod_text_166 rfl (lv_at hl 5 rfl) ?_
              refine lv_if_lt (tgt := 201) hx hb d_Mod_text_167 (by decide) (fun h167 => ?_) (fun h167 => ?_)
              · refine lv_bipush (v := 32) hx hb d_Mod_text_201 (by decide) ?_
                exact tw_zret E hS u3 (by decide) trivial hP hD d_Mod_text_203
              · obtain ⟨ji, hji, hie⟩ := nI_of h167
                subst hie
                refine lv_iload_n hx hb d_Mod_text_170 rfl (lv_at hl 5 rfl) ?_
                refine lv_aload_n hx hb d_Mod_text_171 rfl (lv_at hl 2 rfl) ?_
                refine va_get (D := g.1) (ci := 10) (v := .ref (q 55)) (C := R_Mod) (T := F_Mod) (N := 61) hx hb hts in_Mod hown hK hP 0 rfl rfl 55 (by decide) (hts _ wd_1305) (fun _ h9 => h9) rfl d_Mod_text_172 ?_
                refine lv_iload hx hb d_Mod_text_175 (lv_at hl 1 rfl) ?_
                refine lv_iconst (v := 1) hx hb d_Mod_text_177 (by decide) ?_
                refine lv_iadd hx hb d_Mod_text_178 ?_
                refine tw_ri (e2 := nI (0 + 1)) (by rw [show 0 = nI 0 from rfl]; exact nI_add _ 1) ?_
                refine va_iald hx hb hK hP 3 0 rfl rfl (vp_in_nI (by omega) (by decide)) d_Mod_text_179 ?_
                refine tw_ri (e2 := nI lg) (by rw [nI_clamp (by omega)]; exact z2) ?_
                refine lv_icmp_ge (tgt := 201) hx hb d_Mod_text_180 (by decide) (fun h180 => ?_) (fun h180 => ?_)
                · refine lv_bipush (v := 32) hx hb d_Mod_text_201 (by decide) ?_
                  exact tw_zret E hS u3 (by decide) trivial hP hD d_Mod_text_203
                · have h180 := tn_nle h180 (by omega) (by omega)
                  refine lv_aload_n hx hb d_Mod_text_183 rfl (lv_at hl 2 rfl) ?_
                  refine va_get (D := g.1) (ci := 10) (v := .ref (q 53)) (C := R_Mod) (T := F_Mod) (N := 61) hx hb hts in_Mod hown hK hP 0 rfl rfl 53 (by decide) (hts _ wd_1303) (fun _ h9 => h9) rfl d_Mod_text_184 ?_
                  refine lv_aload_n hx hb d_Mod_text_187 rfl (lv_at hl 2 rfl) ?_
                  refine va_get (D := g.1) (ci := 10) (v := .ref (q 55)) (C := R_Mod) (T := F_Mod) (N := 61) hx hb hts in_Mod hown hK hP 0 rfl rfl 55 (by decide) (hts _ wd_1305) (fun _ h9 => h9) rfl d_Mod_text_188 ?_
                  refine lv_iload hx hb d_Mod_text_191 (lv_at hl 1 rfl) ?_
                  refine va_iald hx hb hK hP 3 0 rfl rfl (by rw [show 0 = nI 0 from rfl]; exact vp_in_nI (by omega) (by decide)) d_Mod_text_193 ?_
                  refine tw_ri (e2 := nI pg) (by rw [show 0 = nI 0 from rfl, nI_clamp (by omega)]; exact z1) ?_
                  refine lv_iload_n hx hb d_Mod_text_194 rfl (lv_at hl 5 rfl) ?_
                  refine lv_iadd hx hb d_Mod_text_195 ?_
                  refine tw_ri (e2 := nI (pg + ji)) (nI_add _ _) ?_
                  refine va_iald hx hb hK hP 1 0 rfl rfl (vp_in_nI (by omega) (by decide)) d_Mod_text_196 ?_
                  obtain ⟨x8, ex8⟩ : ∃ z : Int32, gb ((nI (pg + ji)).toNatClampNeg) = z := ⟨_, rfl⟩
                  refine tw_ri (e2 := x8) ex8 ?_
                  refine lv_i2c (v := (x8.toUInt32 % 65536).toInt32) hx hb d_Mod_text_197 rfl ?_
                  refine lv_goto (tgt := 203) hx hb d_Mod_text_198 (by decide) ?_
                  exact tw_zret E hS u3 (tn_char _) trivial hP hD d_Mod_text_203
          · exact absurd (by rw [h37]; decide) h109
      · first | exact absurd h30 (by decide) | exact absurd (by decide) h30
    · refine lv_iconst (v := 2) hx hb d_Mod_text_22 (by decide) ?_
      refine lv_goto (tgt := 27) hx hb d_Mod_text_23 (by decide) ?_
      refine tw_wi (wr := [((q 53), aI g 600 gb), ((q 54), aI g 8 to), ((q 55), aI g 1100 gt), ((q 56), aI g 160 gbg), ((q 57), aI g 160 gl), ((q 58), aI g 160 glo), ((q 59), aI g 600 gd)]) (tw_runV (ws := [(h0, .inr (10, mob q rf n mm mb fa fp av ev wi mn tp tc sc nf fd me mp xn mt wh tq ag an ig)), ((q 53), aI g 600 gb), ((q 54), aI g 8 to), ((q 55), aI g 1100 gt), ((q 56), aI g 160 gbg), ((q 57), aI g 160 gl), ((q 58), aI g 160 glo), ((q 59), aI g 600 gd)]) (wc := [(h0, .inr (10, mob q rf n mm mb fa fp av ev wi mn tp tc sc nf fd me mp xn mt wh tq ag an ig))]) (As := [.int 2]) (rest := []) E hB hK hZ (g_Mod_refused l g H.size h0 q n mm mb fa fp av ev wi mn tp tc sc nf fd me mp xn mt wh tq ag an ig rf 2) mc_Mod_refused mi_Mod_refused me_Mod_refused wd_1446 hP hD hS hA [0] rfl (by decide) 0 rfl rfl rfl rfl rfl (by decide) rfl hl.1 rfl (Nat.le_of_ble_eq_true rfl) (by decide) d_Mod_text_27) hP hD hS hA [0] [1, 2, 3, 4, 5, 6, 7] rfl rfl (by decide) (by decide) (fun r9 u10 H locs hr9 hP hD hS => ?_)
      try dsimp only at hr9
      have hP : va_P g.1 classes [((q 53), aI g 600 gb), ((q 54), aI g 8 to), ((q 55), aI g 1100 gt), ((q 56), aI g 160 gbg), ((q 57), aI g 160 gl), ((q 58), aI g 160 glo), ((q 59), aI g 600 gd), (h0, .inr (10, mob q u10 n mm mb fa fp av ev wi mn tp tc sc nf fd me mp xn mt wh tq ag an ig))] H := hP
      have hD : va_D A [((q 53), aI g 600 gb), ((q 54), aI g 8 to), ((q 55), aI g 1100 gt), ((q 56), aI g 160 gbg), ((q 57), aI g 160 gl), ((q 58), aI g 160 glo), ((q 59), aI g 600 gd), (h0, .inr (10, mob q u10 n mm mb fa fp av ev wi mn tp tc sc nf fd me mp xn mt wh tq ag an ig))] := hD
      have hP : va_P g.1 classes [(h0, .inr (10, mob q u10 n mm mb fa fp av ev wi mn tp tc sc nf fd me mp xn mt wh tq ag an ig)), ((q 53), aI g 600 gb), ((q 54), aI g 8 to), ((q 55), aI g 1100 gt), ((q 56), aI g 160 gbg), ((q 57), aI g 160 gl), ((q 58), aI g 160 glo), ((q 59), aI g 600 gd)] H := hP.sub [7, 0, 1, 2, 3, 4, 5, 6] rfl
      have hD : va_D A [(h0, .inr (10, mob q u10 n mm mb fa fp av ev wi mn tp tc sc nf fd me mp xn mt wh tq ag an ig)), ((q 53), aI g 600 gb), ((q 54), aI g 8 to), ((q 55), aI g 1100 gt), ((q 56), aI g 160 gbg), ((q 57), aI g 160 gl), ((q 58), aI g 160 glo), ((q 59), aI g 600 gd)] := hD.sub [7, 0, 1, 2, 3, 4, 5, 6] (by decide) rfl
      obtain ⟨hB10, hp10_0⟩ := hr9
      have hrr27 : r9 = 1 := hB10.2.trans (by decide)
      subst hrr27
      refine lv_if_eq (tgt := 36) hx hb d_Mod_text_30 (by decide) (fun h30 => ?_) (fun h30 => ?_)
      · first | exact absurd h30 (by decide) | exact absurd (by decide) h30
      · refine lv_bipush (v := 32) hx hb d_Mod_text_33 (by decide) ?_
        exact tw_zret E hS u10 (by decide) trivial hP hD d_Mod_text_35
  · refine lv_iconst (v := 1) hx hb d_Mod_text_8 (by decide) ?_
    refine lv_goto (tgt := 27) hx hb d_Mod_text_9 (by decide) ?_
    refine tw_wi (wr := [((q 53), aI g 600 gb), ((q 54), aI g 8 to), ((q 55), aI g 1100 gt), ((q 56), aI g 160 gbg), ((q 57), aI g 160 gl), ((q 58), aI g 160 glo), ((q 59), aI g 600 gd)]) (tw_runV (ws := [(h0, .inr (10, mob q rf n mm mb fa fp av ev wi mn tp tc sc nf fd me mp xn mt wh tq ag an ig)), ((q 53), aI g 600 gb), ((q 54), aI g 8 to), ((q 55), aI g 1100 gt), ((q 56), aI g 160 gbg), ((q 57), aI g 160 gl), ((q 58), aI g 160 glo), ((q 59), aI g 600 gd)]) (wc := [(h0, .inr (10, mob q rf n mm mb fa fp av ev wi mn tp tc sc nf fd me mp xn mt wh tq ag an ig))]) (As := [.int 1]) (rest := []) E hB hK hZ (g_Mod_refused l g H.size h0 q n mm mb fa fp av ev wi mn tp tc sc nf fd me mp xn mt wh tq ag an ig rf 1) mc_Mod_refused mi_Mod_refused me_Mod_refused wd_1446 hP hD hS hA [0] rfl (by decide) 0 rfl rfl rfl rfl rfl (by decide) rfl hl.1 rfl (Nat.le_of_ble_eq_true rfl) (by decide) d_Mod_text_27) hP hD hS hA [0] [1, 2, 3, 4, 5, 6, 7] rfl rfl (by decide) (by decide) (fun r11 u12 H locs hr11 hP hD hS => ?_)
    try dsimp only at hr11
    have hP : va_P g.1 classes [((q 53), aI g 600 gb), ((q 54), aI g 8 to), ((q 55), aI g 1100 gt), ((q 56), aI g 160 gbg), ((q 57), aI g 160 gl), ((q 58), aI g 160 glo), ((q 59), aI g 600 gd), (h0, .inr (10, mob q u12 n mm mb fa fp av ev wi mn tp tc sc nf fd me mp xn mt wh tq ag an ig))] H := hP
    have hD : va_D A [((q 53), aI g 600 gb), ((q 54), aI g 8 to), ((q 55), aI g 1100 gt), ((q 56), aI g 160 gbg), ((q 57), aI g 160 gl), ((q 58), aI g 160 glo), ((q 59), aI g 600 gd), (h0, .inr (10, mob q u12 n mm mb fa fp av ev wi mn tp tc sc nf fd me mp xn mt wh tq ag an ig))] := hD
    have hP : va_P g.1 classes [(h0, .inr (10, mob q u12 n mm mb fa fp av ev wi mn tp tc sc nf fd me mp xn mt wh tq ag an ig)), ((q 53), aI g 600 gb), ((q 54), aI g 8 to), ((q 55), aI g 1100 gt), ((q 56), aI g 160 gbg), ((q 57), aI g 160 gl), ((q 58), aI g 160 glo), ((q 59), aI g 600 gd)] H := hP.sub [7, 0, 1, 2, 3, 4, 5, 6] rfl
    have hD : va_D A [(h0, .inr (10, mob q u12 n mm mb fa fp av ev wi mn tp tc sc nf fd me mp xn mt wh tq ag an ig)), ((q 53), aI g 600 gb), ((q 54), aI g 8 to), ((q 55), aI g 1100 gt), ((q 56), aI g 160 gbg), ((q 57), aI g 160 gl), ((q 58), aI g 160 glo), ((q 59), aI g 600 gd)] := hD.sub [7, 0, 1, 2, 3, 4, 5, 6] (by decide) rfl
    obtain ⟨hB12, hp12_0⟩ := hr11
    have hrr27 : r11 = 1 := hB12.2.trans (by decide)
    subst hrr27
    refine lv_if_eq (tgt := 36) hx hb d_Mod_text_30 (by decide) (fun h30 => ?_) (fun h30 => ?_)
    · first | exact absurd h30 (by decide) | exact absurd (by decide) h30
    · refine lv_bipush (v := 32) hx hb d_Mod_text_33 (by decide) ?_
      exact tw_zret E hS u12 (by decide) trivial hP hD d_Mod_text_35
set_option maxHeartbeats 4000000 in
set_option maxRecDepth 100000 in
theorem g_Mod_frameAt (l : Launch) (g : tw_G) (sz : Nat) (h0 : Nat) (q : Nat → Nat) (rf : Int32) (n : Nat) (mm : Int32) (mb : Int32) (fa : Int32) (fp : Int32) (av : Nat) (ev : Nat) (wi : Int32) (mn : Nat) (tp : Int32) (tc : Int32) (sc : Int32) (nf : Nat) (fd : Nat) (me : Nat) (mp : Int32) (xn : Nat) (mt : Nat) (wh : Nat) (tq : Nat) (ag : Nat) (an : Int32) (ig : Int32) (to : Nat → Int32) (gbg : Nat → Int32) (gl : Nat → Int32) (glo : Nat → Int32) (gd : Nat → Int32) (m1 : Int32) (y1 : Int32) (c1 c2 c3 : Nat) (hT : T3 to c1 c2 c3) (hgm : ∀ j, j < c3 → GME gbg gl glo j) (hc3 : c3 ≤ 75) (hgd : GDD gd) : Met l y_Mod_frameAt [.code y_Mod_frameAt b_Mod_frameAt 4 (some .int)] ({ frames := 0, cells := 0, slots := 0, locals := 0 }) (tw_P g [.ref h0, .int m1, .int y1] [(h0, .inr (10, mob q rf n mm mb fa fp av ev wi mn tp tc sc nf fd me mp xn mt wh tq ag an ig)), ((q 54), aI g 8 to), ((q 56), aI g 160 gbg), ((q 57), aI g 160 gl), ((q 58), aI g 160 glo), ((q 59), aI g 600 gd)] sz) (vp_Si (fun (r : Int32) => r = -1 ∨ ∃ jm p o, m1 = nI jm ∧ jm < c3 ∧ r = nI p ∧ p < 600 ∧ glo jm = nI o ∧ o ≤ 64 ∧ ∃ d, d ≤ 64 ∧ gd p = nI d)) 0 0 (fun _ => False) := by
  refine tw_met (l := l) (g := g) (y := y_Mod_frameAt) (cc := b_Mod_frameAt) (maxL := 4) (ret := (some .int)) (rm := { frames := 0, cells := 0, slots := 0, locals := 0 }) (mc := 0) (ms := 0) (av := [.ref h0, .int m1, .int y1]) (ws := [(h0, .inr (10, mob q rf n mm mb fa fp av ev wi mn tp tc sc nf fd me mp xn mt wh tq ag an ig)), ((q 54), aI g 8 to), ((q 56), aI g 160 gbg), ((q 57), aI g 160 gl), ((q 58), aI g 160 glo), ((q 59), aI g 600 gd)]) (sz := sz) (Qc := fun _ => (vp_Si (fun (r : Int32) => r = -1 ∨ ∃ jm p o, m1 = nI jm ∧ jm < c3 ∧ r = nI p ∧ p < 600 ∧ glo jm = nI o ∧ o ≤ 64 ∧ ∃ d, d ≤ 64 ∧ gd p = nI d))) (free := fun _ _ => False) (by decide) (Nat.le_of_ble_eq_true rfl) ?_
  intro p e s m below meth c ls A E hB hK hZ hP hD hS hA hl
  obtain ⟨hx, hb, hml, hr, hown, hts, hlocks, hin⟩ := id E
  have hl : lv_has ls 4 [(0, .ref h0), (1, .int m1), (2, .int y1)] := hl
  refine lv_iload_n hx hb d_Mod_frameAt_0 rfl (lv_at hl 1 rfl) ?_
  refine lv_if_lt (tgt := 32) hx hb d_Mod_frameAt_1 (by decide) (fun h1 => ?_) (fun h1 => ?_)
  · refine lv_iconst (v := 0) hx hb d_Mod_frameAt_32 (by decide) ?_
    refine lv_istore_n hx hb d_Mod_frameAt_33 rfl hl (by decide) rfl (fun ls hl => ?_)
    have hl : lv_has ls 4 [(3, .int 0), (0, .ref h0), (1, .int m1), (2, .int y1)] := hl
    refine lv_iload_n hx hb d_Mod_frameAt_34 rfl (lv_at hl 0 rfl) ?_
    refine lv_if_eq (tgt := 65) hx hb d_Mod_frameAt_35 (by decide) (fun h35 => ?_) (fun h35 => ?_)
    · refine lv_iconst (v := (-1)) hx hb d_Mod_frameAt_65 (by decide) ?_
      exact tw_isret E (Or.inl rfl) d_Mod_frameAt_66
    · first | exact absurd h35 (by decide) | exact absurd (by decide) h35
  · obtain ⟨jm, hjm, hme⟩ := nI_of h1
    subst hme
    refine lv_iload_n hx hb d_Mod_frameAt_4 rfl (lv_at hl 1 rfl) ?_
    refine lv_aload_n hx hb d_Mod_frameAt_5 rfl (lv_at hl 0 rfl) ?_
    refine va_get (D := g.1) (ci := 10) (v := .ref (q 54)) (C := R_Mod) (T := F_Mod) (N := 61) hx hb hts in_Mod hown hK hP 0 rfl rfl 54 (by decide) (hts _ wd_1304) (fun _ h9 => h9) rfl d_Mod_frameAt_6 ?_
    refine lv_iconst (v := 3) hx hb d_Mod_frameAt_9 (by decide) ?_
    refine va_iald hx hb hK hP 1 0 rfl rfl (vp_in_nI (n := 3) (by decide) (by decide)) d_Mod_frameAt_10 ?_
    refine tw_ri (e2 := nI c3) hT.2.2 ?_
    refine lv_icmp_ge (tgt := 32) hx hb d_Mod_frameAt_11 (by decide) (fun h11 => ?_) (fun h11 => ?_)
    · refine lv_iconst (v := 0) hx hb d_Mod_frameAt_32 (by decide) ?_
      refine lv_istore_n hx hb d_Mod_frameAt_33 rfl hl (by decide) rfl (fun ls hl => ?_)
      have hl : lv_has ls 4 [(3, .int 0), (0, .ref h0), (1, .int (nI jm)), (2, .int y1)] := hl
      refine lv_iload_n hx hb d_Mod_frameAt_34 rfl (lv_at hl 0 rfl) ?_
      refine lv_if_eq (tgt := 65) hx hb d_Mod_frameAt_35 (by decide) (fun h35 => ?_) (fun h35 => ?_)
      · refine lv_iconst (v := (-1)) hx hb d_Mod_frameAt_65 (by decide) ?_
        exact tw_isret E (Or.inl rfl) d_Mod_frameAt_66
      · first | exact absurd h35 (by decide) | exact absurd (by decide) h35
    · have h11 := tn_nle h11 (by omega) (by omega)
      refine lv_iload_n hx hb d_Mod_frameAt_14 rfl (lv_at hl 2 rfl) ?_
      refine lv_if_lt (tgt := 32) hx hb d_Mod_frameAt_15 (by decide) (fun h15 => ?_) (fun h15 => ?_)
      · refine lv_iconst (v := 0) hx hb d_Mod_frameAt_32 (by decide) ?_
        refine lv_istore_n hx hb d_Mod_frameAt_33 rfl hl (by decide) rfl (fun ls hl => ?_)
        have hl : lv_has ls 4 [(3, .int 0), (0, .ref h0), (1, .int (nI jm)), (2, .int y1)] := hl
        refine lv_iload_n hx hb d_Mod_frameAt_34 rfl (lv_at hl 0 rfl) ?_
        refine lv_if_eq (tgt := 65) hx hb d_Mod_frameAt_35 (by decide) (fun h35 => ?_) (fun h35 => ?_)
        · refine lv_iconst (v := (-1)) hx hb d_Mod_frameAt_65 (by decide) ?_
          exact tw_isret E (Or.inl rfl) d_Mod_frameAt_66
        · first | exact absurd h35 (by decide) | exact absurd (by decide) h35
      · obtain ⟨jb, hjb, hbe⟩ := nI_of h15
        subst hbe
        refine lv_iload_n hx hb d_Mod_frameAt_18 rfl (lv_at hl 2 rfl) ?_
        refine lv_aload_n hx hb d_Mod_frameAt_19 rfl (lv_at hl 0 rfl) ?_
        refine va_get (D := g.1) (ci := 10) (v := .ref (q 57)) (C := R_Mod) (T := F_Mod) (N := 61) hx hb hts in_Mod hown hK hP 0 rfl rfl 57 (by decide) (hts _ wd_1307) (fun _ h9 => h9) rfl d_Mod_frameAt_20 ?_
        refine lv_iload_n hx hb d_Mod_frameAt_23 rfl (lv_at hl 1 rfl) ?_
        refine va_iald hx hb hK hP 3 0 rfl rfl (vp_in_nI (by omega) (by decide)) d_Mod_frameAt_24 ?_
        refine tw_ri (e2 := gl jm) (by rw [nI_clamp (by omega)]) ?_
        refine lv_icmp_ge (tgt := 32) hx hb d_Mod_frameAt_25 (by decide) (fun h25 => ?_) (fun h25 => ?_)
        · refine lv_iconst (v := 0) hx hb d_Mod_frameAt_32 (by decide) ?_
          refine lv_istore_n hx hb d_Mod_frameAt_33 rfl hl (by decide) rfl (fun ls hl => ?_)
          have hl : lv_has ls 4 [(3, .int 0), (0, .ref h0), (1, .int (nI jm)), (2, .int (nI jb))] := hl
          refine lv_iload_n hx hb d_Mod_frameAt_34 rfl (lv_at hl 0 rfl) ?_
          refine lv_if_eq (tgt := 65) hx hb d_Mod_frameAt_35 (by decide) (fun h35 => ?_) (fun h35 => ?_)
          · refine lv_iconst (v := (-1)) hx hb d_Mod_frameAt_65 (by decide) ?_
            exact tw_isret E (Or.inl rfl) d_Mod_frameAt_66
          · first | exact absurd h35 (by decide) | exact absurd (by decide) h35
        · obtain ⟨b9, l9, o9, e1, e2, e3, e4, e5, e6⟩ := gme_ne (hgm jm h11) h25 hjb
          refine lv_iconst (v := 1) hx hb d_Mod_frameAt_28 (by decide) ?_
          refine lv_goto (tgt := 33) hx hb d_Mod_frameAt_29 (by decide) ?_
          refine lv_istore_n hx hb d_Mod_frameAt_33 rfl hl (by decide) rfl (fun ls hl => ?_)
          have hl : lv_has ls 4 [(3, .int 1), (0, .ref h0), (1, .int (nI jm)), (2, .int (nI jb))] := hl
          refine lv_iload_n hx hb d_Mod_frameAt_34 rfl (lv_at hl 0 rfl) ?_
          refine lv_if_eq (tgt := 65) hx hb d_Mod_frameAt_35 (by decide) (fun h35 => ?_) (fun h35 => ?_)
          · first | exact absurd h35 (by decide) | exact absurd (by decide) h35
          · refine lv_aload_n hx hb d_Mod_frameAt_38 rfl (lv_at hl 1 rfl) ?_
            refine va_get (D := g.1) (ci := 10) (v := .ref (q 59)) (C := R_Mod) (T := F_Mod) (N := 61) hx hb hts in_Mod hown hK hP 0 rfl rfl 59 (by decide) (hts _ wd_1309) (fun _ h9 => h9) rfl d_Mod_frameAt_39 ?_
            refine lv_aload_n hx hb d_Mod_frameAt_42 rfl (lv_at hl 1 rfl) ?_
            refine va_get (D := g.1) (ci := 10) (v := .ref (q 56)) (C := R_Mod) (T := F_Mod) (N := 61) hx hb hts in_Mod hown hK hP 0 rfl rfl 56 (by decide) (hts _ wd_1306) (fun _ h9 => h9) rfl d_Mod_frameAt_43 ?_
            refine lv_iload_n hx hb d_Mod_frameAt_46 rfl (lv_at hl 2 rfl) ?_
            refine va_iald hx hb hK hP 2 0 rfl rfl (vp_in_nI (by omega) (by decide)) d_Mod_frameAt_47 ?_
            refine tw_ri (e2 := nI b9) (by rw [nI_clamp (by omega)]; exact e1) ?_
            refine lv_iload_n hx hb d_Mod_frameAt_48 rfl (lv_at hl 3 rfl) ?_
            refine lv_iadd hx hb d_Mod_frameAt_49 ?_
            refine tw_ri (e2 := nI (b9 + jb)) (nI_add _ _) ?_
            refine va_iald hx hb hK hP 5 0 rfl rfl (vp_in_nI (by omega) (by decide)) d_Mod_frameAt_50 ?_
            refine tw_ri (e2 := gd (b9 + jb)) (by rw [nI_clamp (by omega)]) ?_
            refine lv_if_lt (tgt := 65) hx hb d_Mod_frameAt_51 (by decide) (fun h51 => ?_) (fun h51 => ?_)
            · refine lv_iconst (v := (-1)) hx hb d_Mod_frameAt_65 (by decide) ?_
              exact tw_isret E (Or.inl rfl) d_Mod_frameAt_66
            · refine lv_aload_n hx hb d_Mod_frameAt_54 rfl (lv_at hl 1 rfl) ?_
              refine va_get (D := g.1) (ci := 10) (v := .ref (q 56)) (C := R_Mod) (T := F_Mod) (N := 61) hx hb hts in_Mod hown hK hP 0 rfl rfl 56 (by decide) (hts _ wd_1306) (fun _ h9 => h9) rfl d_Mod_frameAt_55 ?_
              refine lv_iload_n hx hb d_Mod_frameAt_58 rfl (lv_at hl 2 rfl) ?_
              refine va_iald hx hb hK hP 2 0 rfl rfl (vp_in_nI (by omega) (by decide)) d_Mod_frameAt_59 ?_
              refine tw_ri (e2 := nI b9) (by rw [nI_clamp (by omega)]; exact e1) ?_
              refine lv_iload_n hx hb d_Mod_frameAt_60 rfl (lv_at hl 3 rfl) ?_
              refine lv_iadd hx hb d_Mod_frameAt_61 ?_
              refine tw_ri (e2 := nI (b9 + jb)) (nI_add _ _) ?_
              refine lv_goto (tgt := 66) hx hb d_Mod_frameAt_62 (by decide) ?_
              exact tw_isret E (Or.inr ⟨jm, b9 + jb, o9, rfl, h11, rfl, by omega, e4, e5, gdd_ge hgd (by omega) h51⟩) d_Mod_frameAt_66
set_option maxHeartbeats 4000000 in
set_option maxRecDepth 100000 in
theorem g_Mod_depth (l : Launch) (g : tw_G) (sz : Nat) (h0 : Nat) (q : Nat → Nat) (n : Nat) (mm : Int32) (mb : Int32) (fa : Int32) (fp : Int32) (av : Nat) (ev : Nat) (wi : Int32) (mn : Nat) (tp : Int32) (tc : Int32) (sc : Int32) (nf : Nat) (fd : Nat) (me : Nat) (mp : Int32) (xn : Nat) (mt : Nat) (wh : Nat) (tq : Nat) (ag : Nat) (an : Int32) (ig : Int32) (to : Nat → Int32) (gt : Nat → Int32) (gbg : Nat → Int32) (gl : Nat → Int32) (glo : Nat → Int32) (gd : Nat → Int32) (rf : Int32) (m1 : Int32) (y1 : Int32) (hGZ : ig = 0 ∨ GOK to gt gbg gl glo gd) : Met l y_Mod_depth [.code y_Mod_depth b_Mod_depth 4 (some .int)] ({ frames := 1, cells := 0, slots := 0, locals := 23 }) (tw_P g [.ref h0, .int m1, .int y1] [(h0, .inr (10, mob q rf n mm mb fa fp av ev wi mn tp tc sc nf fd me mp xn mt wh tq ag an ig)), ((q 54), aI g 8 to), ((q 55), aI g 1100 gt), ((q 56), aI g 160 gbg), ((q 57), aI g 160 gl), ((q 58), aI g 160 glo), ((q 59), aI g 600 gd)] sz) (tw_Qi g (fun (r : Int32) (u : Int32) => True) (fun u : Int32 => [(h0, .inr (10, mob q u n mm mb fa fp av ev wi mn tp tc sc nf fd me mp xn mt wh tq ag an ig)), ((q 54), aI g 8 to), ((q 55), aI g 1100 gt), ((q 56), aI g 160 gbg), ((q 57), aI g 160 gl), ((q 58), aI g 160 glo), ((q 59), aI g 600 gd)]) (va_A [(h0, .inr (10, mob q rf n mm mb fa fp av ev wi mn tp tc sc nf fd me mp xn mt wh tq ag an ig)), ((q 54), aI g 8 to), ((q 55), aI g 1100 gt), ((q 56), aI g 160 gbg), ((q 57), aI g 160 gl), ((q 58), aI g 160 glo), ((q 59), aI g 600 gd)] sz)) 0 0 (va_A [(h0, .inr (10, mob q rf n mm mb fa fp av ev wi mn tp tc sc nf fd me mp xn mt wh tq ag an ig)), ((q 54), aI g 8 to), ((q 55), aI g 1100 gt), ((q 56), aI g 160 gbg), ((q 57), aI g 160 gl), ((q 58), aI g 160 glo), ((q 59), aI g 600 gd)] sz) := by
  refine tw_metW (l := l) (g := g) (y := y_Mod_depth) (cc := b_Mod_depth) (maxL := 4) (ret := (some .int)) (rm := { frames := 1, cells := 0, slots := 0, locals := 23 }) (mc := 0) (ms := 0) (av := [.ref h0, .int m1, .int y1]) (ws := [(h0, .inr (10, mob q rf n mm mb fa fp av ev wi mn tp tc sc nf fd me mp xn mt wh tq ag an ig)), ((q 54), aI g 8 to), ((q 55), aI g 1100 gt), ((q 56), aI g 160 gbg), ((q 57), aI g 160 gl), ((q 58), aI g 160 glo), ((q 59), aI g 600 gd)]) (sz := sz) (Qc := fun A => (tw_Qi g (fun (r : Int32) (u : Int32) => True) (fun u : Int32 => [(h0, .inr (10, mob q u n mm mb fa fp av ev wi mn tp tc sc nf fd me mp xn mt wh tq ag an ig)), ((q 54), aI g 8 to), ((q 55), aI g 1100 gt), ((q 56), aI g 160 gbg), ((q 57), aI g 160 gl), ((q 58), aI g 160 glo), ((q 59), aI g 600 gd)]) A)) (by decide) (Nat.le_of_ble_eq_true rfl) ?_
  intro p e s m below meth c ls H A E hB hK hZ hP hD hS hA hl
  obtain ⟨hx, hb, hml, hr, hown, hts, hlocks, hin⟩ := id E
  have hl : lv_has ls 4 [(0, .ref h0), (1, .int m1), (2, .int y1)] := hl
  refine lv_aload_n hx hb d_Mod_depth_0 rfl (lv_at hl 0 rfl) ?_
  refine lv_aload_n hx hb d_Mod_depth_1 rfl (lv_at hl 0 rfl) ?_
  refine va_get (D := g.1) (ci := 10) (v := .int ig) (C := R_Mod) (T := F_Mod) (N := 61) hx hb hts in_Mod hown hK hP 0 rfl rfl 52 (by decide) (hts _ wd_1302) (fun _ h9 => h9) rfl d_Mod_depth_2 ?_
  refine lv_if_eq (tgt := 12) hx hb d_Mod_depth_5 (by decide) (fun h5 => ?_) (fun h5 => ?_)
  · refine lv_iconst (v := 1) hx hb d_Mod_depth_12 (by decide) ?_
    refine tw_wi (wr := [((q 54), aI g 8 to), ((q 55), aI g 1100 gt), ((q 56), aI g 160 gbg), ((q 57), aI g 160 gl), ((q 58), aI g 160 glo), ((q 59), aI g 600 gd)]) (tw_runV (ws := [(h0, .inr (10, mob q rf n mm mb fa fp av ev wi mn tp tc sc nf fd me mp xn mt wh tq ag an ig)), ((q 54), aI g 8 to), ((q 55), aI g 1100 gt), ((q 56), aI g 160 gbg), ((q 57), aI g 160 gl), ((q 58), aI g 160 glo), ((q 59), aI g 600 gd)]) (wc := [(h0, .inr (10, mob q rf n mm mb fa fp av ev wi mn tp tc sc nf fd me mp xn mt wh tq ag an ig))]) (As := [.int 1]) (rest := []) E hB hK hZ (g_Mod_refused l g H.size h0 q n mm mb fa fp av ev wi mn tp tc sc nf fd me mp xn mt wh tq ag an ig rf 1) mc_Mod_refused mi_Mod_refused me_Mod_refused wd_1446 hP hD hS hA [0] rfl (by decide) 0 rfl rfl rfl rfl rfl (by decide) rfl hl.1 rfl (Nat.le_of_ble_eq_true rfl) (by decide) d_Mod_depth_13) hP hD hS hA [0] [1, 2, 3, 4, 5, 6] rfl rfl (by decide) (by decide) (fun r1 u2 H locs hr1 hP hD hS => ?_)
    try dsimp only at hr1
    have hP : va_P g.1 classes [((q 54), aI g 8 to), ((q 55), aI g 1100 gt), ((q 56), aI g 160 gbg), ((q 57), aI g 160 gl), ((q 58), aI g 160 glo), ((q 59), aI g 600 gd), (h0, .inr (10, mob q u2 n mm mb fa fp av ev wi mn tp tc sc nf fd me mp xn mt wh tq ag an ig))] H := hP
    have hD : va_D A [((q 54), aI g 8 to), ((q 55), aI g 1100 gt), ((q 56), aI g 160 gbg), ((q 57), aI g 160 gl), ((q 58), aI g 160 glo), ((q 59), aI g 600 gd), (h0, .inr (10, mob q u2 n mm mb fa fp av ev wi mn tp tc sc nf fd me mp xn mt wh tq ag an ig))] := hD
    have hP : va_P g.1 classes [(h0, .inr (10, mob q u2 n mm mb fa fp av ev wi mn tp tc sc nf fd me mp xn mt wh tq ag an ig)), ((q 54), aI g 8 to), ((q 55), aI g 1100 gt), ((q 56), aI g 160 gbg), ((q 57), aI g 160 gl), ((q 58), aI g 160 glo), ((q 59), aI g 600 gd)] H := hP.sub [6, 0, 1, 2, 3, 4, 5] rfl
    have hD : va_D A [(h0, .inr (10, mob q u2 n mm mb fa fp av ev wi mn tp tc sc nf fd me mp xn mt wh tq ag an ig)), ((q 54), aI g 8 to), ((q 55), aI g 1100 gt), ((q 56), aI g 160 gbg), ((q 57), aI g 160 gl), ((q 58), aI g 160 glo), ((q 59), aI g 600 gd)] := hD.sub [6, 0, 1, 2, 3, 4, 5] (by decide) rfl
    obtain ⟨hB2, hp2_0⟩ := hr1
    have hrr13 : r1 = 1 := hB2.2.trans (by decide)
    subst hrr13
    refine lv_if_eq (tgt := 21) hx hb d_Mod_depth_16 (by decide) (fun h16 => ?_) (fun h16 => ?_)
    · first | exact absurd h16 (by decide) | exact absurd (by decide) h16
    · refine lv_iconst (v := 0) hx hb d_Mod_depth_19 (by decide) ?_
      exact tw_iret E hS u2 trivial hP hD d_Mod_depth_20
  · obtain ⟨c1, c2, c3, gc1, gc2, gT, g0, g2, gm, gf, gk_, gd_⟩ := hGZ.resolve_left h5
    refine lv_iconst (v := 0) hx hb d_Mod_depth_8 (by decide) ?_
    refine lv_goto (tgt := 13) hx hb d_Mod_depth_9 (by decide) ?_
    refine tw_wi (wr := [((q 54), aI g 8 to), ((q 55), aI g 1100 gt), ((q 56), aI g 160 gbg), ((q 57), aI g 160 gl), ((q 58), aI g 160 glo), ((q 59), aI g 600 gd)]) (tw_runV (ws := [(h0, .inr (10, mob q rf n mm mb fa fp av ev wi mn tp tc sc nf fd me mp xn mt wh tq ag an ig)), ((q 54), aI g 8 to), ((q 55), aI g 1100 gt), ((q 56), aI g 160 gbg), ((q 57), aI g 160 gl), ((q 58), aI g 160 glo), ((q 59), aI g 600 gd)]) (wc := [(h0, .inr (10, mob q rf n mm mb fa fp av ev wi mn tp tc sc nf fd me mp xn mt wh tq ag an ig))]) (As := [.int 0]) (rest := []) E hB hK hZ (g_Mod_refused l g H.size h0 q n mm mb fa fp av ev wi mn tp tc sc nf fd me mp xn mt wh tq ag an ig rf 0) mc_Mod_refused mi_Mod_refused me_Mod_refused wd_1446 hP hD hS hA [0] rfl (by decide) 0 rfl rfl rfl rfl rfl (by decide) rfl hl.1 rfl (Nat.le_of_ble_eq_true rfl) (by decide) d_Mod_depth_13) hP hD hS hA [0] [1, 2, 3, 4, 5, 6] rfl rfl (by decide) (by decide) (fun r3 u4 H locs hr3 hP hD hS => ?_)
    try dsimp only at hr3
    have hP : va_P g.1 classes [((q 54), aI g 8 to), ((q 55), aI g 1100 gt), ((q 56), aI g 160 gbg), ((q 57), aI g 160 gl), ((q 58), aI g 160 glo), ((q 59), aI g 600 gd), (h0, .inr (10, mob q u4 n mm mb fa fp av ev wi mn tp tc sc nf fd me mp xn mt wh tq ag an ig))] H := hP
    have hD : va_D A [((q 54), aI g 8 to), ((q 55), aI g 1100 gt), ((q 56), aI g 160 gbg), ((q 57), aI g 160 gl), ((q 58), aI g 160 glo), ((q 59), aI g 600 gd), (h0, .inr (10, mob q u4 n mm mb fa fp av ev wi mn tp tc sc nf fd me mp xn mt wh tq ag an ig))] := hD
    have hP : va_P g.1 classes [(h0, .inr (10, mob q u4 n mm mb fa fp av ev wi mn tp tc sc nf fd me mp xn mt wh tq ag an ig)), ((q 54), aI g 8 to), ((q 55), aI g 1100 gt), ((q 56), aI g 160 gbg), ((q 57), aI g 160 gl), ((q 58), aI g 160 glo), ((q 59), aI g 600 gd)] H := hP.sub [6, 0, 1, 2, 3, 4, 5] rfl
    have hD : va_D A [(h0, .inr (10, mob q u4 n mm mb fa fp av ev wi mn tp tc sc nf fd me mp xn mt wh tq ag an ig)), ((q 54), aI g 8 to), ((q 55), aI g 1100 gt), ((q 56), aI g 160 gbg), ((q 57), aI g 160 gl), ((q 58), aI g 160 glo), ((q 59), aI g 600 gd)] := hD.sub [6, 0, 1, 2, 3, 4, 5] (by decide) rfl
    obtain ⟨hB4, hp4_0⟩ := hr3
    have hrr13 : r3 = 0 := hB4.2.trans (by decide)
    subst hrr13
    refine lv_if_eq (tgt := 21) hx hb d_Mod_depth_16 (by decide) (fun h16 => ?_) (fun h16 => ?_)
    · refine lv_aload_n hx hb d_Mod_depth_21 rfl (lv_at hl 0 rfl) ?_
      refine lv_iload_n hx hb d_Mod_depth_22 rfl (lv_at hl 1 rfl) ?_
      refine lv_iload_n hx hb d_Mod_depth_23 rfl (lv_at hl 2 rfl) ?_
      refine tw_si (tw_runV (ws := [(h0, .inr (10, mob q u4 n mm mb fa fp av ev wi mn tp tc sc nf fd me mp xn mt wh tq ag an ig)), ((q 54), aI g 8 to), ((q 55), aI g 1100 gt), ((q 56), aI g 160 gbg), ((q 57), aI g 160 gl), ((q 58), aI g 160 glo), ((q 59), aI g 600 gd)]) (wc := [(h0, .inr (10, mob q u4 n mm mb fa fp av ev wi mn tp tc sc nf fd me mp xn mt wh tq ag an ig)), ((q 54), aI g 8 to), ((q 56), aI g 160 gbg), ((q 57), aI g 160 gl), ((q 58), aI g 160 glo), ((q 59), aI g 600 gd)]) (As := [.int m1, .int y1]) (rest := []) E hB hK hZ (g_Mod_frameAt l g H.size h0 q u4 n mm mb fa fp av ev wi mn tp tc sc nf fd me mp xn mt wh tq ag an ig to gbg gl glo gd m1 y1 c1 c2 c3 gT gk_ (by omega) gd_) mc_Mod_frameAt mi_Mod_frameAt me_Mod_frameAt wd_1744 hP hD hS hA [0, 1, 3, 4, 5, 6] rfl (by decide) 0 rfl rfl rfl rfl rfl (by decide) rfl hl.1 rfl (Nat.le_of_ble_eq_true rfl) (by decide) d_Mod_depth_24) (fun r5 hr5 => ?_)
      have hB5 := hr5
      refine lv_istore_n hx hb d_Mod_depth_27 rfl hl (by decide) rfl (fun ls hl => ?_)
      have hl : lv_has ls 4 [(3, .int r5), (0, .ref h0), (1, .int m1), (2, .int y1)] := hl
      refine lv_iload_n hx hb d_Mod_depth_28 rfl (lv_at hl 0 rfl) ?_
      refine lv_if_ge (tgt := 36) hx hb d_Mod_depth_29 (by decide) (fun h29 => ?_) (fun h29 => ?_)
      · obtain ⟨jm, p9, o9, f1_, f2_, f3_, f4_, f5_, f6_, d9, f7_, f8_⟩ := hB5.resolve_left (fun e9 => absurd (by rw [e9] at h29; exact h29) (by decide))
        subst f3_
        refine lv_aload_n hx hb d_Mod_depth_36 rfl (lv_at hl 1 rfl) ?_
        refine va_get (D := g.1) (ci := 10) (v := .ref (q 59)) (C := R_Mod) (T := F_Mod) (N := 61) hx hb hts in_Mod hown hK hP 0 rfl rfl 59 (by decide) (hts _ wd_1309) (fun _ h9 => h9) rfl d_Mod_depth_37 ?_
        refine lv_iload_n hx hb d_Mod_depth_40 rfl (lv_at hl 0 rfl) ?_
        refine va_iald hx hb hK hP 6 0 rfl rfl (vp_in_nI (by omega) (by decide)) d_Mod_depth_41 ?_
        obtain ⟨x6, ex6⟩ : ∃ z : Int32, gd ((nI p9).toNatClampNeg) = z := ⟨_, rfl⟩
        refine tw_ri (e2 := x6) ex6 ?_
        exact tw_iret E hS u4 trivial hP hD d_Mod_depth_42
      · refine lv_iconst (v := (-1)) hx hb d_Mod_depth_32 (by decide) ?_
        refine lv_goto (tgt := 42) hx hb d_Mod_depth_33 (by decide) ?_
        exact tw_iret E hS u4 trivial hP hD d_Mod_depth_42
    · first | exact absurd h16 (by decide) | exact absurd (by decide) h16
set_option maxHeartbeats 4000000 in
set_option maxRecDepth 100000 in
theorem g_Mod_kind (l : Launch) (g : tw_G) (sz : Nat) (h0 : Nat) (q : Nat → Nat) (n : Nat) (mm : Int32) (mb : Int32) (fa : Int32) (fp : Int32) (av : Nat) (ev : Nat) (wi : Int32) (mn : Nat) (tp : Int32) (tc : Int32) (sc : Int32) (nf : Nat) (fd : Nat) (me : Nat) (mp : Int32) (xn : Nat) (mt : Nat) (wh : Nat) (tq : Nat) (ag : Nat) (an : Int32) (ig : Int32) (to : Nat → Int32) (gt : Nat → Int32) (gbg : Nat → Int32) (gl : Nat → Int32) (glo : Nat → Int32) (gd : Nat → Int32) (gk : Nat → Int32) (rf : Int32) (m1 : Int32) (y1 : Int32) (z1 : Int32) (i9 : Int32) (hGZ : ig = 0 ∨ GOK to gt gbg gl glo gd) : Met l y_Mod_kind [.code y_Mod_kind b_Mod_kind 6 (some .int)] ({ frames := 1, cells := 0, slots := 0, locals := 23 }) (tw_P g [.ref h0, .int m1, .int y1, .int z1, .int i9] [(h0, .inr (10, mob q rf n mm mb fa fp av ev wi mn tp tc sc nf fd me mp xn mt wh tq ag an ig)), ((q 54), aI g 8 to), ((q 55), aI g 1100 gt), ((q 56), aI g 160 gbg), ((q 57), aI g 160 gl), ((q 58), aI g 160 glo), ((q 59), aI g 600 gd), ((q 60), aI g 76800 gk)] sz) (tw_Qi g (fun (r : Int32) (u : Int32) => True) (fun u : Int32 => [(h0, .inr (10, mob q u n mm mb fa fp av ev wi mn tp tc sc nf fd me mp xn mt wh tq ag an ig)), ((q 54), aI g 8 to), ((q 55), aI g 1100 gt), ((q 56), aI g 160 gbg), ((q 57), aI g 160 gl), ((q 58), aI g 160 glo), ((q 59), aI g 600 gd), ((q 60), aI g 76800 gk)]) (va_A [(h0, .inr (10, mob q rf n mm mb fa fp av ev wi mn tp tc sc nf fd me mp xn mt wh tq ag an ig)), ((q 54), aI g 8 to), ((q 55), aI g 1100 gt), ((q 56), aI g 160 gbg), ((q 57), aI g 160 gl), ((q 58), aI g 160 glo), ((q 59), aI g 600 gd), ((q 60), aI g 76800 gk)] sz)) 0 0 (va_A [(h0, .inr (10, mob q rf n mm mb fa fp av ev wi mn tp tc sc nf fd me mp xn mt wh tq ag an ig)), ((q 54), aI g 8 to), ((q 55), aI g 1100 gt), ((q 56), aI g 160 gbg), ((q 57), aI g 160 gl), ((q 58), aI g 160 glo), ((q 59), aI g 600 gd), ((q 60), aI g 76800 gk)] sz) := by
  refine tw_metW (l := l) (g := g) (y := y_Mod_kind) (cc := b_Mod_kind) (maxL := 6) (ret := (some .int)) (rm := { frames := 1, cells := 0, slots := 0, locals := 23 }) (mc := 0) (ms := 0) (av := [.ref h0, .int m1, .int y1, .int z1, .int i9]) (ws := [(h0, .inr (10, mob q rf n mm mb fa fp av ev wi mn tp tc sc nf fd me mp xn mt wh tq ag an ig)), ((q 54), aI g 8 to), ((q 55), aI g 1100 gt), ((q 56), aI g 160 gbg), ((q 57), aI g 160 gl), ((q 58), aI g 160 glo), ((q 59), aI g 600 gd), ((q 60), aI g 76800 gk)]) (sz := sz) (Qc := fun A => (tw_Qi g (fun (r : Int32) (u : Int32) => True) (fun u : Int32 => [(h0, .inr (10, mob q u n mm mb fa fp av ev wi mn tp tc sc nf fd me mp xn mt wh tq ag an ig)), ((q 54), aI g 8 to), ((q 55), aI g 1100 gt), ((q 56), aI g 160 gbg), ((q 57), aI g 160 gl), ((q 58), aI g 160 glo), ((q 59), aI g 600 gd), ((q 60), aI g 76800 gk)]) A)) (by decide) (Nat.le_of_ble_eq_true rfl) ?_
  intro p e s m below meth c ls H A E hB hK hZ hP hD hS hA hl
  obtain ⟨hx, hb, hml, hr, hown, hts, hlocks, hin⟩ := id E
  have hl : lv_has ls 6 [(0, .ref h0), (1, .int m1), (2, .int y1), (3, .int z1), (4, .int i9)] := hl
  refine lv_aload_n hx hb d_Mod_kind_0 rfl (lv_at hl 0 rfl) ?_
  refine lv_aload_n hx hb d_Mod_kind_1 rfl (lv_at hl 0 rfl) ?_
  refine va_get (D := g.1) (ci := 10) (v := .int ig) (C := R_Mod) (T := F_Mod) (N := 61) hx hb hts in_Mod hown hK hP 0 rfl rfl 52 (by decide) (hts _ wd_1302) (fun _ h9 => h9) rfl d_Mod_kind_2 ?_
  refine lv_if_eq (tgt := 12) hx hb d_Mod_kind_5 (by decide) (fun h5 => ?_) (fun h5 => ?_)
  · refine lv_iconst (v := 1) hx hb d_Mod_kind_12 (by decide) ?_
    refine tw_wi (wr := [((q 54), aI g 8 to), ((q 55), aI g 1100 gt), ((q 56), aI g 160 gbg), ((q 57), aI g 160 gl), ((q 58), aI g 160 glo), ((q 59), aI g 600 gd), ((q 60), aI g 76800 gk)]) (tw_runV (ws := [(h0, .inr (10, mob q rf n mm mb fa fp av ev wi mn tp tc sc nf fd me mp xn mt wh tq ag an ig)), ((q 54), aI g 8 to), ((q 55), aI g 1100 gt), ((q 56), aI g 160 gbg), ((q 57), aI g 160 gl), ((q 58), aI g 160 glo), ((q 59), aI g 600 gd), ((q 60), aI g 76800 gk)]) (wc := [(h0, .inr (10, mob q rf n mm mb fa fp av ev wi mn tp tc sc nf fd me mp xn mt wh tq ag an ig))]) (As := [.int 1]) (rest := []) E hB hK hZ (g_Mod_refused l g H.size h0 q n mm mb fa fp av ev wi mn tp tc sc nf fd me mp xn mt wh tq ag an ig rf 1) mc_Mod_refused mi_Mod_refused me_Mod_refused wd_1446 hP hD hS hA [0] rfl (by decide) 0 rfl rfl rfl rfl rfl (by decide) rfl hl.1 rfl (Nat.le_of_ble_eq_true rfl) (by decide) d_Mod_kind_13) hP hD hS hA [0] [1, 2, 3, 4, 5, 6, 7] rfl rfl (by decide) (by decide) (fun r1 u2 H locs hr1 hP hD hS => ?_)
    try dsimp only at hr1
    have hP : va_P g.1 classes [((q 54), aI g 8 to), ((q 55), aI g 1100 gt), ((q 56), aI g 160 gbg), ((q 57), aI g 160 gl), ((q 58), aI g 160 glo), ((q 59), aI g 600 gd), ((q 60), aI g 76800 gk), (h0, .inr (10, mob q u2 n mm mb fa fp av ev wi mn tp tc sc nf fd me mp xn mt wh tq ag an ig))] H := hP
    have hD : va_D A [((q 54), aI g 8 to), ((q 55), aI g 1100 gt), ((q 56), aI g 160 gbg), ((q 57), aI g 160 gl), ((q 58), aI g 160 glo), ((q 59), aI g 600 gd), ((q 60), aI g 76800 gk), (h0, .inr (10, mob q u2 n mm mb fa fp av ev wi mn tp tc sc nf fd me mp xn mt wh tq ag an ig))] := hD
    have hP : va_P g.1 classes [(h0, .inr (10, mob q u2 n mm mb fa fp av ev wi mn tp tc sc nf fd me mp xn mt wh tq ag an ig)), ((q 54), aI g 8 to), ((q 55), aI g 1100 gt), ((q 56), aI g 160 gbg), ((q 57), aI g 160 gl), ((q 58), aI g 160 glo), ((q 59), aI g 600 gd), ((q 60), aI g 76800 gk)] H := hP.sub [7, 0, 1, 2, 3, 4, 5, 6] rfl
    have hD : va_D A [(h0, .inr (10, mob q u2 n mm mb fa fp av ev wi mn tp tc sc nf fd me mp xn mt wh tq ag an ig)), ((q 54), aI g 8 to), ((q 55), aI g 1100 gt), ((q 56), aI g 160 gbg), ((q 57), aI g 160 gl), ((q 58), aI g 160 glo), ((q 59), aI g 600 gd), ((q 60), aI g 76800 gk)] := hD.sub [7, 0, 1, 2, 3, 4, 5, 6] (by decide) rfl
    obtain ⟨hB2, hp2_0⟩ := hr1
    have hrr13 : r1 = 1 := hB2.2.trans (by decide)
    subst hrr13
    refine lv_if_eq (tgt := 21) hx hb d_Mod_kind_16 (by decide) (fun h16 => ?_) (fun h16 => ?_)
    · first | exact absurd h16 (by decide) | exact absurd (by decide) h16
    · refine lv_iconst (v := 0) hx hb d_Mod_kind_19 (by decide) ?_
      exact tw_iret E hS u2 trivial hP hD d_Mod_kind_20
  · obtain ⟨c1, c2, c3, gc1, gc2, gT, g0, g2, gm, gf, gk_, gd_⟩ := hGZ.resolve_left h5
    refine lv_iconst (v := 0) hx hb d_Mod_kind_8 (by decide) ?_
    refine lv_goto (tgt := 13) hx hb d_Mod_kind_9 (by decide) ?_
    refine tw_wi (wr := [((q 54), aI g 8 to), ((q 55), aI g 1100 gt), ((q 56), aI g 160 gbg), ((q 57), aI g 160 gl), ((q 58), aI g 160 glo), ((q 59), aI g 600 gd), ((q 60), aI g 76800 gk)]) (tw_runV (ws := [(h0, .inr (10, mob q rf n mm mb fa fp av ev wi mn tp tc sc nf fd me mp xn mt wh tq ag an ig)), ((q 54), aI g 8 to), ((q 55), aI g 1100 gt), ((q 56), aI g 160 gbg), ((q 57), aI g 160 gl), ((q 58), aI g 160 glo), ((q 59), aI g 600 gd), ((q 60), aI g 76800 gk)]) (wc := [(h0, .inr (10, mob q rf n mm mb fa fp av ev wi mn tp tc sc nf fd me mp xn mt wh tq ag an ig))]) (As := [.int 0]) (rest := []) E hB hK hZ (g_Mod_refused l g H.size h0 q n mm mb fa fp av ev wi mn tp tc sc nf fd me mp xn mt wh tq ag an ig rf 0) mc_Mod_refused mi_Mod_refused me_Mod_refused wd_1446 hP hD hS hA [0] rfl (by decide) 0 rfl rfl rfl rfl rfl (by decide) rfl hl.1 rfl (Nat.le_of_ble_eq_true rfl) (by decide) d_Mod_kind_13) hP hD hS hA [0] [1, 2, 3, 4, 5, 6, 7] rfl rfl (by decide) (by decide) (fun r3 u4 H locs hr3 hP hD hS => ?_)
    try dsimp only at hr3
    have hP : va_P g.1 classes [((q 54), aI g 8 to), ((q 55), aI g 1100 gt), ((q 56), aI g 160 gbg), ((q 57), aI g 160 gl), ((q 58), aI g 160 glo), ((q 59), aI g 600 gd), ((q 60), aI g 76800 gk), (h0, .inr (10, mob q u4 n mm mb fa fp av ev wi mn tp tc sc nf fd me mp xn mt wh tq ag an ig))] H := hP
    have hD : va_D A [((q 54), aI g 8 to), ((q 55), aI g 1100 gt), ((q 56), aI g 160 gbg), ((q 57), aI g 160 gl), ((q 58), aI g 160 glo), ((q 59), aI g 600 gd), ((q 60), aI g 76800 gk), (h0, .inr (10, mob q u4 n mm mb fa fp av ev wi mn tp tc sc nf fd me mp xn mt wh tq ag an ig))] := hD
    have hP : va_P g.1 classes [(h0, .inr (10, mob q u4 n mm mb fa fp av ev wi mn tp tc sc nf fd me mp xn mt wh tq ag an ig)), ((q 54), aI g 8 to), ((q 55), aI g 1100 gt), ((q 56), aI g 160 gbg), ((q 57), aI g 160 gl), ((q 58), aI g 160 glo), ((q 59), aI g 600 gd), ((q 60), aI g 76800 gk)] H := hP.sub [7, 0, 1, 2, 3, 4, 5, 6] rfl
    have hD : va_D A [(h0, .inr (10, mob q u4 n mm mb fa fp av ev wi mn tp tc sc nf fd me mp xn mt wh tq ag an ig)), ((q 54), aI g 8 to), ((q 55), aI g 1100 gt), ((q 56), aI g 160 gbg), ((q 57), aI g 160 gl), ((q 58), aI g 160 glo), ((q 59), aI g 600 gd), ((q 60), aI g 76800 gk)] := hD.sub [7, 0, 1, 2, 3, 4, 5, 6] (by decide) rfl
    obtain ⟨hB4, hp4_0⟩ := hr3
    have hrr13 : r3 = 0 := hB4.2.trans (by decide)
    subst hrr13
    refine lv_if_eq (tgt := 21) hx hb d_Mod_kind_16 (by decide) (fun h16 => ?_) (fun h16 => ?_)
    · refine lv_aload_n hx hb d_Mod_kind_21 rfl (lv_at hl 0 rfl) ?_
      refine lv_iload_n hx hb d_Mod_kind_22 rfl (lv_at hl 1 rfl) ?_
      refine lv_iload_n hx hb d_Mod_kind_23 rfl (lv_at hl 2 rfl) ?_
      refine tw_si (tw_runV (ws := [(h0, .inr (10, mob q u4 n mm mb fa fp av ev wi mn tp tc sc nf fd me mp xn mt wh tq ag an ig)), ((q 54), aI g 8 to), ((q 55), aI g 1100 gt), ((q 56), aI g 160 gbg), ((q 57), aI g 160 gl), ((q 58), aI g 160 glo), ((q 59), aI g 600 gd), ((q 60), aI g 76800 gk)]) (wc := [(h0, .inr (10, mob q u4 n mm mb fa fp av ev wi mn tp tc sc nf fd me mp xn mt wh tq ag an ig)), ((q 54), aI g 8 to), ((q 56), aI g 160 gbg), ((q 57), aI g 160 gl), ((q 58), aI g 160 glo), ((q 59), aI g 600 gd)]) (As := [.int m1, .int y1]) (rest := []) E hB hK hZ (g_Mod_frameAt l g H.size h0 q u4 n mm mb fa fp av ev wi mn tp tc sc nf fd me mp xn mt wh tq ag an ig to gbg gl glo gd m1 y1 c1 c2 c3 gT gk_ (by omega) gd_) mc_Mod_frameAt mi_Mod_frameAt me_Mod_frameAt wd_1744 hP hD hS hA [0, 1, 3, 4, 5, 6] rfl (by decide) 0 rfl rfl rfl rfl rfl (by decide) rfl hl.1 rfl (Nat.le_of_ble_eq_true rfl) (by decide) d_Mod_kind_24) (fun r5 hr5 => ?_)
      have hB5 := hr5
      refine lv_istore hx hb d_Mod_kind_27 hl (by decide) rfl (fun ls hl => ?_)
      have hl : lv_has ls 6 [(5, .int r5), (0, .ref h0), (1, .int m1), (2, .int y1), (3, .int z1), (4, .int i9)] := hl
      refine lv_iload hx hb d_Mod_kind_29 (lv_at hl 0 rfl) ?_
      refine lv_if_lt (tgt := 64) hx hb d_Mod_kind_31 (by decide) (fun h31 => ?_) (fun h31 => ?_)
      · refine lv_iconst (v := (-1)) hx hb d_Mod_kind_64 (by decide) ?_
        exact tw_iret E hS u4 trivial hP hD d_Mod_kind_65
      · obtain ⟨jm, p9, o9, f1_, f2_, f3_, f4_, f5_, f6_, d9, f7_, f8_⟩ := hB5.resolve_left (fun e9 => h31 (by rw [e9]; decide))
        subst f3_
        subst f1_
        refine lv_iload hx hb d_Mod_kind_34 (lv_at hl 5 rfl) ?_
        refine lv_if_lt (tgt := 64) hx hb d_Mod_kind_36 (by decide) (fun h36 => ?_) (fun h36 => ?_)
        · refine lv_iconst (v := (-1)) hx hb d_Mod_kind_64 (by decide) ?_
          exact tw_iret E hS u4 trivial hP hD d_Mod_kind_65
        · obtain ⟨ji, hji, hie⟩ := nI_of h36
          subst hie
          refine lv_iload hx hb d_Mod_kind_39 (lv_at hl 5 rfl) ?_
          refine lv_iload_n hx hb d_Mod_kind_41 rfl (lv_at hl 4 rfl) ?_
          refine lv_if_eq (tgt := 54) hx hb d_Mod_kind_42 (by decide) (fun h42 => ?_) (fun h42 => ?_)
          · refine lv_aload_n hx hb d_Mod_kind_54 rfl (lv_at hl 1 rfl) ?_
            refine va_get (D := g.1) (ci := 10) (v := .ref (q 59)) (C := R_Mod) (T := F_Mod) (N := 61) hx hb hts in_Mod hown hK hP 0 rfl rfl 59 (by decide) (hts _ wd_1309) (fun _ h9 => h9) rfl d_Mod_kind_55 ?_
            refine lv_iload hx hb d_Mod_kind_58 (lv_at hl 0 rfl) ?_
            refine va_iald hx hb hK hP 6 0 rfl rfl (vp_in_nI (by omega) (by decide)) d_Mod_kind_60 ?_
            refine tw_ri (e2 := nI d9) (by rw [nI_clamp (by omega)]; exact f8_) ?_
            refine lv_icmp_lt (tgt := 66) hx hb d_Mod_kind_61 (by decide) (fun h61 => ?_) (fun h61 => ?_)
            · have h61 := tn_lt h61 (by omega) (by omega)
              refine lv_aload_n hx hb d_Mod_kind_66 rfl (lv_at hl 1 rfl) ?_
              refine va_get (D := g.1) (ci := 10) (v := .ref (q 60)) (C := R_Mod) (T := F_Mod) (N := 61) hx hb hts in_Mod hown hK hP 0 rfl rfl 60 (by decide) (hts _ wd_1310) (fun _ h9 => h9) rfl d_Mod_kind_67 ?_
              refine lv_sipush (v := 128) hx hb d_Mod_kind_70 (by decide) ?_
              refine lv_iload hx hb d_Mod_kind_73 (lv_at hl 0 rfl) ?_
              refine lv_imul hx hb d_Mod_kind_75 ?_
              refine tw_ri (e2 := nI (128 * p9)) (pk_mul 128 p9) ?_
              refine lv_iload_n hx hb d_Mod_kind_76 rfl (lv_at hl 4 rfl) ?_
              refine lv_if_eq (tgt := 85) hx hb d_Mod_kind_77 (by decide) (fun h77 => ?_) (fun h77 => ?_)
              · refine lv_bipush (v := 64) hx hb d_Mod_kind_85 (by decide) ?_
                refine lv_iload hx hb d_Mod_kind_87 (lv_at hl 5 rfl) ?_
                refine lv_iadd hx hb d_Mod_kind_89 ?_
                refine tw_ri (e2 := nI (64 + ji)) (nI_add 64 ji) ?_
                refine lv_iadd hx hb d_Mod_kind_90 ?_
                refine tw_ri (e2 := nI (128 * p9 + (64 + ji))) (nI_add _ _) ?_
                refine va_iald hx hb hK hP 7 0 rfl rfl (vp_in_nI (by omega) (by decide)) d_Mod_kind_91 ?_
                obtain ⟨x6, ex6⟩ : ∃ z : Int32, gk ((nI (128 * p9 + (64 + ji))).toNatClampNeg) = z := ⟨_, rfl⟩
                refine tw_ri (e2 := x6) ex6 ?_
                exact tw_iret E hS u4 trivial hP hD d_Mod_kind_92
              · exact absurd h42 h77
            · refine lv_iconst (v := (-1)) hx hb d_Mod_kind_64 (by decide) ?_
              exact tw_iret E hS u4 trivial hP hD d_Mod_kind_65
          · refine lv_aload_n hx hb d_Mod_kind_45 rfl (lv_at hl 1 rfl) ?_
            refine va_get (D := g.1) (ci := 10) (v := .ref (q 58)) (C := R_Mod) (T := F_Mod) (N := 61) hx hb hts in_Mod hown hK hP 0 rfl rfl 58 (by decide) (hts _ wd_1308) (fun _ h9 => h9) rfl d_Mod_kind_46 ?_
            refine lv_iload_n hx hb d_Mod_kind_49 rfl (lv_at hl 2 rfl) ?_
            refine va_iald hx hb hK hP 5 0 rfl rfl (vp_in_nI (by omega) (by decide)) d_Mod_kind_50 ?_
            refine tw_ri (e2 := nI o9) (by rw [nI_clamp (by omega)]; exact f5_) ?_
            refine lv_goto (tgt := 61) hx hb d_Mod_kind_51 (by decide) ?_
            refine lv_icmp_lt (tgt := 66) hx hb d_Mod_kind_61 (by decide) (fun h61 => ?_) (fun h61 => ?_)
            · have h61 := tn_lt h61 (by omega) (by omega)
              refine lv_aload_n hx hb d_Mod_kind_66 rfl (lv_at hl 1 rfl) ?_
              refine va_get (D := g.1) (ci := 10) (v := .ref (q 60)) (C := R_Mod) (T := F_Mod) (N := 61) hx hb hts in_Mod hown hK hP 0 rfl rfl 60 (by decide) (hts _ wd_1310) (fun _ h9 => h9) rfl d_Mod_kind_67 ?_
              refine lv_sipush (v := 128) hx hb d_Mod_kind_70 (by decide) ?_
              refine lv_iload hx hb d_Mod_kind_73 (lv_at hl 0 rfl) ?_
              refine lv_imul hx hb d_Mod_kind_75 ?_
              refine tw_ri (e2 := nI (128 * p9)) (pk_mul 128 p9) ?_
              refine lv_iload_n hx hb d_Mod_kind_76 rfl (lv_at hl 4 rfl) ?_
              refine lv_if_eq (tgt := 85) hx hb d_Mod_kind_77 (by decide) (fun h77 => ?_) (fun h77 => ?_)
              · exact absurd h77 h42
              · refine lv_iload hx hb d_Mod_kind_80 (lv_at hl 5 rfl) ?_
                refine lv_goto (tgt := 90) hx hb d_Mod_kind_82 (by decide) ?_
                refine lv_iadd hx hb d_Mod_kind_90 ?_
                refine tw_ri (e2 := nI (128 * p9 + ji)) (nI_add _ _) ?_
                refine va_iald hx hb hK hP 7 0 rfl rfl (vp_in_nI (by omega) (by decide)) d_Mod_kind_91 ?_
                obtain ⟨x7, ex7⟩ : ∃ z : Int32, gk ((nI (128 * p9 + ji)).toNatClampNeg) = z := ⟨_, rfl⟩
                refine tw_ri (e2 := x7) ex7 ?_
                exact tw_iret E hS u4 trivial hP hD d_Mod_kind_92
            · refine lv_iconst (v := (-1)) hx hb d_Mod_kind_64 (by decide) ?_
              exact tw_iret E hS u4 trivial hP hD d_Mod_kind_65
    · first | exact absurd h16 (by decide) | exact absurd (by decide) h16
end
section
/-! The reference's rule. -/
def so_ (al : Int32) : Nat := if al = 0 then 0 else 1
def RSM (bs : Nat → Int32) (n : Nat) (k : Int32) : Prop := ∃ q, k = nI q ∧ 1 ≤ q ∧ q ≤ 40 ∧ q ≤ n ∧ ∀ i, n - q ≤ i → i < n → 33 ≤ bt bs i ∧ bt bs i ≤ 126
def RSJ (bs : Nat → Int32) (n q j : Nat) (s : Int32) : Prop := (s = 1 ∧ ∀ i, n - q ≤ i → i < j → 33 ≤ bt bs i ∧ bt bs i ≤ 126) ∨ (s = 0 ∧ ∃ i, n - q ≤ i ∧ i < n ∧ ¬ (33 ≤ bt bs i ∧ bt bs i ≤ 126))
def RUP (rf r : Int32) (n n' : Nat) (bs ru rs ru' rs' : Nat → Int32) (al k : Int32) : Prop := (rf = 1 ∧ ¬ RSM bs n k ∧ n' = n ∧ ru' = ru ∧ rs' = rs) ∨ (rf = 2 ∧ RSM bs n k ∧ ru (so_ al) = 6 ∧ n' = n ∧ ru' = ru ∧ rs' = rs) ∨ (rf = 0 ∧ ∃ q c, k = nI q ∧ q ≤ n ∧ RSM bs n k ∧ ru (so_ al) = nI c ∧ c < 6 ∧ n' = n - q ∧ ru' = upd ru (so_ al) (nI (c + 1)) ∧ rs' = upd rs (6 * so_ al + c) (nI q) ∧ q ≤ 40 ∧ r = nI (c + 1))
theorem ru_in {b : Nat} (hb : b < 256) : (is_in (nI b) 33 126 = 0 ∧ ¬ (33 ≤ b ∧ b ≤ 126)) ∨ (is_in (nI b) 33 126 = 1 ∧ 33 ≤ b ∧ b ≤ 126) := by
  by_cases h : is_in (nI b) 33 126 = 0
  · refine Or.inl ⟨h, ?_⟩
    intro hc
    rcases is_inZ h with h1 | h1
    · have := tn_lt (b := 33) h1 (by omega) (by decide); omega
    · have := tn_lt (a := 126) h1 (by decide) (by omega); omega
  · obtain ⟨h1, h2⟩ := is_inN h
    have a := tn_nlt (b := 33) h1 (by omega) (by decide)
    have c := tn_nlt (a := 126) h2 (by decide) (by omega)
    exact Or.inr ⟨is_in1 h1 h2, a, c⟩
theorem ru_step {bs : Nat → Int32} {n q j : Nat} {s : Int32} (h : RSJ bs n q j s) (hs : ¬ s = 0) (h1 : n - q ≤ j) (h2 : j < n) (hb : bt bs j < 256) : RSJ bs n q (j + 1) (is_in (nI (bt bs j)) 33 126) := by
  rcases h with ⟨_, h⟩ | ⟨h, _⟩
  · rcases ru_in hb with ⟨e, hn⟩ | ⟨e, hy⟩
    · exact Or.inr ⟨e, j, h1, h2, hn⟩
    · refine Or.inl ⟨e, fun i h3 h4 => ?_⟩
      by_cases ei : i = j
      · rw [ei]; exact hy
      · exact h i h3 (by omega)
  · exact absurd h hs
theorem ru_k {k : Int32} (h : ¬ is_in k 1 40 = 0) : ∃ q, k = nI q ∧ 1 ≤ q ∧ q ≤ 40 := by
  obtain ⟨h1, h2⟩ := is_inN h
  have h0 : ¬ k < 0 := by
    intro h0
    apply h1
    rw [Int32.lt_iff_toInt_lt] at h0 ⊢
    have e0 : (0 : Int32).toInt = 0 := by decide
    have e1 : (1 : Int32).toInt = 1 := by decide
    omega
  obtain ⟨q, hq, rfl⟩ := nI_of h0
  have a := tn_nlt (b := 1) h1 hq (by decide)
  have c := tn_nlt (a := 40) h2 (by decide) hq
  exact ⟨q, rfl, a, c⟩
theorem ru_n1 {bs : Nat → Int32} {n : Nat} {k : Int32} (h : is_in k 1 40 = 0) : ¬ RSM bs n k := by
  rintro ⟨q, rfl, h1, h2, _⟩
  rcases is_inZ h with h3 | h3
  · have := tn_lt (b := 1) h3 (by omega) (by decide); omega
  · have := tn_lt (a := 40) h3 (by decide) (by omega); omega
theorem ru_n2 {bs : Nat → Int32} {n q : Nat} (h : n < q) (hq : q ≤ 40 := by omega) : ¬ RSM bs n (nI q) := by
  rintro ⟨q2, e, h1, h2, h3, _⟩
  have := tn_eq e (by omega) (by omega)
  omega
theorem ru_n3 {bs : Nat → Int32} {n q j : Nat} {s : Int32} (h : RSJ bs n q j s) (hs : s = 0) (hq : q ≤ 40 := by omega) : ¬ RSM bs n (nI q) := by
  rintro ⟨q2, e, h1, h2, h3, h4⟩
  have eq := tn_eq e (by omega) (by omega)
  subst eq
  rcases h with ⟨h, _⟩ | ⟨_, i, h5, h6, h7⟩
  · rw [h] at hs; exact absurd hs (by decide)
  · exact h7 (h4 i h5 h6)
theorem ru_y {bs : Nat → Int32} {n q j : Nat} {s : Int32} (h : RSJ bs n q j s) (hs : ¬ s = 0) (hj : n ≤ j) (h1 : 1 ≤ q) (h2 : q ≤ 40) (h3 : q ≤ n) : RSM bs n (nI q) := by
  rcases h with ⟨_, h⟩ | ⟨h, _⟩
  · exact ⟨q, rfl, h1, h2, h3, fun i h4 h5 => h i h4 (by omega)⟩
  · exact absurd h hs
end
section
theorem d_Mod_rule_28 : decode b_Mod_rule 28 = .ok (.iconst 1, 1) := by decide +kernel
theorem d_Mod_rule_29 : decode b_Mod_rule 29 = .ok (.goto 4, 3) := by decide +kernel
theorem d_Mod_rule_48 : decode b_Mod_rule 48 = .ok (.iload 5, 2) := by decide +kernel
theorem d_Mod_rule_50 : decode b_Mod_rule 50 = .ok (.aload_n 0, 1) := by decide +kernel
theorem d_Mod_rule_51 : decode b_Mod_rule 51 = .ok (.getfield 140, 3) := by decide +kernel
theorem d_Mod_rule_54 : decode b_Mod_rule 54 = .ok (.if_icmp .ge 25, 3) := by decide +kernel
theorem d_Mod_rule_57 : decode b_Mod_rule 57 = .ok (.aload_n 0, 1) := by decide +kernel
theorem d_Mod_rule_58 : decode b_Mod_rule 58 = .ok (.getfield 7, 3) := by decide +kernel
theorem d_Mod_rule_61 : decode b_Mod_rule 61 = .ok (.iload 5, 2) := by decide +kernel
theorem d_Mod_rule_63 : decode b_Mod_rule 63 = .ok (.iaload, 1) := by decide +kernel
theorem d_Mod_rule_64 : decode b_Mod_rule 64 = .ok (.bipush 33, 2) := by decide +kernel
theorem d_Mod_rule_66 : decode b_Mod_rule 66 = .ok (.bipush 126, 2) := by decide +kernel
theorem d_Mod_rule_68 : decode b_Mod_rule 68 = .ok (.invokestatic 136, 3) := by decide +kernel
theorem d_Mod_rule_71 : decode b_Mod_rule 71 = .ok (.istore 4, 2) := by decide +kernel
theorem d_Mod_rule_73 : decode b_Mod_rule 73 = .ok (.iinc 5 1, 3) := by decide +kernel
theorem d_Mod_rule_76 : decode b_Mod_rule 76 = .ok (.goto (-33), 3) := by decide +kernel
theorem d_Mod_rule_89 : decode b_Mod_rule 89 = .ok (.aload_n 0, 1) := by decide +kernel
theorem d_Mod_rule_90 : decode b_Mod_rule 90 = .ok (.getfield 13, 3) := by decide +kernel
theorem d_Mod_rule_93 : decode b_Mod_rule 93 = .ok (.iload_n 3, 1) := by decide +kernel
theorem d_Mod_rule_94 : decode b_Mod_rule 94 = .ok (.iaload, 1) := by decide +kernel
theorem d_Mod_rule_95 : decode b_Mod_rule 95 = .ok (.bipush 6, 2) := by decide +kernel
theorem d_Mod_rule_97 : decode b_Mod_rule 97 = .ok (.if_icmp .ne 7, 3) := by decide +kernel
theorem d_Mod_rule_100 : decode b_Mod_rule 100 = .ok (.iconst 2, 1) := by decide +kernel
theorem d_Mod_rule_101 : decode b_Mod_rule 101 = .ok (.goto 4, 3) := by decide +kernel
theorem d_Mod_rule_104 : decode b_Mod_rule 104 = .ok (.iconst 0, 1) := by decide +kernel
theorem d_Mod_rule_113 : decode b_Mod_rule 113 = .ok (.bipush 6, 2) := by decide +kernel
theorem d_Mod_rule_115 : decode b_Mod_rule 115 = .ok (.iload_n 3, 1) := by decide +kernel
theorem d_Mod_rule_116 : decode b_Mod_rule 116 = .ok (.imul, 1) := by decide +kernel
theorem d_Mod_rule_117 : decode b_Mod_rule 117 = .ok (.aload_n 0, 1) := by decide +kernel
theorem d_Mod_rule_118 : decode b_Mod_rule 118 = .ok (.getfield 13, 3) := by decide +kernel
theorem d_Mod_rule_121 : decode b_Mod_rule 121 = .ok (.iload_n 3, 1) := by decide +kernel
theorem d_Mod_rule_122 : decode b_Mod_rule 122 = .ok (.iaload, 1) := by decide +kernel
theorem d_Mod_rule_123 : decode b_Mod_rule 123 = .ok (.iadd, 1) := by decide +kernel
theorem d_Mod_rule_124 : decode b_Mod_rule 124 = .ok (.istore 5, 2) := by decide +kernel
theorem d_Mod_rule_126 : decode b_Mod_rule 126 = .ok (.aload_n 0, 1) := by decide +kernel
theorem d_Mod_rule_127 : decode b_Mod_rule 127 = .ok (.getfield 16, 3) := by decide +kernel
theorem d_Mod_rule_130 : decode b_Mod_rule 130 = .ok (.iload 5, 2) := by decide +kernel
theorem d_Mod_rule_132 : decode b_Mod_rule 132 = .ok (.iload_n 2, 1) := by decide +kernel
theorem d_Mod_rule_133 : decode b_Mod_rule 133 = .ok (.iastore, 1) := by decide +kernel
theorem d_Mod_rule_134 : decode b_Mod_rule 134 = .ok (.iconst 0, 1) := by decide +kernel
theorem d_Mod_rule_135 : decode b_Mod_rule 135 = .ok (.istore 6, 2) := by decide +kernel
theorem d_Mod_rule_137 : decode b_Mod_rule 137 = .ok (.iload 6, 2) := by decide +kernel
theorem d_Mod_rule_139 : decode b_Mod_rule 139 = .ok (.iload_n 2, 1) := by decide +kernel
theorem d_Mod_rule_140 : decode b_Mod_rule 140 = .ok (.if_icmp .ge 36, 3) := by decide +kernel
theorem d_Mod_rule_143 : decode b_Mod_rule 143 = .ok (.aload_n 0, 1) := by decide +kernel
theorem d_Mod_rule_144 : decode b_Mod_rule 144 = .ok (.getfield 19, 3) := by decide +kernel
theorem d_Mod_rule_147 : decode b_Mod_rule 147 = .ok (.bipush 40, 2) := by decide +kernel
theorem d_Mod_rule_149 : decode b_Mod_rule 149 = .ok (.iload 5, 2) := by decide +kernel
theorem d_Mod_rule_151 : decode b_Mod_rule 151 = .ok (.imul, 1) := by decide +kernel
theorem d_Mod_rule_152 : decode b_Mod_rule 152 = .ok (.iload 6, 2) := by decide +kernel
theorem d_Mod_rule_154 : decode b_Mod_rule 154 = .ok (.iadd, 1) := by decide +kernel
theorem d_Mod_rule_155 : decode b_Mod_rule 155 = .ok (.aload_n 0, 1) := by decide +kernel
theorem d_Mod_rule_156 : decode b_Mod_rule 156 = .ok (.getfield 7, 3) := by decide +kernel
theorem d_Mod_rule_159 : decode b_Mod_rule 159 = .ok (.aload_n 0, 1) := by decide +kernel
theorem d_Mod_rule_160 : decode b_Mod_rule 160 = .ok (.getfield 140, 3) := by decide +kernel
theorem d_Mod_rule_163 : decode b_Mod_rule 163 = .ok (.iload_n 2, 1) := by decide +kernel
theorem d_Mod_rule_164 : decode b_Mod_rule 164 = .ok (.isub, 1) := by decide +kernel
theorem d_Mod_rule_165 : decode b_Mod_rule 165 = .ok (.iload 6, 2) := by decide +kernel
theorem d_Mod_rule_167 : decode b_Mod_rule 167 = .ok (.iadd, 1) := by decide +kernel
theorem d_Mod_rule_168 : decode b_Mod_rule 168 = .ok (.iaload, 1) := by decide +kernel
theorem d_Mod_rule_169 : decode b_Mod_rule 169 = .ok (.iastore, 1) := by decide +kernel
theorem d_Mod_rule_170 : decode b_Mod_rule 170 = .ok (.iinc 6 1, 3) := by decide +kernel
theorem d_Mod_rule_173 : decode b_Mod_rule 173 = .ok (.goto (-36), 3) := by decide +kernel
theorem d_Mod_rule_176 : decode b_Mod_rule 176 = .ok (.aload_n 0, 1) := by decide +kernel
theorem d_Mod_rule_177 : decode b_Mod_rule 177 = .ok (.aload_n 0, 1) := by decide +kernel
theorem d_Mod_rule_178 : decode b_Mod_rule 178 = .ok (.getfield 140, 3) := by decide +kernel
theorem d_Mod_rule_181 : decode b_Mod_rule 181 = .ok (.iload_n 2, 1) := by decide +kernel
theorem d_Mod_rule_182 : decode b_Mod_rule 182 = .ok (.isub, 1) := by decide +kernel
theorem d_Mod_rule_183 : decode b_Mod_rule 183 = .ok (.putfield 140, 3) := by decide +kernel
theorem d_Mod_rule_186 : decode b_Mod_rule 186 = .ok (.aload_n 0, 1) := by decide +kernel
theorem d_Mod_rule_187 : decode b_Mod_rule 187 = .ok (.getfield 13, 3) := by decide +kernel
theorem d_Mod_rule_190 : decode b_Mod_rule 190 = .ok (.iload_n 3, 1) := by decide +kernel
theorem d_Mod_rule_191 : decode b_Mod_rule 191 = .ok (.dup2, 1) := by decide +kernel
theorem d_Mod_rule_192 : decode b_Mod_rule 192 = .ok (.iaload, 1) := by decide +kernel
theorem d_Mod_rule_193 : decode b_Mod_rule 193 = .ok (.iconst 1, 1) := by decide +kernel
theorem d_Mod_rule_194 : decode b_Mod_rule 194 = .ok (.iadd, 1) := by decide +kernel
theorem d_Mod_rule_195 : decode b_Mod_rule 195 = .ok (.iastore, 1) := by decide +kernel
theorem d_Mod_rule_196 : decode b_Mod_rule 196 = .ok (.aload_n 0, 1) := by decide +kernel
theorem d_Mod_rule_197 : decode b_Mod_rule 197 = .ok (.getfield 13, 3) := by decide +kernel
theorem d_Mod_rule_200 : decode b_Mod_rule 200 = .ok (.iload_n 3, 1) := by decide +kernel
theorem d_Mod_rule_201 : decode b_Mod_rule 201 = .ok (.iaload, 1) := by decide +kernel
theorem d_Mod_rule_202 : decode b_Mod_rule 202 = .ok (.ireturn, 1) := by decide +kernel
end
section
set_option maxHeartbeats 4000000 in
set_option maxRecDepth 100000 in
theorem g_Mod_rule (l : Launch) (g : tw_G) (sz : Nat) (h0 : Nat) (q : Nat → Nat) (mm : Int32) (mb : Int32) (fa : Int32) (fp : Int32) (av : Nat) (ev : Nat) (wi : Int32) (mn : Nat) (tp : Int32) (tc : Int32) (sc : Int32) (nf : Nat) (fd : Nat) (me : Nat) (mp : Int32) (xn : Nat) (mt : Nat) (wh : Nat) (tq : Nat) (ag : Nat) (an : Int32) (ig : Int32) (bs : Nat → Int32) (rf : Int32) (n : Nat) (ru : Nat → Int32) (rs : Nat → Int32) (rt : Nat → Int32) (al : Int32) (k9 : Int32) (hn6 : n ≤ 600) (hbs : BYT bs) (hru : ∀ i, i < 2 → ∃ c, c ≤ 6 ∧ ru i = nI c) (hrs : ∀ i, i < 12 → ∃ c, c ≤ 40 ∧ rs i = nI c) : Met l y_Mod_rule [.code y_Mod_rule b_Mod_rule 7 (some .int)] ({ frames := 1, cells := 0, slots := 0, locals := 22 }) (tw_P g [.ref h0, .int al, .int k9] [(h0, .inr (10, mob q rf n mm mb fa fp av ev wi mn tp tc sc nf fd me mp xn mt wh tq ag an ig)), ((q 2), aI g 600 bs), ((q 3), aI g 2 ru), ((q 4), aI g 12 rs), ((q 5), aI g 480 rt)] sz) (tw_Qi g (fun (r : Int32) (u : Int32 × Nat × (Nat → Int32) × (Nat → Int32) × (Nat → Int32)) => (RUP u.1 r n u.2.1 bs ru rs u.2.2.1 u.2.2.2.1 al k9)) (fun u : Int32 × Nat × (Nat → Int32) × (Nat → Int32) × (Nat → Int32) => [(h0, .inr (10, mob q u.1 u.2.1 mm mb fa fp av ev wi mn tp tc sc nf fd me mp xn mt wh tq ag an ig)), ((q 2), aI g 600 bs), ((q 3), aI g 2 u.2.2.1), ((q 4), aI g 12 u.2.2.2.1), ((q 5), aI g 480 u.2.2.2.2)]) (va_A [(h0, .inr (10, mob q rf n mm mb fa fp av ev wi mn tp tc sc nf fd me mp xn mt wh tq ag an ig)), ((q 2), aI g 600 bs), ((q 3), aI g 2 ru), ((q 4), aI g 12 rs), ((q 5), aI g 480 rt)] sz)) 0 0 (va_A [(h0, .inr (10, mob q rf n mm mb fa fp av ev wi mn tp tc sc nf fd me mp xn mt wh tq ag an ig)), ((q 2), aI g 600 bs), ((q 3), aI g 2 ru), ((q 4), aI g 12 rs), ((q 5), aI g 480 rt)] sz) := by
  refine tw_metW (l := l) (g := g) (y := y_Mod_rule) (cc := b_Mod_rule) (maxL := 7) (ret := (some .int)) (rm := { frames := 1, cells := 0, slots := 0, locals := 22 }) (mc := 0) (ms := 0) (av := [.ref h0, .int al, .int k9]) (ws := [(h0, .inr (10, mob q rf n mm mb fa fp av ev wi mn tp tc sc nf fd me mp xn mt wh tq ag an ig)), ((q 2), aI g 600 bs), ((q 3), aI g 2 ru), ((q 4), aI g 12 rs), ((q 5), aI g 480 rt)]) (sz := sz) (Qc := fun A => (tw_Qi g (fun (r : Int32) (u : Int32 × Nat × (Nat → Int32) × (Nat → Int32) × (Nat → Int32)) => (RUP u.1 r n u.2.1 bs ru rs u.2.2.1 u.2.2.2.1 al k9)) (fun u : Int32 × Nat × (Nat → Int32) × (Nat → Int32) × (Nat → Int32) => [(h0, .inr (10, mob q u.1 u.2.1 mm mb fa fp av ev wi mn tp tc sc nf fd me mp xn mt wh tq ag an ig)), ((q 2), aI g 600 bs), ((q 3), aI g 2 u.2.2.1), ((q 4), aI g 12 u.2.2.2.1), ((q 5), aI g 480 u.2.2.2.2)]) A)) (by decide) (Nat.le_of_ble_eq_true rfl) ?_
  intro p e s m below meth c ls H A E hB hK hZ hP hD hS hA hl
  obtain ⟨hx, hb, hml, hr, hown, hts, hlocks, hin⟩ := id E
  have hl : lv_has ls 7 [(0, .ref h0), (1, .int al), (2, .int k9)] := hl
  refine lv_iload_n hx hb d_Mod_rule_0 rfl (lv_at hl 1 rfl) ?_
  refine lv_if_eq (tgt := 8) hx hb d_Mod_rule_1 (by decide) (fun h1 => ?_) (fun h1 => ?_)
  · have hso : so_ al = 0 := if_pos h1
    obtain ⟨c9, hc6, ec⟩ := hru 0 (by decide)
    refine lv_iconst (v := 0) hx hb d_Mod_rule_8 (by decide) ?_
    refine lv_istore_n hx hb d_Mod_rule_9 rfl hl (by decide) rfl (fun ls hl => ?_)
    have hl : lv_has ls 7 [(3, .int 0), (0, .ref h0), (1, .int al), (2, .int k9)] := hl
    refine lv_iload_n hx hb d_Mod_rule_10 rfl (lv_at hl 3 rfl) ?_
    refine lv_iconst (v := 1) hx hb d_Mod_rule_11 (by decide) ?_
    refine lv_bipush (v := 40) hx hb d_Mod_rule_12 (by decide) ?_
    refine tw_si (tw_runS (ws := [(h0, .inr (10, mob q rf n mm mb fa fp av ev wi mn tp tc sc nf fd me mp xn mt wh tq ag an ig)), ((q 2), aI g 600 bs), ((q 3), aI g 2 ru), ((q 4), aI g 12 rs), ((q 5), aI g 480 rt)]) (wc := []) (As := [.int k9, .int 1, .int 40]) (rest := []) E hB hK hZ (c_Mod_isIn l g H.size k9 1 40) mc_Mod_isIn ms_Mod_isIn wd_1443 hP hD hS hA [] rfl (by decide) rfl rfl (by decide) rfl hl.1 rfl (Nat.le_of_ble_eq_true rfl) (by decide) d_Mod_rule_14) (fun r1 hr1 => ?_)
    obtain rfl : r1 = is_in k9 1 40 := hr1
    refine lv_if_eq (tgt := 32) hx hb d_Mod_rule_17 (by decide) (fun h17 => ?_) (fun h17 => ?_)
    · refine lv_iconst (v := 0) hx hb d_Mod_rule_32 (by decide) ?_
      refine lv_istore hx hb d_Mod_rule_33 hl (by decide) rfl (fun ls hl => ?_)
      have hl : lv_has ls 7 [(4, .int 0), (3, .int 0), (0, .ref h0), (1, .int al), (2, .int k9)] := hl
      refine lv_aload_n hx hb d_Mod_rule_35 rfl (lv_at hl 2 rfl) ?_
      refine va_get (D := g.1) (ci := 10) (v := .int (nI n)) (C := R_Mod) (T := F_Mod) (N := 61) hx hb hts in_Mod hown hK hP 0 rfl rfl 1 (by decide) (hts _ wd_1251) (fun _ h9 => h9) rfl d_Mod_rule_36 ?_
      refine lv_iload_n hx hb d_Mod_rule_39 rfl (lv_at hl 4 rfl) ?_
      refine lv_isub hx hb d_Mod_rule_40 ?_
      refine tw_ri (e2 := (nI n) - k9) rfl ?_
      refine lv_istore hx hb d_Mod_rule_41 hl (by decide) rfl (fun ls hl => ?_)
      have hl : lv_has ls 7 [(5, .int ((nI n) - k9)), (4, .int 0), (3, .int 0), (0, .ref h0), (1, .int al), (2, .int k9)] := hl
      refine lv_iload hx hb d_Mod_rule_43 (lv_at hl 1 rfl) ?_
      refine lv_if_eq (tgt := 79) hx hb d_Mod_rule_45 (by decide) (fun h45 => ?_) (fun h45 => ?_)
      · refine lv_aload_n hx hb d_Mod_rule_79 rfl (lv_at hl 3 rfl) ?_
        refine lv_iload hx hb d_Mod_rule_80 (lv_at hl 1 rfl) ?_
        refine lv_if_ne (tgt := 89) hx hb d_Mod_rule_82 (by decide) (fun h82 => ?_) (fun h82 => ?_)
        · first | exact absurd h82 (by decide) | exact absurd (by decide) h82
        · refine lv_iconst (v := 1) hx hb d_Mod_rule_85 (by decide) ?_
          refine lv_goto (tgt := 105) hx hb d_Mod_rule_86 (by decide) ?_
          refine tw_wi (wr := [((q 2), aI g 600 bs), ((q 3), aI g 2 ru), ((q 4), aI g 12 rs), ((q 5), aI g 480 rt)]) (tw_runV (ws := [(h0, .inr (10, mob q rf n mm mb fa fp av ev wi mn tp tc sc nf fd me mp xn mt wh tq ag an ig)), ((q 2), aI g 600 bs), ((q 3), aI g 2 ru), ((q 4), aI g 12 rs), ((q 5), aI g 480 rt)]) (wc := [(h0, .inr (10, mob q rf n mm mb fa fp av ev wi mn tp tc sc nf fd me mp xn mt wh tq ag an ig))]) (As := [.int 1]) (rest := []) E hB hK hZ (g_Mod_refused l g H.size h0 q n mm mb fa fp av ev wi mn tp tc sc nf fd me mp xn mt wh tq ag an ig rf 1) mc_Mod_refused mi_Mod_refused me_Mod_refused wd_1446 hP hD hS hA [0] rfl (by decide) 0 rfl rfl rfl rfl rfl (by decide) rfl hl.1 rfl (Nat.le_of_ble_eq_true rfl) (by decide) d_Mod_rule_105) hP hD hS hA [0] [1, 2, 3, 4] rfl rfl (by decide) (by decide) (fun r2 u3 H locs hr2 hP hD hS => ?_)
          try dsimp only at hr2
          have hP : va_P g.1 classes [((q 2), aI g 600 bs), ((q 3), aI g 2 ru), ((q 4), aI g 12 rs), ((q 5), aI g 480 rt), (h0, .inr (10, mob q u3 n mm mb fa fp av ev wi mn tp tc sc nf fd me mp xn mt wh tq ag an ig))] H := hP
          have hD : va_D A [((q 2), aI g 600 bs), ((q 3), aI g 2 ru), ((q 4), aI g 12 rs), ((q 5), aI g 480 rt), (h0, .inr (10, mob q u3 n mm mb fa fp av ev wi mn tp tc sc nf fd me mp xn mt wh tq ag an ig))] := hD
          have hP : va_P g.1 classes [(h0, .inr (10, mob q u3 n mm mb fa fp av ev wi mn tp tc sc nf fd me mp xn mt wh tq ag an ig)), ((q 2), aI g 600 bs), ((q 3), aI g 2 ru), ((q 4), aI g 12 rs), ((q 5), aI g 480 rt)] H := hP.sub [4, 0, 1, 2, 3] rfl
          have hD : va_D A [(h0, .inr (10, mob q u3 n mm mb fa fp av ev wi mn tp tc sc nf fd me mp xn mt wh tq ag an ig)), ((q 2), aI g 600 bs), ((q 3), aI g 2 ru), ((q 4), aI g 12 rs), ((q 5), aI g 480 rt)] := hD.sub [4, 0, 1, 2, 3] (by decide) rfl
          obtain ⟨hB3, hp3_0⟩ := hr2
          have hrr105 : r2 = 1 := hB3.2.trans (by decide)
          subst hrr105
          refine lv_if_eq (tgt := 113) hx hb d_Mod_rule_108 (by decide) (fun h108 => ?_) (fun h108 => ?_)
          · first | exact absurd h108 (by decide) | exact absurd (by decide) h108
          · refine lv_iconst (v := 0) hx hb d_Mod_rule_111 (by decide) ?_
            exact tw_iret E hS (u3, n, ru, rs, rt) (Or.inl ⟨hp3_0, (ru_n1 h17), rfl, rfl, rfl⟩) hP hD d_Mod_rule_112
      · first | exact absurd h45 (by decide) | exact absurd (by decide) h45
    · obtain ⟨q1, hke, hq1, hq4⟩ := ru_k h17
      subst hke
      refine lv_iload_n hx hb d_Mod_rule_20 rfl (lv_at hl 3 rfl) ?_
      refine lv_aload_n hx hb d_Mod_rule_21 rfl (lv_at hl 1 rfl) ?_
      refine va_get (D := g.1) (ci := 10) (v := .int (nI n)) (C := R_Mod) (T := F_Mod) (N := 61) hx hb hts in_Mod hown hK hP 0 rfl rfl 1 (by decide) (hts _ wd_1251) (fun _ h9 => h9) rfl d_Mod_rule_22 ?_
      refine lv_icmp_gt (tgt := 32) hx hb d_Mod_rule_25 (by decide) (fun h25 => ?_) (fun h25 => ?_)
      · have h25 := tn_lt h25 (by omega) (by omega)
        refine lv_iconst (v := 0) hx hb d_Mod_rule_32 (by decide) ?_
        refine lv_istore hx hb d_Mod_rule_33 hl (by decide) rfl (fun ls hl => ?_)
        have hl : lv_has ls 7 [(4, .int 0), (3, .int 0), (0, .ref h0), (1, .int al), (2, .int (nI q1))] := hl
        refine lv_aload_n hx hb d_Mod_rule_35 rfl (lv_at hl 2 rfl) ?_
        refine va_get (D := g.1) (ci := 10) (v := .int (nI n)) (C := R_Mod) (T := F_Mod) (N := 61) hx hb hts in_Mod hown hK hP 0 rfl rfl 1 (by decide) (hts _ wd_1251) (fun _ h9 => h9) rfl d_Mod_rule_36 ?_
        refine lv_iload_n hx hb d_Mod_rule_39 rfl (lv_at hl 4 rfl) ?_
        refine lv_isub hx hb d_Mod_rule_40 ?_
        refine tw_ri (e2 := (nI n) - (nI q1)) rfl ?_
        refine lv_istore hx hb d_Mod_rule_41 hl (by decide) rfl (fun ls hl => ?_)
        have hl : lv_has ls 7 [(5, .int ((nI n) - (nI q1))), (4, .int 0), (3, .int 0), (0, .ref h0), (1, .int al), (2, .int (nI q1))] := hl
        refine lv_iload hx hb d_Mod_rule_43 (lv_at hl 1 rfl) ?_
        refine lv_if_eq (tgt := 79) hx hb d_Mod_rule_45 (by decide) (fun h45 => ?_) (fun h45 => ?_)
        · refine lv_aload_n hx hb d_Mod_rule_79 rfl (lv_at hl 3 rfl) ?_
          refine lv_iload hx hb d_Mod_rule_80 (lv_at hl 1 rfl) ?_
          refine lv_if_ne (tgt := 89) hx hb d_Mod_rule_82 (by decide) (fun h82 => ?_) (fun h82 => ?_)
          · first | exact absurd h82 (by decide) | exact absurd (by decide) h82
          · refine lv_iconst (v := 1) hx hb d_Mod_rule_85 (by decide) ?_
            refine lv_goto (tgt := 105) hx hb d_Mod_rule_86 (by decide) ?_
            refine tw_wi (wr := [((q 2), aI g 600 bs), ((q 3), aI g 2 ru), ((q 4), aI g 12 rs), ((q 5), aI g 480 rt)]) (tw_runV (ws := [(h0, .inr (10, mob q rf n mm mb fa fp av ev wi mn tp tc sc nf fd me mp xn mt wh tq ag an ig)), ((q 2), aI g 600 bs), ((q 3), aI g 2 ru), ((q 4), aI g 12 rs), ((q 5), aI g 480 rt)]) (wc := [(h0, .inr (10, mob q rf n mm mb fa fp av ev wi mn tp tc sc nf fd me mp xn mt wh tq ag an ig))]) (As := [.int 1]) (rest := []) E hB hK hZ (g_Mod_refused l g H.size h0 q n mm mb fa fp av ev wi mn tp tc sc nf fd me mp xn mt wh tq ag an ig rf 1) mc_Mod_refused mi_Mod_refused me_Mod_refused wd_1446 hP hD hS hA [0] rfl (by decide) 0 rfl rfl rfl rfl rfl (by decide) rfl hl.1 rfl (Nat.le_of_ble_eq_true rfl) (by decide) d_Mod_rule_105) hP hD hS hA [0] [1, 2, 3, 4] rfl rfl (by decide) (by decide) (fun r4 u5 H locs hr4 hP hD hS => ?_)
            try dsimp only at hr4
            have hP : va_P g.1 classes [((q 2), aI g 600 bs), ((q 3), aI g 2 ru), ((q 4), aI g 12 rs), ((q 5), aI g 480 rt), (h0, .inr (10, mob q u5 n mm mb fa fp av ev wi mn tp tc sc nf fd me mp xn mt wh tq ag an ig))] H := hP
            have hD : va_D A [((q 2), aI g 600 bs), ((q 3), aI g 2 ru), ((q 4), aI g 12 rs), ((q 5), aI g 480 rt), (h0, .inr (10, mob q u5 n mm mb fa fp av ev wi mn tp tc sc nf fd me mp xn mt wh tq ag an ig))] := hD
            have hP : va_P g.1 classes [(h0, .inr (10, mob q u5 n mm mb fa fp av ev wi mn tp tc sc nf fd me mp xn mt wh tq ag an ig)), ((q 2), aI g 600 bs), ((q 3), aI g 2 ru), ((q 4), aI g 12 rs), ((q 5), aI g 480 rt)] H := hP.sub [4, 0, 1, 2, 3] rfl
            have hD : va_D A [(h0, .inr (10, mob q u5 n mm mb fa fp av ev wi mn tp tc sc nf fd me mp xn mt wh tq ag an ig)), ((q 2), aI g 600 bs), ((q 3), aI g 2 ru), ((q 4), aI g 12 rs), ((q 5), aI g 480 rt)] := hD.sub [4, 0, 1, 2, 3] (by decide) rfl
            obtain ⟨hB5, hp5_0⟩ := hr4
            have hrr105 : r4 = 1 := hB5.2.trans (by decide)
            subst hrr105
            refine lv_if_eq (tgt := 113) hx hb d_Mod_rule_108 (by decide) (fun h108 => ?_) (fun h108 => ?_)
            · first | exact absurd h108 (by decide) | exact absurd (by decide) h108
            · refine lv_iconst (v := 0) hx hb d_Mod_rule_111 (by decide) ?_
              exact tw_iret E hS (u5, n, ru, rs, rt) (Or.inl ⟨hp5_0, (ru_n2 h25), rfl, rfl, rfl⟩) hP hD d_Mod_rule_112
        · first | exact absurd h45 (by decide) | exact absurd (by decide) h45
      · have h25 := tn_nlt h25 (by omega) (by omega)
        refine lv_iconst (v := 1) hx hb d_Mod_rule_28 (by decide) ?_
        refine lv_goto (tgt := 33) hx hb d_Mod_rule_29 (by decide) ?_
        refine lv_istore hx hb d_Mod_rule_33 hl (by decide) rfl (fun ls hl => ?_)
        have hl : lv_has ls 7 [(4, .int 1), (3, .int 0), (0, .ref h0), (1, .int al), (2, .int (nI q1))] := hl
        refine lv_aload_n hx hb d_Mod_rule_35 rfl (lv_at hl 2 rfl) ?_
        refine va_get (D := g.1) (ci := 10) (v := .int (nI n)) (C := R_Mod) (T := F_Mod) (N := 61) hx hb hts in_Mod hown hK hP 0 rfl rfl 1 (by decide) (hts _ wd_1251) (fun _ h9 => h9) rfl d_Mod_rule_36 ?_
        refine lv_iload_n hx hb d_Mod_rule_39 rfl (lv_at hl 4 rfl) ?_
        refine lv_isub hx hb d_Mod_rule_40 ?_
        refine tw_ri (e2 := nI (n - q1)) (pk_sub h25) ?_
        refine lv_istore hx hb d_Mod_rule_41 hl (by decide) rfl (fun ls hl => ?_)
        have hl : lv_has ls 7 [(5, .int (nI (n - q1))), (4, .int 1), (3, .int 0), (0, .ref h0), (1, .int al), (2, .int (nI q1))] := hl
        have loop43 : ∀ (kq : Nat) (s9 : Int32) (j : Nat) (ls : Array Slot) (H : Heap) (locs : List Loc) , n - j = kq → (hj1 : n - q1 ≤ j) → (hj2 : j ≤ n) → (hsj : RSJ bs n q1 j s9) → lv_has ls 7 [(5, .int (nI j)), (4, .int s9), (3, .int 0), (0, .ref h0), (1, .int al), (2, .int (nI q1))] → va_P g.1 classes [(h0, .inr (10, mob q rf n mm mb fa fp av ev wi mn tp tc sc nf fd me mp xn mt wh tq ag an ig)), ((q 2), aI g 600 bs), ((q 3), aI g 2 ru), ((q 4), aI g 12 rs), ((q 5), aI g 480 rt)] H → va_D A [(h0, .inr (10, mob q rf n mm mb fa fp av ev wi mn tp tc sc nf fd me mp xn mt wh tq ag an ig)), ((q 2), aI g 600 bs), ((q 3), aI g 2 ru), ((q 4), aI g 12 rs), ((q 5), aI g 480 rt)] → va_S A s.heap H locs → W p l e ({ frames := 1, cells := 0, slots := 0, locals := 22 }) s m [.ref h0, .int al, .int (nI q1)].toArray below meth c H locs 0 0 (MQ below (tw_Qi g (fun (r : Int32) (u : Int32 × Nat × (Nat → Int32) × (Nat → Int32) × (Nat → Int32)) => (RUP u.1 r n u.2.1 bs ru rs u.2.2.1 u.2.2.2.1 al (nI q1))) (fun u : Int32 × Nat × (Nat → Int32) × (Nat → Int32) × (Nat → Int32) => [(h0, .inr (10, mob q u.1 u.2.1 mm mb fa fp av ev wi mn tp tc sc nf fd me mp xn mt wh tq ag an ig)), ((q 2), aI g 600 bs), ((q 3), aI g 2 u.2.2.1), ((q 4), aI g 12 u.2.2.2.1), ((q 5), aI g 480 u.2.2.2.2)]) A) [.ref h0, .int al, .int (nI q1)].toArray s 0 0 A) (F0 m 43 ls []) := by
          intro kq
          induction kq using Nat.strongRecOn with
          | _ kq ih =>
            intro s9 j ls H locs hk hj1 hj2 hsj hl hP hD hS
            refine lv_iload hx hb d_Mod_rule_43 (lv_at hl 1 rfl) ?_
            refine lv_if_eq (tgt := 79) hx hb d_Mod_rule_45 (by decide) (fun h45 => ?_) (fun h45 => ?_)
            · refine lv_aload_n hx hb d_Mod_rule_79 rfl (lv_at hl 3 rfl) ?_
              refine lv_iload hx hb d_Mod_rule_80 (lv_at hl 1 rfl) ?_
              refine lv_if_ne (tgt := 89) hx hb d_Mod_rule_82 (by decide) (fun h82 => ?_) (fun h82 => ?_)
              · exact absurd h45 h82
              · refine lv_iconst (v := 1) hx hb d_Mod_rule_85 (by decide) ?_
                refine lv_goto (tgt := 105) hx hb d_Mod_rule_86 (by decide) ?_
                refine tw_wi (wr := [((q 2), aI g 600 bs), ((q 3), aI g 2 ru), ((q 4), aI g 12 rs), ((q 5), aI g 480 rt)]) (tw_runV (ws := [(h0, .inr (10, mob q rf n mm mb fa fp av ev wi mn tp tc sc nf fd me mp xn mt wh tq ag an ig)), ((q 2), aI g 600 bs), ((q 3), aI g 2 ru), ((q 4), aI g 12 rs), ((q 5), aI g 480 rt)]) (wc := [(h0, .inr (10, mob q rf n mm mb fa fp av ev wi mn tp tc sc nf fd me mp xn mt wh tq ag an ig))]) (As := [.int 1]) (rest := []) E hB hK hZ (g_Mod_refused l g H.size h0 q n mm mb fa fp av ev wi mn tp tc sc nf fd me mp xn mt wh tq ag an ig rf 1) mc_Mod_refused mi_Mod_refused me_Mod_refused wd_1446 hP hD hS hA [0] rfl (by decide) 0 rfl rfl rfl rfl rfl (by decide) rfl hl.1 rfl (Nat.le_of_ble_eq_true rfl) (by decide) d_Mod_rule_105) hP hD hS hA [0] [1, 2, 3, 4] rfl rfl (by decide) (by decide) (fun r6 u7 H locs hr6 hP hD hS => ?_)
                try dsimp only at hr6
                have hP : va_P g.1 classes [((q 2), aI g 600 bs), ((q 3), aI g 2 ru), ((q 4), aI g 12 rs), ((q 5), aI g 480 rt), (h0, .inr (10, mob q u7 n mm mb fa fp av ev wi mn tp tc sc nf fd me mp xn mt wh tq ag an ig))] H := hP
                have hD : va_D A [((q 2), aI g 600 bs), ((q 3), aI g 2 ru), ((q 4), aI g 12 rs), ((q 5), aI g 480 rt), (h0, .inr (10, mob q u7 n mm mb fa fp av ev wi mn tp tc sc nf fd me mp xn mt wh tq ag an ig))] := hD
                have hP : va_P g.1 classes [(h0, .inr (10, mob q u7 n mm mb fa fp av ev wi mn tp tc sc nf fd me mp xn mt wh tq ag an ig)), ((q 2), aI g 600 bs), ((q 3), aI g 2 ru), ((q 4), aI g 12 rs), ((q 5), aI g 480 rt)] H := hP.sub [4, 0, 1, 2, 3] rfl
                have hD : va_D A [(h0, .inr (10, mob q u7 n mm mb fa fp av ev wi mn tp tc sc nf fd me mp xn mt wh tq ag an ig)), ((q 2), aI g 600 bs), ((q 3), aI g 2 ru), ((q 4), aI g 12 rs), ((q 5), aI g 480 rt)] := hD.sub [4, 0, 1, 2, 3] (by decide) rfl
                obtain ⟨hB7, hp7_0⟩ := hr6
                have hrr105 : r6 = 1 := hB7.2.trans (by decide)
                subst hrr105
                refine lv_if_eq (tgt := 113) hx hb d_Mod_rule_108 (by decide) (fun h108 => ?_) (fun h108 => ?_)
                · first | exact absurd h108 (by decide) | exact absurd (by decide) h108
                · refine lv_iconst (v := 0) hx hb d_Mod_rule_111 (by decide) ?_
                  exact tw_iret E hS (u7, n, ru, rs, rt) (Or.inl ⟨hp7_0, (ru_n3 hsj h45), rfl, rfl, rfl⟩) hP hD d_Mod_rule_112
            · refine lv_iload hx hb d_Mod_rule_48 (lv_at hl 0 rfl) ?_
              refine lv_aload_n hx hb d_Mod_rule_50 rfl (lv_at hl 3 rfl) ?_
              refine va_get (D := g.1) (ci := 10) (v := .int (nI n)) (C := R_Mod) (T := F_Mod) (N := 61) hx hb hts in_Mod hown hK hP 0 rfl rfl 1 (by decide) (hts _ wd_1251) (fun _ h9 => h9) rfl d_Mod_rule_51 ?_
              refine lv_icmp_ge (tgt := 79) hx hb d_Mod_rule_54 (by decide) (fun h54 => ?_) (fun h54 => ?_)
              · have h54 := tn_le h54 (by omega) (by omega)
                refine lv_aload_n hx hb d_Mod_rule_79 rfl (lv_at hl 3 rfl) ?_
                refine lv_iload hx hb d_Mod_rule_80 (lv_at hl 1 rfl) ?_
                refine lv_if_ne (tgt := 89) hx hb d_Mod_rule_82 (by decide) (fun h82 => ?_) (fun h82 => ?_)
                · refine lv_aload_n hx hb d_Mod_rule_89 rfl (lv_at hl 3 rfl) ?_
                  refine va_get (D := g.1) (ci := 10) (v := .ref (q 3)) (C := R_Mod) (T := F_Mod) (N := 61) hx hb hts in_Mod hown hK hP 0 rfl rfl 3 (by decide) (hts _ wd_1253) (fun _ h9 => h9) rfl d_Mod_rule_90 ?_
                  refine lv_iload_n hx hb d_Mod_rule_93 rfl (lv_at hl 2 rfl) ?_
                  refine va_iald hx hb hK hP 2 0 rfl rfl (vp_in_nI (n := 0) (by decide) (by decide)) d_Mod_rule_94 ?_
                  refine tw_ri (e2 := nI c9) ec ?_
                  refine lv_bipush (v := 6) hx hb d_Mod_rule_95 (by decide) ?_
                  refine lv_icmp_ne (tgt := 104) hx hb d_Mod_rule_97 (by decide) (fun h97 => ?_) (fun h97 => ?_)
                  · have h97 := tn_ne (b := 6) h97
                    refine lv_iconst (v := 0) hx hb d_Mod_rule_104 (by decide) ?_
                    refine tw_wi (wr := [((q 2), aI g 600 bs), ((q 3), aI g 2 ru), ((q 4), aI g 12 rs), ((q 5), aI g 480 rt)]) (tw_runV (ws := [(h0, .inr (10, mob q rf n mm mb fa fp av ev wi mn tp tc sc nf fd me mp xn mt wh tq ag an ig)), ((q 2), aI g 600 bs), ((q 3), aI g 2 ru), ((q 4), aI g 12 rs), ((q 5), aI g 480 rt)]) (wc := [(h0, .inr (10, mob q rf n mm mb fa fp av ev wi mn tp tc sc nf fd me mp xn mt wh tq ag an ig))]) (As := [.int 0]) (rest := []) E hB hK hZ (g_Mod_refused l g H.size h0 q n mm mb fa fp av ev wi mn tp tc sc nf fd me mp xn mt wh tq ag an ig rf 0) mc_Mod_refused mi_Mod_refused me_Mod_refused wd_1446 hP hD hS hA [0] rfl (by decide) 0 rfl rfl rfl rfl rfl (by decide) rfl hl.1 rfl (Nat.le_of_ble_eq_true rfl) (by decide) d_Mod_rule_105) hP hD hS hA [0] [1, 2, 3, 4] rfl rfl (by decide) (by decide) (fun r8 u9 H locs hr8 hP hD hS => ?_)
                    try dsimp only at hr8
                    have hP : va_P g.1 classes [((q 2), aI g 600 bs), ((q 3), aI g 2 ru), ((q 4), aI g 12 rs), ((q 5), aI g 480 rt), (h0, .inr (10, mob q u9 n mm mb fa fp av ev wi mn tp tc sc nf fd me mp xn mt wh tq ag an ig))] H := hP
                    have hD : va_D A [((q 2), aI g 600 bs), ((q 3), aI g 2 ru), ((q 4), aI g 12 rs), ((q 5), aI g 480 rt), (h0, .inr (10, mob q u9 n mm mb fa fp av ev wi mn tp tc sc nf fd me mp xn mt wh tq ag an ig))] := hD
                    have hP : va_P g.1 classes [(h0, .inr (10, mob q u9 n mm mb fa fp av ev wi mn tp tc sc nf fd me mp xn mt wh tq ag an ig)), ((q 2), aI g 600 bs), ((q 3), aI g 2 ru), ((q 4), aI g 12 rs), ((q 5), aI g 480 rt)] H := hP.sub [4, 0, 1, 2, 3] rfl
                    have hD : va_D A [(h0, .inr (10, mob q u9 n mm mb fa fp av ev wi mn tp tc sc nf fd me mp xn mt wh tq ag an ig)), ((q 2), aI g 600 bs), ((q 3), aI g 2 ru), ((q 4), aI g 12 rs), ((q 5), aI g 480 rt)] := hD.sub [4, 0, 1, 2, 3] (by decide) rfl
                    obtain ⟨hB9, hp9_0⟩ := hr8
                    have hrr105 : r8 = 0 := hB9.2.trans (by decide)
                    subst hrr105
                    refine lv_if_eq (tgt := 113) hx hb d_Mod_rule_108 (by decide) (fun h108 => ?_) (fun h108 => ?_)
                    · refine lv_bipush (v := 6) hx hb d_Mod_rule_113 (by decide) ?_
                      refine lv_iload_n hx hb d_Mod_rule_115 rfl (lv_at hl 2 rfl) ?_
                      refine lv_imul hx hb d_Mod_rule_116 ?_
                      refine tw_ri (e2 := 0) (by decide) ?_
                      refine lv_aload_n hx hb d_Mod_rule_117 rfl (lv_at hl 3 rfl) ?_
                      refine va_get (D := g.1) (ci := 10) (v := .ref (q 3)) (C := R_Mod) (T := F_Mod) (N := 61) hx hb hts in_Mod hown hK hP 0 rfl rfl 3 (by decide) (hts _ wd_1253) (fun _ h9 => h9) rfl d_Mod_rule_118 ?_
                      refine lv_iload_n hx hb d_Mod_rule_121 rfl (lv_at hl 2 rfl) ?_
                      refine va_iald hx hb hK hP 2 0 rfl rfl (vp_in_nI (n := 0) (by decide) (by decide)) d_Mod_rule_122 ?_
                      refine tw_ri (e2 := nI c9) ec ?_
                      refine lv_iadd hx hb d_Mod_rule_123 ?_
                      refine tw_ri (e2 := nI (0 + c9)) (nI_add 0 c9) ?_
                      refine lv_istore hx hb d_Mod_rule_124 hl (by decide) rfl (fun ls hl => ?_)
                      have hl : lv_has ls 7 [(5, .int (nI (0 + c9))), (4, .int s9), (3, .int 0), (0, .ref h0), (1, .int al), (2, .int (nI q1))] := hl
                      refine lv_aload_n hx hb d_Mod_rule_126 rfl (lv_at hl 3 rfl) ?_
                      refine va_get (D := g.1) (ci := 10) (v := .ref (q 4)) (C := R_Mod) (T := F_Mod) (N := 61) hx hb hts in_Mod hown hK hP 0 rfl rfl 4 (by decide) (hts _ wd_1254) (fun _ h9 => h9) rfl d_Mod_rule_127 ?_
                      refine lv_iload hx hb d_Mod_rule_130 (lv_at hl 0 rfl) ?_
                      refine lv_iload_n hx hb d_Mod_rule_132 rfl (lv_at hl 5 rfl) ?_
                      refine va_iast hx hb hK hP hD hS 3 0 rfl rfl (vp_in_nI (by omega) (by decide)) d_Mod_rule_133 (fun H locs hP hD hS => ?_)
                      have hP : va_P g.1 classes [(h0, .inr (10, mob q u9 n mm mb fa fp av ev wi mn tp tc sc nf fd me mp xn mt wh tq ag an ig)), ((q 2), aI g 600 bs), ((q 3), aI g 2 ru), ((q 4), aI g 12 (upd rs (nI (0 + c9)).toNatClampNeg (nI q1))), ((q 5), aI g 480 rt)] H := hP
                      have hD : va_D A [(h0, .inr (10, mob q u9 n mm mb fa fp av ev wi mn tp tc sc nf fd me mp xn mt wh tq ag an ig)), ((q 2), aI g 600 bs), ((q 3), aI g 2 ru), ((q 4), aI g 12 (upd rs (nI (0 + c9)).toNatClampNeg (nI q1))), ((q 5), aI g 480 rt)] := hD
                      have e9 : upd rs (nI (0 + c9)).toNatClampNeg (nI q1) = upd rs (0 + c9) (nI q1) := by rw [nI_clamp (by omega)]
                      rw [e9] at hP hD
                      refine lv_iconst (v := 0) hx hb d_Mod_rule_134 (by decide) ?_
                      refine lv_istore hx hb d_Mod_rule_135 hl (by decide) rfl (fun ls hl => ?_)
                      have hl : lv_has ls 7 [(6, .int 0), (5, .int (nI (0 + c9))), (4, .int s9), (3, .int 0), (0, .ref h0), (1, .int al), (2, .int (nI q1))] := hl
                      have loop137 : ∀ (kq : Nat) (i : Nat) (rt9 : Nat → Int32) (ls : Array Slot) (H : Heap) (locs : List Loc) , q1 - i = kq → (hi : i ≤ q1) → lv_has ls 7 [(6, .int (nI i)), (5, .int (nI (0 + c9))), (4, .int s9), (3, .int 0), (0, .ref h0), (1, .int al), (2, .int (nI q1))] → va_P g.1 classes [(h0, .inr (10, mob q u9 n mm mb fa fp av ev wi mn tp tc sc nf fd me mp xn mt wh tq ag an ig)), ((q 2), aI g 600 bs), ((q 3), aI g 2 ru), ((q 4), aI g 12 (upd rs (0 + c9) (nI q1))), ((q 5), aI g 480 rt9)] H → va_D A [(h0, .inr (10, mob q u9 n mm mb fa fp av ev wi mn tp tc sc nf fd me mp xn mt wh tq ag an ig)), ((q 2), aI g 600 bs), ((q 3), aI g 2 ru), ((q 4), aI g 12 (upd rs (0 + c9) (nI q1))), ((q 5), aI g 480 rt9)] → va_S A s.heap H locs → W p l e ({ frames := 1, cells := 0, slots := 0, locals := 22 }) s m [.ref h0, .int al, .int (nI q1)].toArray below meth c H locs 0 0 (MQ below (tw_Qi g (fun (r : Int32) (u : Int32 × Nat × (Nat → Int32) × (Nat → Int32) × (Nat → Int32)) => (RUP u.1 r n u.2.1 bs ru rs u.2.2.1 u.2.2.2.1 al (nI q1))) (fun u : Int32 × Nat × (Nat → Int32) × (Nat → Int32) × (Nat → Int32) => [(h0, .inr (10, mob q u.1 u.2.1 mm mb fa fp av ev wi mn tp tc sc nf fd me mp xn mt wh tq ag an ig)), ((q 2), aI g 600 bs), ((q 3), aI g 2 u.2.2.1), ((q 4), aI g 12 u.2.2.2.1), ((q 5), aI g 480 u.2.2.2.2)]) A) [.ref h0, .int al, .int (nI q1)].toArray s 0 0 A) (F0 m 137 ls []) := by
                        intro kq
                        induction kq using Nat.strongRecOn with
                        | _ kq ih137 =>
                          intro i rt9 ls H locs hk137 hi hl hP hD hS
                          refine lv_iload hx hb d_Mod_rule_137 (lv_at hl 0 rfl) ?_
                          refine lv_iload_n hx hb d_Mod_rule_139 rfl (lv_at hl 6 rfl) ?_
                          refine lv_icmp_ge (tgt := 176) hx hb d_Mod_rule_140 (by decide) (fun h140 => ?_) (fun h140 => ?_)
                          · refine lv_aload_n hx hb d_Mod_rule_176 rfl (lv_at hl 4 rfl) ?_
                            refine lv_aload_n hx hb d_Mod_rule_177 rfl (lv_at hl 4 rfl) ?_
                            refine va_get (D := g.1) (ci := 10) (v := .int (nI n)) (C := R_Mod) (T := F_Mod) (N := 61) hx hb hts in_Mod hown hK hP 0 rfl rfl 1 (by decide) (hts _ wd_1251) (fun _ h9 => h9) rfl d_Mod_rule_178 ?_
                            refine lv_iload_n hx hb d_Mod_rule_181 rfl (lv_at hl 6 rfl) ?_
                            refine lv_isub hx hb d_Mod_rule_182 ?_
                            refine tw_ri (e2 := nI (n - q1)) (pk_sub h25) ?_
                            refine va_put (D := g.1) (ci := 10) (v := .int (nI (n - q1))) (ty := .int) (C := R_Mod) (T := F_Mod) (N := 61) hx hb hts in_Mod t_Mod t_Mod_ok n_Mod hown hK hP hD hS 0 rfl rfl 1 (by decide) (hts _ wd_1251) (fun _ h9 => h9) rfl (t_Mod_ok 1 (by decide)) rfl rfl (Nat.le_of_ble_eq_true rfl) d_Mod_rule_183 (fun H locs hP hD hS => ?_)
                            have hP : va_P g.1 classes [(h0, .inr (10, mob q u9 (n - q1) mm mb fa fp av ev wi mn tp tc sc nf fd me mp xn mt wh tq ag an ig)), ((q 2), aI g 600 bs), ((q 3), aI g 2 ru), ((q 4), aI g 12 (upd rs (0 + c9) (nI q1))), ((q 5), aI g 480 rt9)] H := hP
                            have hD : va_D A [(h0, .inr (10, mob q u9 (n - q1) mm mb fa fp av ev wi mn tp tc sc nf fd me mp xn mt wh tq ag an ig)), ((q 2), aI g 600 bs), ((q 3), aI g 2 ru), ((q 4), aI g 12 (upd rs (0 + c9) (nI q1))), ((q 5), aI g 480 rt9)] := hD
                            refine lv_aload_n hx hb d_Mod_rule_186 rfl (lv_at hl 4 rfl) ?_
                            refine va_get (D := g.1) (ci := 10) (v := .ref (q 3)) (C := R_Mod) (T := F_Mod) (N := 61) hx hb hts in_Mod hown hK hP 0 rfl rfl 3 (by decide) (hts _ wd_1253) (fun _ h9 => h9) rfl d_Mod_rule_187 ?_
                            refine lv_iload_n hx hb d_Mod_rule_190 rfl (lv_at hl 3 rfl) ?_
                            refine lv_dup2_11 hx hb d_Mod_rule_191 rfl rfl ?_
                            refine va_iald hx hb hK hP 2 0 rfl rfl (vp_in_nI (n := 0) (by decide) (by decide)) d_Mod_rule_192 ?_
                            refine tw_ri (e2 := nI c9) ec ?_
                            refine lv_iconst (v := 1) hx hb d_Mod_rule_193 (by decide) ?_
                            refine lv_iadd hx hb d_Mod_rule_194 ?_
                            refine tw_ri (e2 := nI (c9 + 1)) (nI_add c9 1) ?_
                            refine va_iast hx hb hK hP hD hS 2 0 rfl rfl (vp_in_nI (n := 0) (by decide) (by decide)) d_Mod_rule_195 (fun H locs hP hD hS => ?_)
                            have hP : va_P g.1 classes [(h0, .inr (10, mob q u9 (n - q1) mm mb fa fp av ev wi mn tp tc sc nf fd me mp xn mt wh tq ag an ig)), ((q 2), aI g 600 bs), ((q 3), aI g 2 (upd ru (0 : Int32).toNatClampNeg (nI (c9 + 1)))), ((q 4), aI g 12 (upd rs (0 + c9) (nI q1))), ((q 5), aI g 480 rt9)] H := hP
                            have hD : va_D A [(h0, .inr (10, mob q u9 (n - q1) mm mb fa fp av ev wi mn tp tc sc nf fd me mp xn mt wh tq ag an ig)), ((q 2), aI g 600 bs), ((q 3), aI g 2 (upd ru (0 : Int32).toNatClampNeg (nI (c9 + 1)))), ((q 4), aI g 12 (upd rs (0 + c9) (nI q1))), ((q 5), aI g 480 rt9)] := hD
                            have e9 : upd ru (0 : Int32).toNatClampNeg (nI (c9 + 1)) = upd ru 0 (nI (c9 + 1)) := rfl
                            rw [e9] at hP hD
                            refine lv_aload_n hx hb d_Mod_rule_196 rfl (lv_at hl 4 rfl) ?_
                            refine va_get (D := g.1) (ci := 10) (v := .ref (q 3)) (C := R_Mod) (T := F_Mod) (N := 61) hx hb hts in_Mod hown hK hP 0 rfl rfl 3 (by decide) (hts _ wd_1253) (fun _ h9 => h9) rfl d_Mod_rule_197 ?_
                            refine lv_iload_n hx hb d_Mod_rule_200 rfl (lv_at hl 3 rfl) ?_
                            refine va_iald hx hb hK hP 2 0 rfl rfl (vp_in_nI (n := 0) (by decide) (by decide)) d_Mod_rule_201 ?_
                            refine tw_ri (e2 := nI (c9 + 1)) (if_pos rfl) ?_
                            exact tw_iret E hS (u9, n - q1, upd ru 0 (nI (c9 + 1)), upd rs (0 + c9) (nI q1), rt9) (by unfold RUP; rw [hso]; exact Or.inr (Or.inr ⟨hp9_0, q1, c9, rfl, h25, ru_y hsj h45 (by omega) hq1 hq4 h25, ec, by omega, rfl, rfl, rfl, hq4, rfl⟩)) hP hD d_Mod_rule_202
                          · have h140 := tn_nle h140 (by omega) (by omega)
                            refine lv_aload_n hx hb d_Mod_rule_143 rfl (lv_at hl 4 rfl) ?_
                            refine va_get (D := g.1) (ci := 10) (v := .ref (q 5)) (C := R_Mod) (T := F_Mod) (N := 61) hx hb hts in_Mod hown hK hP 0 rfl rfl 5 (by decide) (hts _ wd_1255) (fun _ h9 => h9) rfl d_Mod_rule_144 ?_
                            refine lv_bipush (v := 40) hx hb d_Mod_rule_147 (by decide) ?_
                            refine lv_iload hx hb d_Mod_rule_149 (lv_at hl 1 rfl) ?_
                            refine lv_imul hx hb d_Mod_rule_151 ?_
                            refine tw_ri (e2 := nI (40 * (0 + c9))) (pk_mul 40 _) ?_
                            refine lv_iload hx hb d_Mod_rule_152 (lv_at hl 0 rfl) ?_
                            refine lv_iadd hx hb d_Mod_rule_154 ?_
                            refine tw_ri (e2 := nI (40 * (0 + c9) + i)) (nI_add _ _) ?_
                            refine lv_aload_n hx hb d_Mod_rule_155 rfl (lv_at hl 4 rfl) ?_
                            refine va_get (D := g.1) (ci := 10) (v := .ref (q 2)) (C := R_Mod) (T := F_Mod) (N := 61) hx hb hts in_Mod hown hK hP 0 rfl rfl 2 (by decide) (hts _ wd_1252) (fun _ h9 => h9) rfl d_Mod_rule_156 ?_
                            refine lv_aload_n hx hb d_Mod_rule_159 rfl (lv_at hl 4 rfl) ?_
                            refine va_get (D := g.1) (ci := 10) (v := .int (nI n)) (C := R_Mod) (T := F_Mod) (N := 61) hx hb hts in_Mod hown hK hP 0 rfl rfl 1 (by decide) (hts _ wd_1251) (fun _ h9 => h9) rfl d_Mod_rule_160 ?_
                            refine lv_iload_n hx hb d_Mod_rule_163 rfl (lv_at hl 6 rfl) ?_
                            refine lv_isub hx hb d_Mod_rule_164 ?_
                            refine tw_ri (e2 := nI (n - q1)) (pk_sub h25) ?_
                            refine lv_iload hx hb d_Mod_rule_165 (lv_at hl 0 rfl) ?_
                            refine lv_iadd hx hb d_Mod_rule_167 ?_
                            refine tw_ri (e2 := nI (n - q1 + i)) (nI_add _ _) ?_
                            refine va_iald hx hb hK hP 1 0 rfl rfl (vp_in_nI (by omega) (by decide)) d_Mod_rule_168 ?_
                            obtain ⟨x10, ex10⟩ : ∃ z : Int32, bs ((nI (n - q1 + i)).toNatClampNeg) = z := ⟨_, rfl⟩
                            refine tw_ri (e2 := x10) ex10 ?_
                            refine va_iast hx hb hK hP hD hS 4 0 rfl rfl (vp_in_nI (by omega) (by decide)) d_Mod_rule_169 (fun H locs hP hD hS => ?_)
                            have hP : va_P g.1 classes [(h0, .inr (10, mob q u9 n mm mb fa fp av ev wi mn tp tc sc nf fd me mp xn mt wh tq ag an ig)), ((q 2), aI g 600 bs), ((q 3), aI g 2 ru), ((q 4), aI g 12 (upd rs (0 + c9) (nI q1))), ((q 5), aI g 480 (upd rt9 (nI (40 * (0 + c9) + i)).toNatClampNeg x10))] H := hP
                            have hD : va_D A [(h0, .inr (10, mob q u9 n mm mb fa fp av ev wi mn tp tc sc nf fd me mp xn mt wh tq ag an ig)), ((q 2), aI g 600 bs), ((q 3), aI g 2 ru), ((q 4), aI g 12 (upd rs (0 + c9) (nI q1))), ((q 5), aI g 480 (upd rt9 (nI (40 * (0 + c9) + i)).toNatClampNeg x10))] := hD
                            refine lv_iinc (k := 0) (v := nI (i + 1)) hx hb d_Mod_rule_170 hl rfl ((nI_succ i).symm) (by decide) rfl (fun ls hl => ?_)
                            have hl : lv_has ls 7 [(6, .int (nI (i + 1))), (5, .int (nI (0 + c9))), (4, .int s9), (3, .int 0), (0, .ref h0), (1, .int al), (2, .int (nI q1))] := hl
                            refine lv_goto (tgt := 137) hx hb d_Mod_rule_173 (by decide) ?_
                            have hP : va_P g.1 classes [(h0, .inr (10, mob q u9 n mm mb fa fp av ev wi mn tp tc sc nf fd me mp xn mt wh tq ag an ig)), ((q 2), aI g 600 bs), ((q 3), aI g 2 ru), ((q 4), aI g 12 (upd rs (0 + c9) (nI q1))), ((q 5), aI g 480 (upd rt9 (nI (40 * (0 + c9) + i)).toNatClampNeg x10))] H := hP.sub [0, 1, 2, 3, 4] rfl
                            have hD : va_D A [(h0, .inr (10, mob q u9 n mm mb fa fp av ev wi mn tp tc sc nf fd me mp xn mt wh tq ag an ig)), ((q 2), aI g 600 bs), ((q 3), aI g 2 ru), ((q 4), aI g 12 (upd rs (0 + c9) (nI q1))), ((q 5), aI g 480 (upd rt9 (nI (40 * (0 + c9) + i)).toNatClampNeg x10))] := hD.sub [0, 1, 2, 3, 4] (by decide) rfl
                            exact ih137 _ (by omega) (i + 1) (upd rt9 (nI (40 * (0 + c9) + i)).toNatClampNeg x10) ls _ _ rfl (by omega) (lv_sub hl [0, 1, 2, 3, 4, 5, 6] rfl) hP hD hS
                      exact loop137 _ 0 rt ls _ _ rfl (Nat.zero_le _) (hl) hP hD hS
                    · first | exact absurd h108 (by decide) | exact absurd (by decide) h108
                  · refine lv_iconst (v := 2) hx hb d_Mod_rule_100 (by decide) ?_
                    refine lv_goto (tgt := 105) hx hb d_Mod_rule_101 (by decide) ?_
                    refine tw_wi (wr := [((q 2), aI g 600 bs), ((q 3), aI g 2 ru), ((q 4), aI g 12 rs), ((q 5), aI g 480 rt)]) (tw_runV (ws := [(h0, .inr (10, mob q rf n mm mb fa fp av ev wi mn tp tc sc nf fd me mp xn mt wh tq ag an ig)), ((q 2), aI g 600 bs), ((q 3), aI g 2 ru), ((q 4), aI g 12 rs), ((q 5), aI g 480 rt)]) (wc := [(h0, .inr (10, mob q rf n mm mb fa fp av ev wi mn tp tc sc nf fd me mp xn mt wh tq ag an ig))]) (As := [.int 2]) (rest := []) E hB hK hZ (g_Mod_refused l g H.size h0 q n mm mb fa fp av ev wi mn tp tc sc nf fd me mp xn mt wh tq ag an ig rf 2) mc_Mod_refused mi_Mod_refused me_Mod_refused wd_1446 hP hD hS hA [0] rfl (by decide) 0 rfl rfl rfl rfl rfl (by decide) rfl hl.1 rfl (Nat.le_of_ble_eq_true rfl) (by decide) d_Mod_rule_105) hP hD hS hA [0] [1, 2, 3, 4] rfl rfl (by decide) (by decide) (fun r11 u12 H locs hr11 hP hD hS => ?_)
                    try dsimp only at hr11
                    have hP : va_P g.1 classes [((q 2), aI g 600 bs), ((q 3), aI g 2 ru), ((q 4), aI g 12 rs), ((q 5), aI g 480 rt), (h0, .inr (10, mob q u12 n mm mb fa fp av ev wi mn tp tc sc nf fd me mp xn mt wh tq ag an ig))] H := hP
                    have hD : va_D A [((q 2), aI g 600 bs), ((q 3), aI g 2 ru), ((q 4), aI g 12 rs), ((q 5), aI g 480 rt), (h0, .inr (10, mob q u12 n mm mb fa fp av ev wi mn tp tc sc nf fd me mp xn mt wh tq ag an ig))] := hD
                    have hP : va_P g.1 classes [(h0, .inr (10, mob q u12 n mm mb fa fp av ev wi mn tp tc sc nf fd me mp xn mt wh tq ag an ig)), ((q 2), aI g 600 bs), ((q 3), aI g 2 ru), ((q 4), aI g 12 rs), ((q 5), aI g 480 rt)] H := hP.sub [4, 0, 1, 2, 3] rfl
                    have hD : va_D A [(h0, .inr (10, mob q u12 n mm mb fa fp av ev wi mn tp tc sc nf fd me mp xn mt wh tq ag an ig)), ((q 2), aI g 600 bs), ((q 3), aI g 2 ru), ((q 4), aI g 12 rs), ((q 5), aI g 480 rt)] := hD.sub [4, 0, 1, 2, 3] (by decide) rfl
                    obtain ⟨hB12, hp12_0⟩ := hr11
                    have hrr105 : r11 = 1 := hB12.2.trans (by decide)
                    subst hrr105
                    refine lv_if_eq (tgt := 113) hx hb d_Mod_rule_108 (by decide) (fun h108 => ?_) (fun h108 => ?_)
                    · first | exact absurd h108 (by decide) | exact absurd (by decide) h108
                    · refine lv_iconst (v := 0) hx hb d_Mod_rule_111 (by decide) ?_
                      exact tw_iret E hS (u12, n, ru, rs, rt) (by unfold RUP; rw [hso]; exact Or.inr (Or.inl ⟨hp12_0, ru_y hsj h45 (by omega) hq1 hq4 h25, ec.trans h97, rfl, rfl, rfl⟩)) hP hD d_Mod_rule_112
                · exact absurd h82 h45
              · have h54 := tn_nle h54 (by omega) (by omega)
                refine lv_aload_n hx hb d_Mod_rule_57 rfl (lv_at hl 3 rfl) ?_
                refine va_get (D := g.1) (ci := 10) (v := .ref (q 2)) (C := R_Mod) (T := F_Mod) (N := 61) hx hb hts in_Mod hown hK hP 0 rfl rfl 2 (by decide) (hts _ wd_1252) (fun _ h9 => h9) rfl d_Mod_rule_58 ?_
                refine lv_iload hx hb d_Mod_rule_61 (lv_at hl 0 rfl) ?_
                refine va_iald hx hb hK hP 1 0 rfl rfl (vp_in_nI (by omega) (by decide)) d_Mod_rule_63 ?_
                refine tw_ri (e2 := nI (bt bs j)) (by rw [nI_clamp (by omega)]; exact bt_eq hbs (by omega)) ?_
                refine lv_bipush (v := 33) hx hb d_Mod_rule_64 (by decide) ?_
                refine lv_bipush (v := 126) hx hb d_Mod_rule_66 (by decide) ?_
                refine tw_si (tw_runS (ws := [(h0, .inr (10, mob q rf n mm mb fa fp av ev wi mn tp tc sc nf fd me mp xn mt wh tq ag an ig)), ((q 2), aI g 600 bs), ((q 3), aI g 2 ru), ((q 4), aI g 12 rs), ((q 5), aI g 480 rt)]) (wc := []) (As := [.int (nI (bt bs j)), .int 33, .int 126]) (rest := []) E hB hK hZ (c_Mod_isIn l g H.size (nI (bt bs j)) 33 126) mc_Mod_isIn ms_Mod_isIn wd_1443 hP hD hS hA [] rfl (by decide) rfl rfl (by decide) rfl hl.1 rfl (Nat.le_of_ble_eq_true rfl) (by decide) d_Mod_rule_68) (fun r13 hr13 => ?_)
                obtain rfl : r13 = is_in (nI (bt bs j)) 33 126 := hr13
                refine lv_istore hx hb d_Mod_rule_71 hl (by decide) rfl (fun ls hl => ?_)
                have hl : lv_has ls 7 [(4, .int (is_in (nI (bt bs j)) 33 126)), (5, .int (nI j)), (3, .int 0), (0, .ref h0), (1, .int al), (2, .int (nI q1))] := hl
                refine lv_iinc (k := 1) (v := nI (j + 1)) hx hb d_Mod_rule_73 hl rfl ((nI_succ j).symm) (by decide) rfl (fun ls hl => ?_)
                have hl : lv_has ls 7 [(5, .int (nI (j + 1))), (4, .int (is_in (nI (bt bs j)) 33 126)), (3, .int 0), (0, .ref h0), (1, .int al), (2, .int (nI q1))] := hl
                refine lv_goto (tgt := 43) hx hb d_Mod_rule_76 (by decide) ?_
                have hP : va_P g.1 classes [(h0, .inr (10, mob q rf n mm mb fa fp av ev wi mn tp tc sc nf fd me mp xn mt wh tq ag an ig)), ((q 2), aI g 600 bs), ((q 3), aI g 2 ru), ((q 4), aI g 12 rs), ((q 5), aI g 480 rt)] H := hP.sub [0, 1, 2, 3, 4] rfl
                have hD : va_D A [(h0, .inr (10, mob q rf n mm mb fa fp av ev wi mn tp tc sc nf fd me mp xn mt wh tq ag an ig)), ((q 2), aI g 600 bs), ((q 3), aI g 2 ru), ((q 4), aI g 12 rs), ((q 5), aI g 480 rt)] := hD.sub [0, 1, 2, 3, 4] (by decide) rfl
                exact ih _ (by omega) (is_in (nI (bt bs j)) 33 126) (j + 1) ls _ _ rfl (by omega) (by omega) (ru_step hsj h45 hj1 h54 (bt_lt hbs (by omega))) (lv_sub hl [0, 1, 2, 3, 4, 5] rfl) hP hD hS
        exact loop43 _ 1 (n - q1) ls _ _ rfl (Nat.le_refl _) (by omega) (Or.inl ⟨rfl, fun i h1 h2 => absurd h2 (by omega)⟩) (hl) hP hD hS
  · have hso : so_ al = 1 := if_neg h1
    obtain ⟨c9, hc6, ec⟩ := hru 1 (by decide)
    refine lv_iconst (v := 1) hx hb d_Mod_rule_4 (by decide) ?_
    refine lv_goto (tgt := 9) hx hb d_Mod_rule_5 (by decide) ?_
    refine lv_istore_n hx hb d_Mod_rule_9 rfl hl (by decide) rfl (fun ls hl => ?_)
    have hl : lv_has ls 7 [(3, .int 1), (0, .ref h0), (1, .int al), (2, .int k9)] := hl
    refine lv_iload_n hx hb d_Mod_rule_10 rfl (lv_at hl 3 rfl) ?_
    refine lv_iconst (v := 1) hx hb d_Mod_rule_11 (by decide) ?_
    refine lv_bipush (v := 40) hx hb d_Mod_rule_12 (by decide) ?_
    refine tw_si (tw_runS (ws := [(h0, .inr (10, mob q rf n mm mb fa fp av ev wi mn tp tc sc nf fd me mp xn mt wh tq ag an ig)), ((q 2), aI g 600 bs), ((q 3), aI g 2 ru), ((q 4), aI g 12 rs), ((q 5), aI g 480 rt)]) (wc := []) (As := [.int k9, .int 1, .int 40]) (rest := []) E hB hK hZ (c_Mod_isIn l g H.size k9 1 40) mc_Mod_isIn ms_Mod_isIn wd_1443 hP hD hS hA [] rfl (by decide) rfl rfl (by decide) rfl hl.1 rfl (Nat.le_of_ble_eq_true rfl) (by decide) d_Mod_rule_14) (fun r14 hr14 => ?_)
    obtain rfl : r14 = is_in k9 1 40 := hr14
    refine lv_if_eq (tgt := 32) hx hb d_Mod_rule_17 (by decide) (fun h17 => ?_) (fun h17 => ?_)
    · refine lv_iconst (v := 0) hx hb d_Mod_rule_32 (by decide) ?_
      refine lv_istore hx hb d_Mod_rule_33 hl (by decide) rfl (fun ls hl => ?_)
      have hl : lv_has ls 7 [(4, .int 0), (3, .int 1), (0, .ref h0), (1, .int al), (2, .int k9)] := hl
      refine lv_aload_n hx hb d_Mod_rule_35 rfl (lv_at hl 2 rfl) ?_
      refine va_get (D := g.1) (ci := 10) (v := .int (nI n)) (C := R_Mod) (T := F_Mod) (N := 61) hx hb hts in_Mod hown hK hP 0 rfl rfl 1 (by decide) (hts _ wd_1251) (fun _ h9 => h9) rfl d_Mod_rule_36 ?_
      refine lv_iload_n hx hb d_Mod_rule_39 rfl (lv_at hl 4 rfl) ?_
      refine lv_isub hx hb d_Mod_rule_40 ?_
      refine tw_ri (e2 := (nI n) - k9) rfl ?_
      refine lv_istore hx hb d_Mod_rule_41 hl (by decide) rfl (fun ls hl => ?_)
      have hl : lv_has ls 7 [(5, .int ((nI n) - k9)), (4, .int 0), (3, .int 1), (0, .ref h0), (1, .int al), (2, .int k9)] := hl
      refine lv_iload hx hb d_Mod_rule_43 (lv_at hl 1 rfl) ?_
      refine lv_if_eq (tgt := 79) hx hb d_Mod_rule_45 (by decide) (fun h45 => ?_) (fun h45 => ?_)
      · refine lv_aload_n hx hb d_Mod_rule_79 rfl (lv_at hl 3 rfl) ?_
        refine lv_iload hx hb d_Mod_rule_80 (lv_at hl 1 rfl) ?_
        refine lv_if_ne (tgt := 89) hx hb d_Mod_rule_82 (by decide) (fun h82 => ?_) (fun h82 => ?_)
        · first | exact absurd h82 (by decide) | exact absurd (by decide) h82
        · refine lv_iconst (v := 1) hx hb d_Mod_rule_85 (by decide) ?_
          refine lv_goto (tgt := 105) hx hb d_Mod_rule_86 (by decide) ?_
          refine tw_wi (wr := [((q 2), aI g 600 bs), ((q 3), aI g 2 ru), ((q 4), aI g 12 rs), ((q 5), aI g 480 rt)]) (tw_runV (ws := [(h0, .inr (10, mob q rf n mm mb fa fp av ev wi mn tp tc sc nf fd me mp xn mt wh tq ag an ig)), ((q 2), aI g 600 bs), ((q 3), aI g 2 ru), ((q 4), aI g 12 rs), ((q 5), aI g 480 rt)]) (wc := [(h0, .inr (10, mob q rf n mm mb fa fp av ev wi mn tp tc sc nf fd me mp xn mt wh tq ag an ig))]) (As := [.int 1]) (rest := []) E hB hK hZ (g_Mod_refused l g H.size h0 q n mm mb fa fp av ev wi mn tp tc sc nf fd me mp xn mt wh tq ag an ig rf 1) mc_Mod_refused mi_Mod_refused me_Mod_refused wd_1446 hP hD hS hA [0] rfl (by decide) 0 rfl rfl rfl rfl rfl (by decide) rfl hl.1 rfl (Nat.le_of_ble_eq_true rfl) (by decide) d_Mod_rule_105) hP hD hS hA [0] [1, 2, 3, 4] rfl rfl (by decide) (by decide) (fun r15 u16 H locs hr15 hP hD hS => ?_)
          try dsimp only at hr15
          have hP : va_P g.1 classes [((q 2), aI g 600 bs), ((q 3), aI g 2 ru), ((q 4), aI g 12 rs), ((q 5), aI g 480 rt), (h0, .inr (10, mob q u16 n mm mb fa fp av ev wi mn tp tc sc nf fd me mp xn mt wh tq ag an ig))] H := hP
          have hD : va_D A [((q 2), aI g 600 bs), ((q 3), aI g 2 ru), ((q 4), aI g 12 rs), ((q 5), aI g 480 rt), (h0, .inr (10, mob q u16 n mm mb fa fp av ev wi mn tp tc sc nf fd me mp xn mt wh tq ag an ig))] := hD
          have hP : va_P g.1 classes [(h0, .inr (10, mob q u16 n mm mb fa fp av ev wi mn tp tc sc nf fd me mp xn mt wh tq ag an ig)), ((q 2), aI g 600 bs), ((q 3), aI g 2 ru), ((q 4), aI g 12 rs), ((q 5), aI g 480 rt)] H := hP.sub [4, 0, 1, 2, 3] rfl
          have hD : va_D A [(h0, .inr (10, mob q u16 n mm mb fa fp av ev wi mn tp tc sc nf fd me mp xn mt wh tq ag an ig)), ((q 2), aI g 600 bs), ((q 3), aI g 2 ru), ((q 4), aI g 12 rs), ((q 5), aI g 480 rt)] := hD.sub [4, 0, 1, 2, 3] (by decide) rfl
          obtain ⟨hB16, hp16_0⟩ := hr15
          have hrr105 : r15 = 1 := hB16.2.trans (by decide)
          subst hrr105
          refine lv_if_eq (tgt := 113) hx hb d_Mod_rule_108 (by decide) (fun h108 => ?_) (fun h108 => ?_)
          · first | exact absurd h108 (by decide) | exact absurd (by decide) h108
          · refine lv_iconst (v := 0) hx hb d_Mod_rule_111 (by decide) ?_
            exact tw_iret E hS (u16, n, ru, rs, rt) (Or.inl ⟨hp16_0, (ru_n1 h17), rfl, rfl, rfl⟩) hP hD d_Mod_rule_112
      · first | exact absurd h45 (by decide) | exact absurd (by decide) h45
    · obtain ⟨q1, hke, hq1, hq4⟩ := ru_k h17
      subst hke
      refine lv_iload_n hx hb d_Mod_rule_20 rfl (lv_at hl 3 rfl) ?_
      refine lv_aload_n hx hb d_Mod_rule_21 rfl (lv_at hl 1 rfl) ?_
      refine va_get (D := g.1) (ci := 10) (v := .int (nI n)) (C := R_Mod) (T := F_Mod) (N := 61) hx hb hts in_Mod hown hK hP 0 rfl rfl 1 (by decide) (hts _ wd_1251) (fun _ h9 => h9) rfl d_Mod_rule_22 ?_
      refine lv_icmp_gt (tgt := 32) hx hb d_Mod_rule_25 (by decide) (fun h25 => ?_) (fun h25 => ?_)
      · have h25 := tn_lt h25 (by omega) (by omega)
        refine lv_iconst (v := 0) hx hb d_Mod_rule_32 (by decide) ?_
        refine lv_istore hx hb d_Mod_rule_33 hl (by decide) rfl (fun ls hl => ?_)
        have hl : lv_has ls 7 [(4, .int 0), (3, .int 1), (0, .ref h0), (1, .int al), (2, .int (nI q1))] := hl
        refine lv_aload_n hx hb d_Mod_rule_35 rfl (lv_at hl 2 rfl) ?_
        refine va_get (D := g.1) (ci := 10) (v := .int (nI n)) (C := R_Mod) (T := F_Mod) (N := 61) hx hb hts in_Mod hown hK hP 0 rfl rfl 1 (by decide) (hts _ wd_1251) (fun _ h9 => h9) rfl d_Mod_rule_36 ?_
        refine lv_iload_n hx hb d_Mod_rule_39 rfl (lv_at hl 4 rfl) ?_
        refine lv_isub hx hb d_Mod_rule_40 ?_
        refine tw_ri (e2 := (nI n) - (nI q1)) rfl ?_
        refine lv_istore hx hb d_Mod_rule_41 hl (by decide) rfl (fun ls hl => ?_)
        have hl : lv_has ls 7 [(5, .int ((nI n) - (nI q1))), (4, .int 0), (3, .int 1), (0, .ref h0), (1, .int al), (2, .int (nI q1))] := hl
        refine lv_iload hx hb d_Mod_rule_43 (lv_at hl 1 rfl) ?_
        refine lv_if_eq (tgt := 79) hx hb d_Mod_rule_45 (by decide) (fun h45 => ?_) (fun h45 => ?_)
        · refine lv_aload_n hx hb d_Mod_rule_79 rfl (lv_at hl 3 rfl) ?_
          refine lv_iload hx hb d_Mod_rule_80 (lv_at hl 1 rfl) ?_
          refine lv_if_ne (tgt := 89) hx hb d_Mod_rule_82 (by decide) (fun h82 => ?_) (fun h82 => ?_)
          · first | exact absurd h82 (by decide) | exact absurd (by decide) h82
          · refine lv_iconst (v := 1) hx hb d_Mod_rule_85 (by decide) ?_
            refine lv_goto (tgt := 105) hx hb d_Mod_rule_86 (by decide) ?_
            refine tw_wi (wr := [((q 2), aI g 600 bs), ((q 3), aI g 2 ru), ((q 4), aI g 12 rs), ((q 5), aI g 480 rt)]) (tw_runV (ws := [(h0, .inr (10, mob q rf n mm mb fa fp av ev wi mn tp tc sc nf fd me mp xn mt wh tq ag an ig)), ((q 2), aI g 600 bs), ((q 3), aI g 2 ru), ((q 4), aI g 12 rs), ((q 5), aI g 480 rt)]) (wc := [(h0, .inr (10, mob q rf n mm mb fa fp av ev wi mn tp tc sc nf fd me mp xn mt wh tq ag an ig))]) (As := [.int 1]) (rest := []) E hB hK hZ (g_Mod_refused l g H.size h0 q n mm mb fa fp av ev wi mn tp tc sc nf fd me mp xn mt wh tq ag an ig rf 1) mc_Mod_refused mi_Mod_refused me_Mod_refused wd_1446 hP hD hS hA [0] rfl (by decide) 0 rfl rfl rfl rfl rfl (by decide) rfl hl.1 rfl (Nat.le_of_ble_eq_true rfl) (by decide) d_Mod_rule_105) hP hD hS hA [0] [1, 2, 3, 4] rfl rfl (by decide) (by decide) (fun r17 u18 H locs hr17 hP hD hS => ?_)
            try dsimp only at hr17
            have hP : va_P g.1 classes [((q 2), aI g 600 bs), ((q 3), aI g 2 ru), ((q 4), aI g 12 rs), ((q 5), aI g 480 rt), (h0, .inr (10, mob q u18 n mm mb fa fp av ev wi mn tp tc sc nf fd me mp xn mt wh tq ag an ig))] H := hP
            have hD : va_D A [((q 2), aI g 600 bs), ((q 3), aI g 2 ru), ((q 4), aI g 12 rs), ((q 5), aI g 480 rt), (h0, .inr (10, mob q u18 n mm mb fa fp av ev wi mn tp tc sc nf fd me mp xn mt wh tq ag an ig))] := hD
            have hP : va_P g.1 classes [(h0, .inr (10, mob q u18 n mm mb fa fp av ev wi mn tp tc sc nf fd me mp xn mt wh tq ag an ig)), ((q 2), aI g 600 bs), ((q 3), aI g 2 ru), ((q 4), aI g 12 rs), ((q 5), aI g 480 rt)] H := hP.sub [4, 0, 1, 2, 3] rfl
            have hD : va_D A [(h0, .inr (10, mob q u18 n mm mb fa fp av ev wi mn tp tc sc nf fd me mp xn mt wh tq ag an ig)), ((q 2), aI g 600 bs), ((q 3), aI g 2 ru), ((q 4), aI g 12 rs), ((q 5), aI g 480 rt)] := hD.sub [4, 0, 1, 2, 3] (by decide) rfl
            obtain ⟨hB18, hp18_0⟩ := hr17
            have hrr105 : r17 = 1 := hB18.2.trans (by decide)
            subst hrr105
            refine lv_if_eq (tgt := 113) hx hb d_Mod_rule_108 (by decide) (fun h108 => ?_) (fun h108 => ?_)
            · first | exact absurd h108 (by decide) | exact absurd (by decide) h108
            · refine lv_iconst (v := 0) hx hb d_Mod_rule_111 (by decide) ?_
              exact tw_iret E hS (u18, n, ru, rs, rt) (Or.inl ⟨hp18_0, (ru_n2 h25), rfl, rfl, rfl⟩) hP hD d_Mod_rule_112
        · first | exact absurd h45 (by decide) | exact absurd (by decide) h45
      · have h25 := tn_nlt h25 (by omega) (by omega)
        refine lv_iconst (v := 1) hx hb d_Mod_rule_28 (by decide) ?_
        refine lv_goto (tgt := 33) hx hb d_Mod_rule_29 (by decide) ?_
        refine lv_istore hx hb d_Mod_rule_33 hl (by decide) rfl (fun ls hl => ?_)
        have hl : lv_has ls 7 [(4, .int 1), (3, .int 1), (0, .ref h0), (1, .int al), (2, .int (nI q1))] := hl
        refine lv_aload_n hx hb d_Mod_rule_35 rfl (lv_at hl 2 rfl) ?_
        refine va_get (D := g.1) (ci := 10) (v := .int (nI n)) (C := R_Mod) (T := F_Mod) (N := 61) hx hb hts in_Mod hown hK hP 0 rfl rfl 1 (by decide) (hts _ wd_1251) (fun _ h9 => h9) rfl d_Mod_rule_36 ?_
        refine lv_iload_n hx hb d_Mod_rule_39 rfl (lv_at hl 4 rfl) ?_
        refine lv_isub hx hb d_Mod_rule_40 ?_
        refine tw_ri (e2 := nI (n - q1)) (pk_sub h25) ?_
        refine lv_istore hx hb d_Mod_rule_41 hl (by decide) rfl (fun ls hl => ?_)
        have hl : lv_has ls 7 [(5, .int (nI (n - q1))), (4, .int 1), (3, .int 1), (0, .ref h0), (1, .int al), (2, .int (nI q1))] := hl
        have loop43 : ∀ (kq : Nat) (s9 : Int32) (j : Nat) (ls : Array Slot) (H : Heap) (locs : List Loc) , n - j = kq → (hj1 : n - q1 ≤ j) → (hj2 : j ≤ n) → (hsj : RSJ bs n q1 j s9) → lv_has ls 7 [(5, .int (nI j)), (4, .int s9), (3, .int 1), (0, .ref h0), (1, .int al), (2, .int (nI q1))] → va_P g.1 classes [(h0, .inr (10, mob q rf n mm mb fa fp av ev wi mn tp tc sc nf fd me mp xn mt wh tq ag an ig)), ((q 2), aI g 600 bs), ((q 3), aI g 2 ru), ((q 4), aI g 12 rs), ((q 5), aI g 480 rt)] H → va_D A [(h0, .inr (10, mob q rf n mm mb fa fp av ev wi mn tp tc sc nf fd me mp xn mt wh tq ag an ig)), ((q 2), aI g 600 bs), ((q 3), aI g 2 ru), ((q 4), aI g 12 rs), ((q 5), aI g 480 rt)] → va_S A s.heap H locs → W p l e ({ frames := 1, cells := 0, slots := 0, locals := 22 }) s m [.ref h0, .int al, .int (nI q1)].toArray below meth c H locs 0 0 (MQ below (tw_Qi g (fun (r : Int32) (u : Int32 × Nat × (Nat → Int32) × (Nat → Int32) × (Nat → Int32)) => (RUP u.1 r n u.2.1 bs ru rs u.2.2.1 u.2.2.2.1 al (nI q1))) (fun u : Int32 × Nat × (Nat → Int32) × (Nat → Int32) × (Nat → Int32) => [(h0, .inr (10, mob q u.1 u.2.1 mm mb fa fp av ev wi mn tp tc sc nf fd me mp xn mt wh tq ag an ig)), ((q 2), aI g 600 bs), ((q 3), aI g 2 u.2.2.1), ((q 4), aI g 12 u.2.2.2.1), ((q 5), aI g 480 u.2.2.2.2)]) A) [.ref h0, .int al, .int (nI q1)].toArray s 0 0 A) (F0 m 43 ls []) := by
          intro kq
          induction kq using Nat.strongRecOn with
          | _ kq ih =>
            intro s9 j ls H locs hk hj1 hj2 hsj hl hP hD hS
            refine lv_iload hx hb d_Mod_rule_43 (lv_at hl 1 rfl) ?_
            refine lv_if_eq (tgt := 79) hx hb d_Mod_rule_45 (by decide) (fun h45 => ?_) (fun h45 => ?_)
            · refine lv_aload_n hx hb d_Mod_rule_79 rfl (lv_at hl 3 rfl) ?_
              refine lv_iload hx hb d_Mod_rule_80 (lv_at hl 1 rfl) ?_
              refine lv_if_ne (tgt := 89) hx hb d_Mod_rule_82 (by decide) (fun h82 => ?_) (fun h82 => ?_)
              · exact absurd h45 h82
              · refine lv_iconst (v := 1) hx hb d_Mod_rule_85 (by decide) ?_
                refine lv_goto (tgt := 105) hx hb d_Mod_rule_86 (by decide) ?_
                refine tw_wi (wr := [((q 2), aI g 600 bs), ((q 3), aI g 2 ru), ((q 4), aI g 12 rs), ((q 5), aI g 480 rt)]) (tw_runV (ws := [(h0, .inr (10, mob q rf n mm mb fa fp av ev wi mn tp tc sc nf fd me mp xn mt wh tq ag an ig)), ((q 2), aI g 600 bs), ((q 3), aI g 2 ru), ((q 4), aI g 12 rs), ((q 5), aI g 480 rt)]) (wc := [(h0, .inr (10, mob q rf n mm mb fa fp av ev wi mn tp tc sc nf fd me mp xn mt wh tq ag an ig))]) (As := [.int 1]) (rest := []) E hB hK hZ (g_Mod_refused l g H.size h0 q n mm mb fa fp av ev wi mn tp tc sc nf fd me mp xn mt wh tq ag an ig rf 1) mc_Mod_refused mi_Mod_refused me_Mod_refused wd_1446 hP hD hS hA [0] rfl (by decide) 0 rfl rfl rfl rfl rfl (by decide) rfl hl.1 rfl (Nat.le_of_ble_eq_true rfl) (by decide) d_Mod_rule_105) hP hD hS hA [0] [1, 2, 3, 4] rfl rfl (by decide) (by decide) (fun r19 u20 H locs hr19 hP hD hS => ?_)
                try dsimp only at hr19
                have hP : va_P g.1 classes [((q 2), aI g 600 bs), ((q 3), aI g 2 ru), ((q 4), aI g 12 rs), ((q 5), aI g 480 rt), (h0, .inr (10, mob q u20 n mm mb fa fp av ev wi mn tp tc sc nf fd me mp xn mt wh tq ag an ig))] H := hP
                have hD : va_D A [((q 2), aI g 600 bs), ((q 3), aI g 2 ru), ((q 4), aI g 12 rs), ((q 5), aI g 480 rt), (h0, .inr (10, mob q u20 n mm mb fa fp av ev wi mn tp tc sc nf fd me mp xn mt wh tq ag an ig))] := hD
                have hP : va_P g.1 classes [(h0, .inr (10, mob q u20 n mm mb fa fp av ev wi mn tp tc sc nf fd me mp xn mt wh tq ag an ig)), ((q 2), aI g 600 bs), ((q 3), aI g 2 ru), ((q 4), aI g 12 rs), ((q 5), aI g 480 rt)] H := hP.sub [4, 0, 1, 2, 3] rfl
                have hD : va_D A [(h0, .inr (10, mob q u20 n mm mb fa fp av ev wi mn tp tc sc nf fd me mp xn mt wh tq ag an ig)), ((q 2), aI g 600 bs), ((q 3), aI g 2 ru), ((q 4), aI g 12 rs), ((q 5), aI g 480 rt)] := hD.sub [4, 0, 1, 2, 3] (by decide) rfl
                obtain ⟨hB20, hp20_0⟩ := hr19
                have hrr105 : r19 = 1 := hB20.2.trans (by decide)
                subst hrr105
                refine lv_if_eq (tgt := 113) hx hb d_Mod_rule_108 (by decide) (fun h108 => ?_) (fun h108 => ?_)
                · first | exact absurd h108 (by decide) | exact absurd (by decide) h108
                · refine lv_iconst (v := 0) hx hb d_Mod_rule_111 (by decide) ?_
                  exact tw_iret E hS (u20, n, ru, rs, rt) (Or.inl ⟨hp20_0, (ru_n3 hsj h45), rfl, rfl, rfl⟩) hP hD d_Mod_rule_112
            · refine lv_iload hx hb d_Mod_rule_48 (lv_at hl 0 rfl) ?_
              refine lv_aload_n hx hb d_Mod_rule_50 rfl (lv_at hl 3 rfl) ?_
              refine va_get (D := g.1) (ci := 10) (v := .int (nI n)) (C := R_Mod) (T := F_Mod) (N := 61) hx hb hts in_Mod hown hK hP 0 rfl rfl 1 (by decide) (hts _ wd_1251) (fun _ h9 => h9) rfl d_Mod_rule_51 ?_
              refine lv_icmp_ge (tgt := 79) hx hb d_Mod_rule_54 (by decide) (fun h54 => ?_) (fun h54 => ?_)
              · have h54 := tn_le h54 (by omega) (by omega)
                refine lv_aload_n hx hb d_Mod_rule_79 rfl (lv_at hl 3 rfl) ?_
                refine lv_iload hx hb d_Mod_rule_80 (lv_at hl 1 rfl) ?_
                refine lv_if_ne (tgt := 89) hx hb d_Mod_rule_82 (by decide) (fun h82 => ?_) (fun h82 => ?_)
                · refine lv_aload_n hx hb d_Mod_rule_89 rfl (lv_at hl 3 rfl) ?_
                  refine va_get (D := g.1) (ci := 10) (v := .ref (q 3)) (C := R_Mod) (T := F_Mod) (N := 61) hx hb hts in_Mod hown hK hP 0 rfl rfl 3 (by decide) (hts _ wd_1253) (fun _ h9 => h9) rfl d_Mod_rule_90 ?_
                  refine lv_iload_n hx hb d_Mod_rule_93 rfl (lv_at hl 2 rfl) ?_
                  refine va_iald hx hb hK hP 2 0 rfl rfl (vp_in_nI (n := 1) (by decide) (by decide)) d_Mod_rule_94 ?_
                  refine tw_ri (e2 := nI c9) ec ?_
                  refine lv_bipush (v := 6) hx hb d_Mod_rule_95 (by decide) ?_
                  refine lv_icmp_ne (tgt := 104) hx hb d_Mod_rule_97 (by decide) (fun h97 => ?_) (fun h97 => ?_)
                  · have h97 := tn_ne (b := 6) h97
                    refine lv_iconst (v := 0) hx hb d_Mod_rule_104 (by decide) ?_
                    refine tw_wi (wr := [((q 2), aI g 600 bs), ((q 3), aI g 2 ru), ((q 4), aI g 12 rs), ((q 5), aI g 480 rt)]) (tw_runV (ws := [(h0, .inr (10, mob q rf n mm mb fa fp av ev wi mn tp tc sc nf fd me mp xn mt wh tq ag an ig)), ((q 2), aI g 600 bs), ((q 3), aI g 2 ru), ((q 4), aI g 12 rs), ((q 5), aI g 480 rt)]) (wc := [(h0, .inr (10, mob q rf n mm mb fa fp av ev wi mn tp tc sc nf fd me mp xn mt wh tq ag an ig))]) (As := [.int 0]) (rest := []) E hB hK hZ (g_Mod_refused l g H.size h0 q n mm mb fa fp av ev wi mn tp tc sc nf fd me mp xn mt wh tq ag an ig rf 0) mc_Mod_refused mi_Mod_refused me_Mod_refused wd_1446 hP hD hS hA [0] rfl (by decide) 0 rfl rfl rfl rfl rfl (by decide) rfl hl.1 rfl (Nat.le_of_ble_eq_true rfl) (by decide) d_Mod_rule_105) hP hD hS hA [0] [1, 2, 3, 4] rfl rfl (by decide) (by decide) (fun r21 u22 H locs hr21 hP hD hS => ?_)
                    try dsimp only at hr21
                    have hP : va_P g.1 classes [((q 2), aI g 600 bs), ((q 3), aI g 2 ru), ((q 4), aI g 12 rs), ((q 5), aI g 480 rt), (h0, .inr (10, mob q u22 n mm mb fa fp av ev wi mn tp tc sc nf fd me mp xn mt wh tq ag an ig))] H := hP
                    have hD : va_D A [((q 2), aI g 600 bs), ((q 3), aI g 2 ru), ((q 4), aI g 12 rs), ((q 5), aI g 480 rt), (h0, .inr (10, mob q u22 n mm mb fa fp av ev wi mn tp tc sc nf fd me mp xn mt wh tq ag an ig))] := hD
                    have hP : va_P g.1 classes [(h0, .inr (10, mob q u22 n mm mb fa fp av ev wi mn tp tc sc nf fd me mp xn mt wh tq ag an ig)), ((q 2), aI g 600 bs), ((q 3), aI g 2 ru), ((q 4), aI g 12 rs), ((q 5), aI g 480 rt)] H := hP.sub [4, 0, 1, 2, 3] rfl
                    have hD : va_D A [(h0, .inr (10, mob q u22 n mm mb fa fp av ev wi mn tp tc sc nf fd me mp xn mt wh tq ag an ig)), ((q 2), aI g 600 bs), ((q 3), aI g 2 ru), ((q 4), aI g 12 rs), ((q 5), aI g 480 rt)] := hD.sub [4, 0, 1, 2, 3] (by decide) rfl
                    obtain ⟨hB22, hp22_0⟩ := hr21
                    have hrr105 : r21 = 0 := hB22.2.trans (by decide)
                    subst hrr105
                    refine lv_if_eq (tgt := 113) hx hb d_Mod_rule_108 (by decide) (fun h108 => ?_) (fun h108 => ?_)
                    · refine lv_bipush (v := 6) hx hb d_Mod_rule_113 (by decide) ?_
                      refine lv_iload_n hx hb d_Mod_rule_115 rfl (lv_at hl 2 rfl) ?_
                      refine lv_imul hx hb d_Mod_rule_116 ?_
                      refine tw_ri (e2 := 6) (by decide) ?_
                      refine lv_aload_n hx hb d_Mod_rule_117 rfl (lv_at hl 3 rfl) ?_
                      refine va_get (D := g.1) (ci := 10) (v := .ref (q 3)) (C := R_Mod) (T := F_Mod) (N := 61) hx hb hts in_Mod hown hK hP 0 rfl rfl 3 (by decide) (hts _ wd_1253) (fun _ h9 => h9) rfl d_Mod_rule_118 ?_
                      refine lv_iload_n hx hb d_Mod_rule_121 rfl (lv_at hl 2 rfl) ?_
                      refine va_iald hx hb hK hP 2 0 rfl rfl (vp_in_nI (n := 1) (by decide) (by decide)) d_Mod_rule_122 ?_
                      refine tw_ri (e2 := nI c9) ec ?_
                      refine lv_iadd hx hb d_Mod_rule_123 ?_
                      refine tw_ri (e2 := nI (6 + c9)) (nI_add 6 c9) ?_
                      refine lv_istore hx hb d_Mod_rule_124 hl (by decide) rfl (fun ls hl => ?_)
                      have hl : lv_has ls 7 [(5, .int (nI (6 + c9))), (4, .int s9), (3, .int 1), (0, .ref h0), (1, .int al), (2, .int (nI q1))] := hl
                      refine lv_aload_n hx hb d_Mod_rule_126 rfl (lv_at hl 3 rfl) ?_
                      refine va_get (D := g.1) (ci := 10) (v := .ref (q 4)) (C := R_Mod) (T := F_Mod) (N := 61) hx hb hts in_Mod hown hK hP 0 rfl rfl 4 (by decide) (hts _ wd_1254) (fun _ h9 => h9) rfl d_Mod_rule_127 ?_
                      refine lv_iload hx hb d_Mod_rule_130 (lv_at hl 0 rfl) ?_
                      refine lv_iload_n hx hb d_Mod_rule_132 rfl (lv_at hl 5 rfl) ?_
                      refine va_iast hx hb hK hP hD hS 3 0 rfl rfl (vp_in_nI (by omega) (by decide)) d_Mod_rule_133 (fun H locs hP hD hS => ?_)
                      have hP : va_P g.1 classes [(h0, .inr (10, mob q u22 n mm mb fa fp av ev wi mn tp tc sc nf fd me mp xn mt wh tq ag an ig)), ((q 2), aI g 600 bs), ((q 3), aI g 2 ru), ((q 4), aI g 12 (upd rs (nI (6 + c9)).toNatClampNeg (nI q1))), ((q 5), aI g 480 rt)] H := hP
                      have hD : va_D A [(h0, .inr (10, mob q u22 n mm mb fa fp av ev wi mn tp tc sc nf fd me mp xn mt wh tq ag an ig)), ((q 2), aI g 600 bs), ((q 3), aI g 2 ru), ((q 4), aI g 12 (upd rs (nI (6 + c9)).toNatClampNeg (nI q1))), ((q 5), aI g 480 rt)] := hD
                      have e9 : upd rs (nI (6 + c9)).toNatClampNeg (nI q1) = upd rs (6 + c9) (nI q1) := by rw [nI_clamp (by omega)]
                      rw [e9] at hP hD
                      refine lv_iconst (v := 0) hx hb d_Mod_rule_134 (by decide) ?_
                      refine lv_istore hx hb d_Mod_rule_135 hl (by decide) rfl (fun ls hl => ?_)
                      have hl : lv_has ls 7 [(6, .int 0), (5, .int (nI (6 + c9))), (4, .int s9), (3, .int 1), (0, .ref h0), (1, .int al), (2, .int (nI q1))] := hl
                      have loop137 : ∀ (kq : Nat) (i : Nat) (rt9 : Nat → Int32) (ls : Array Slot) (H : Heap) (locs : List Loc) , q1 - i = kq → (hi : i ≤ q1) → lv_has ls 7 [(6, .int (nI i)), (5, .int (nI (6 + c9))), (4, .int s9), (3, .int 1), (0, .ref h0), (1, .int al), (2, .int (nI q1))] → va_P g.1 classes [(h0, .inr (10, mob q u22 n mm mb fa fp av ev wi mn tp tc sc nf fd me mp xn mt wh tq ag an ig)), ((q 2), aI g 600 bs), ((q 3), aI g 2 ru), ((q 4), aI g 12 (upd rs (6 + c9) (nI q1))), ((q 5), aI g 480 rt9)] H → va_D A [(h0, .inr (10, mob q u22 n mm mb fa fp av ev wi mn tp tc sc nf fd me mp xn mt wh tq ag an ig)), ((q 2), aI g 600 bs), ((q 3), aI g 2 ru), ((q 4), aI g 12 (upd rs (6 + c9) (nI q1))), ((q 5), aI g 480 rt9)] → va_S A s.heap H locs → W p l e ({ frames := 1, cells := 0, slots := 0, locals := 22 }) s m [.ref h0, .int al, .int (nI q1)].toArray below meth c H locs 0 0 (MQ below (tw_Qi g (fun (r : Int32) (u : Int32 × Nat × (Nat → Int32) × (Nat → Int32) × (Nat → Int32)) => (RUP u.1 r n u.2.1 bs ru rs u.2.2.1 u.2.2.2.1 al (nI q1))) (fun u : Int32 × Nat × (Nat → Int32) × (Nat → Int32) × (Nat → Int32) => [(h0, .inr (10, mob q u.1 u.2.1 mm mb fa fp av ev wi mn tp tc sc nf fd me mp xn mt wh tq ag an ig)), ((q 2), aI g 600 bs), ((q 3), aI g 2 u.2.2.1), ((q 4), aI g 12 u.2.2.2.1), ((q 5), aI g 480 u.2.2.2.2)]) A) [.ref h0, .int al, .int (nI q1)].toArray s 0 0 A) (F0 m 137 ls []) := by
                        intro kq
                        induction kq using Nat.strongRecOn with
                        | _ kq ih137 =>
                          intro i rt9 ls H locs hk137 hi hl hP hD hS
                          refine lv_iload hx hb d_Mod_rule_137 (lv_at hl 0 rfl) ?_
                          refine lv_iload_n hx hb d_Mod_rule_139 rfl (lv_at hl 6 rfl) ?_
                          refine lv_icmp_ge (tgt := 176) hx hb d_Mod_rule_140 (by decide) (fun h140 => ?_) (fun h140 => ?_)
                          · refine lv_aload_n hx hb d_Mod_rule_176 rfl (lv_at hl 4 rfl) ?_
                            refine lv_aload_n hx hb d_Mod_rule_177 rfl (lv_at hl 4 rfl) ?_
                            refine va_get (D := g.1) (ci := 10) (v := .int (nI n)) (C := R_Mod) (T := F_Mod) (N := 61) hx hb hts in_Mod hown hK hP 0 rfl rfl 1 (by decide) (hts _ wd_1251) (fun _ h9 => h9) rfl d_Mod_rule_178 ?_
                            refine lv_iload_n hx hb d_Mod_rule_181 rfl (lv_at hl 6 rfl) ?_
                            refine lv_isub hx hb d_Mod_rule_182 ?_
                            refine tw_ri (e2 := nI (n - q1)) (pk_sub h25) ?_
                            refine va_put (D := g.1) (ci := 10) (v := .int (nI (n - q1))) (ty := .int) (C := R_Mod) (T := F_Mod) (N := 61) hx hb hts in_Mod t_Mod t_Mod_ok n_Mod hown hK hP hD hS 0 rfl rfl 1 (by decide) (hts _ wd_1251) (fun _ h9 => h9) rfl (t_Mod_ok 1 (by decide)) rfl rfl (Nat.le_of_ble_eq_true rfl) d_Mod_rule_183 (fun H locs hP hD hS => ?_)
                            have hP : va_P g.1 classes [(h0, .inr (10, mob q u22 (n - q1) mm mb fa fp av ev wi mn tp tc sc nf fd me mp xn mt wh tq ag an ig)), ((q 2), aI g 600 bs), ((q 3), aI g 2 ru), ((q 4), aI g 12 (upd rs (6 + c9) (nI q1))), ((q 5), aI g 480 rt9)] H := hP
                            have hD : va_D A [(h0, .inr (10, mob q u22 (n - q1) mm mb fa fp av ev wi mn tp tc sc nf fd me mp xn mt wh tq ag an ig)), ((q 2), aI g 600 bs), ((q 3), aI g 2 ru), ((q 4), aI g 12 (upd rs (6 + c9) (nI q1))), ((q 5), aI g 480 rt9)] := hD
                            refine lv_aload_n hx hb d_Mod_rule_186 rfl (lv_at hl 4 rfl) ?_
                            refine va_get (D := g.1) (ci := 10) (v := .ref (q 3)) (C := R_Mod) (T := F_Mod) (N := 61) hx hb hts in_Mod hown hK hP 0 rfl rfl 3 (by decide) (hts _ wd_1253) (fun _ h9 => h9) rfl d_Mod_rule_187 ?_
                            refine lv_iload_n hx hb d_Mod_rule_190 rfl (lv_at hl 3 rfl) ?_
                            refine lv_dup2_11 hx hb d_Mod_rule_191 rfl rfl ?_
                            refine va_iald hx hb hK hP 2 0 rfl rfl (vp_in_nI (n := 1) (by decide) (by decide)) d_Mod_rule_192 ?_
                            refine tw_ri (e2 := nI c9) ec ?_
                            refine lv_iconst (v := 1) hx hb d_Mod_rule_193 (by decide) ?_
                            refine lv_iadd hx hb d_Mod_rule_194 ?_
                            refine tw_ri (e2 := nI (c9 + 1)) (nI_add c9 1) ?_
                            refine va_iast hx hb hK hP hD hS 2 0 rfl rfl (vp_in_nI (n := 1) (by decide) (by decide)) d_Mod_rule_195 (fun H locs hP hD hS => ?_)
                            have hP : va_P g.1 classes [(h0, .inr (10, mob q u22 (n - q1) mm mb fa fp av ev wi mn tp tc sc nf fd me mp xn mt wh tq ag an ig)), ((q 2), aI g 600 bs), ((q 3), aI g 2 (upd ru (1 : Int32).toNatClampNeg (nI (c9 + 1)))), ((q 4), aI g 12 (upd rs (6 + c9) (nI q1))), ((q 5), aI g 480 rt9)] H := hP
                            have hD : va_D A [(h0, .inr (10, mob q u22 (n - q1) mm mb fa fp av ev wi mn tp tc sc nf fd me mp xn mt wh tq ag an ig)), ((q 2), aI g 600 bs), ((q 3), aI g 2 (upd ru (1 : Int32).toNatClampNeg (nI (c9 + 1)))), ((q 4), aI g 12 (upd rs (6 + c9) (nI q1))), ((q 5), aI g 480 rt9)] := hD
                            have e9 : upd ru (1 : Int32).toNatClampNeg (nI (c9 + 1)) = upd ru 1 (nI (c9 + 1)) := rfl
                            rw [e9] at hP hD
                            refine lv_aload_n hx hb d_Mod_rule_196 rfl (lv_at hl 4 rfl) ?_
                            refine va_get (D := g.1) (ci := 10) (v := .ref (q 3)) (C := R_Mod) (T := F_Mod) (N := 61) hx hb hts in_Mod hown hK hP 0 rfl rfl 3 (by decide) (hts _ wd_1253) (fun _ h9 => h9) rfl d_Mod_rule_197 ?_
                            refine lv_iload_n hx hb d_Mod_rule_200 rfl (lv_at hl 3 rfl) ?_
                            refine va_iald hx hb hK hP 2 0 rfl rfl (vp_in_nI (n := 1) (by decide) (by decide)) d_Mod_rule_201 ?_
                            refine tw_ri (e2 := nI (c9 + 1)) (if_pos rfl) ?_
                            exact tw_iret E hS (u22, n - q1, upd ru 1 (nI (c9 + 1)), upd rs (6 + c9) (nI q1), rt9) (by unfold RUP; rw [hso]; exact Or.inr (Or.inr ⟨hp22_0, q1, c9, rfl, h25, ru_y hsj h45 (by omega) hq1 hq4 h25, ec, by omega, rfl, rfl, rfl, hq4, rfl⟩)) hP hD d_Mod_rule_202
                          · have h140 := tn_nle h140 (by omega) (by omega)
                            refine lv_aload_n hx hb d_Mod_rule_143 rfl (lv_at hl 4 rfl) ?_
                            refine va_get (D := g.1) (ci := 10) (v := .ref (q 5)) (C := R_Mod) (T := F_Mod) (N := 61) hx hb hts in_Mod hown hK hP 0 rfl rfl 5 (by decide) (hts _ wd_1255) (fun _ h9 => h9) rfl d_Mod_rule_144 ?_
                            refine lv_bipush (v := 40) hx hb d_Mod_rule_147 (by decide) ?_
                            refine lv_iload hx hb d_Mod_rule_149 (lv_at hl 1 rfl) ?_
                            refine lv_imul hx hb d_Mod_rule_151 ?_
                            refine tw_ri (e2 := nI (40 * (6 + c9))) (pk_mul 40 _) ?_
                            refine lv_iload hx hb d_Mod_rule_152 (lv_at hl 0 rfl) ?_
                            refine lv_iadd hx hb d_Mod_rule_154 ?_
                            refine tw_ri (e2 := nI (40 * (6 + c9) + i)) (nI_add _ _) ?_
                            refine lv_aload_n hx hb d_Mod_rule_155 rfl (lv_at hl 4 rfl) ?_
                            refine va_get (D := g.1) (ci := 10) (v := .ref (q 2)) (C := R_Mod) (T := F_Mod) (N := 61) hx hb hts in_Mod hown hK hP 0 rfl rfl 2 (by decide) (hts _ wd_1252) (fun _ h9 => h9) rfl d_Mod_rule_156 ?_
                            refine lv_aload_n hx hb d_Mod_rule_159 rfl (lv_at hl 4 rfl) ?_
                            refine va_get (D := g.1) (ci := 10) (v := .int (nI n)) (C := R_Mod) (T := F_Mod) (N := 61) hx hb hts in_Mod hown hK hP 0 rfl rfl 1 (by decide) (hts _ wd_1251) (fun _ h9 => h9) rfl d_Mod_rule_160 ?_
                            refine lv_iload_n hx hb d_Mod_rule_163 rfl (lv_at hl 6 rfl) ?_
                            refine lv_isub hx hb d_Mod_rule_164 ?_
                            refine tw_ri (e2 := nI (n - q1)) (pk_sub h25) ?_
                            refine lv_iload hx hb d_Mod_rule_165 (lv_at hl 0 rfl) ?_
                            refine lv_iadd hx hb d_Mod_rule_167 ?_
                            refine tw_ri (e2 := nI (n - q1 + i)) (nI_add _ _) ?_
                            refine va_iald hx hb hK hP 1 0 rfl rfl (vp_in_nI (by omega) (by decide)) d_Mod_rule_168 ?_
                            obtain ⟨x23, ex23⟩ : ∃ z : Int32, bs ((nI (n - q1 + i)).toNatClampNeg) = z := ⟨_, rfl⟩
                            refine tw_ri (e2 := x23) ex23 ?_
                            refine va_iast hx hb hK hP hD hS 4 0 rfl rfl (vp_in_nI (by omega) (by decide)) d_Mod_rule_169 (fun H locs hP hD hS => ?_)
                            have hP : va_P g.1 classes [(h0, .inr (10, mob q u22 n mm mb fa fp av ev wi mn tp tc sc nf fd me mp xn mt wh tq ag an ig)), ((q 2), aI g 600 bs), ((q 3), aI g 2 ru), ((q 4), aI g 12 (upd rs (6 + c9) (nI q1))), ((q 5), aI g 480 (upd rt9 (nI (40 * (6 + c9) + i)).toNatClampNeg x23))] H := hP
                            have hD : va_D A [(h0, .inr (10, mob q u22 n mm mb fa fp av ev wi mn tp tc sc nf fd me mp xn mt wh tq ag an ig)), ((q 2), aI g 600 bs), ((q 3), aI g 2 ru), ((q 4), aI g 12 (upd rs (6 + c9) (nI q1))), ((q 5), aI g 480 (upd rt9 (nI (40 * (6 + c9) + i)).toNatClampNeg x23))] := hD
                            refine lv_iinc (k := 0) (v := nI (i + 1)) hx hb d_Mod_rule_170 hl rfl ((nI_succ i).symm) (by decide) rfl (fun ls hl => ?_)
                            have hl : lv_has ls 7 [(6, .int (nI (i + 1))), (5, .int (nI (6 + c9))), (4, .int s9), (3, .int 1), (0, .ref h0), (1, .int al), (2, .int (nI q1))] := hl
                            refine lv_goto (tgt := 137) hx hb d_Mod_rule_173 (by decide) ?_
                            have hP : va_P g.1 classes [(h0, .inr (10, mob q u22 n mm mb fa fp av ev wi mn tp tc sc nf fd me mp xn mt wh tq ag an ig)), ((q 2), aI g 600 bs), ((q 3), aI g 2 ru), ((q 4), aI g 12 (upd rs (6 + c9) (nI q1))), ((q 5), aI g 480 (upd rt9 (nI (40 * (6 + c9) + i)).toNatClampNeg x23))] H := hP.sub [0, 1, 2, 3, 4] rfl
                            have hD : va_D A [(h0, .inr (10, mob q u22 n mm mb fa fp av ev wi mn tp tc sc nf fd me mp xn mt wh tq ag an ig)), ((q 2), aI g 600 bs), ((q 3), aI g 2 ru), ((q 4), aI g 12 (upd rs (6 + c9) (nI q1))), ((q 5), aI g 480 (upd rt9 (nI (40 * (6 + c9) + i)).toNatClampNeg x23))] := hD.sub [0, 1, 2, 3, 4] (by decide) rfl
                            exact ih137 _ (by omega) (i + 1) (upd rt9 (nI (40 * (6 + c9) + i)).toNatClampNeg x23) ls _ _ rfl (by omega) (lv_sub hl [0, 1, 2, 3, 4, 5, 6] rfl) hP hD hS
                      exact loop137 _ 0 rt ls _ _ rfl (Nat.zero_le _) (hl) hP hD hS
                    · first | exact absurd h108 (by decide) | exact absurd (by decide) h108
                  · refine lv_iconst (v := 2) hx hb d_Mod_rule_100 (by decide) ?_
                    refine lv_goto (tgt := 105) hx hb d_Mod_rule_101 (by decide) ?_
                    refine tw_wi (wr := [((q 2), aI g 600 bs), ((q 3), aI g 2 ru), ((q 4), aI g 12 rs), ((q 5), aI g 480 rt)]) (tw_runV (ws := [(h0, .inr (10, mob q rf n mm mb fa fp av ev wi mn tp tc sc nf fd me mp xn mt wh tq ag an ig)), ((q 2), aI g 600 bs), ((q 3), aI g 2 ru), ((q 4), aI g 12 rs), ((q 5), aI g 480 rt)]) (wc := [(h0, .inr (10, mob q rf n mm mb fa fp av ev wi mn tp tc sc nf fd me mp xn mt wh tq ag an ig))]) (As := [.int 2]) (rest := []) E hB hK hZ (g_Mod_refused l g H.size h0 q n mm mb fa fp av ev wi mn tp tc sc nf fd me mp xn mt wh tq ag an ig rf 2) mc_Mod_refused mi_Mod_refused me_Mod_refused wd_1446 hP hD hS hA [0] rfl (by decide) 0 rfl rfl rfl rfl rfl (by decide) rfl hl.1 rfl (Nat.le_of_ble_eq_true rfl) (by decide) d_Mod_rule_105) hP hD hS hA [0] [1, 2, 3, 4] rfl rfl (by decide) (by decide) (fun r24 u25 H locs hr24 hP hD hS => ?_)
                    try dsimp only at hr24
                    have hP : va_P g.1 classes [((q 2), aI g 600 bs), ((q 3), aI g 2 ru), ((q 4), aI g 12 rs), ((q 5), aI g 480 rt), (h0, .inr (10, mob q u25 n mm mb fa fp av ev wi mn tp tc sc nf fd me mp xn mt wh tq ag an ig))] H := hP
                    have hD : va_D A [((q 2), aI g 600 bs), ((q 3), aI g 2 ru), ((q 4), aI g 12 rs), ((q 5), aI g 480 rt), (h0, .inr (10, mob q u25 n mm mb fa fp av ev wi mn tp tc sc nf fd me mp xn mt wh tq ag an ig))] := hD
                    have hP : va_P g.1 classes [(h0, .inr (10, mob q u25 n mm mb fa fp av ev wi mn tp tc sc nf fd me mp xn mt wh tq ag an ig)), ((q 2), aI g 600 bs), ((q 3), aI g 2 ru), ((q 4), aI g 12 rs), ((q 5), aI g 480 rt)] H := hP.sub [4, 0, 1, 2, 3] rfl
                    have hD : va_D A [(h0, .inr (10, mob q u25 n mm mb fa fp av ev wi mn tp tc sc nf fd me mp xn mt wh tq ag an ig)), ((q 2), aI g 600 bs), ((q 3), aI g 2 ru), ((q 4), aI g 12 rs), ((q 5), aI g 480 rt)] := hD.sub [4, 0, 1, 2, 3] (by decide) rfl
                    obtain ⟨hB25, hp25_0⟩ := hr24
                    have hrr105 : r24 = 1 := hB25.2.trans (by decide)
                    subst hrr105
                    refine lv_if_eq (tgt := 113) hx hb d_Mod_rule_108 (by decide) (fun h108 => ?_) (fun h108 => ?_)
                    · first | exact absurd h108 (by decide) | exact absurd (by decide) h108
                    · refine lv_iconst (v := 0) hx hb d_Mod_rule_111 (by decide) ?_
                      exact tw_iret E hS (u25, n, ru, rs, rt) (by unfold RUP; rw [hso]; exact Or.inr (Or.inl ⟨hp25_0, ru_y hsj h45 (by omega) hq1 hq4 h25, ec.trans h97, rfl, rfl, rfl⟩)) hP hD d_Mod_rule_112
                · exact absurd h82 h45
              · have h54 := tn_nle h54 (by omega) (by omega)
                refine lv_aload_n hx hb d_Mod_rule_57 rfl (lv_at hl 3 rfl) ?_
                refine va_get (D := g.1) (ci := 10) (v := .ref (q 2)) (C := R_Mod) (T := F_Mod) (N := 61) hx hb hts in_Mod hown hK hP 0 rfl rfl 2 (by decide) (hts _ wd_1252) (fun _ h9 => h9) rfl d_Mod_rule_58 ?_
                refine lv_iload hx hb d_Mod_rule_61 (lv_at hl 0 rfl) ?_
                refine va_iald hx hb hK hP 1 0 rfl rfl (vp_in_nI (by omega) (by decide)) d_Mod_rule_63 ?_
                refine tw_ri (e2 := nI (bt bs j)) (by rw [nI_clamp (by omega)]; exact bt_eq hbs (by omega)) ?_
                refine lv_bipush (v := 33) hx hb d_Mod_rule_64 (by decide) ?_
                refine lv_bipush (v := 126) hx hb d_Mod_rule_66 (by decide) ?_
                refine tw_si (tw_runS (ws := [(h0, .inr (10, mob q rf n mm mb fa fp av ev wi mn tp tc sc nf fd me mp xn mt wh tq ag an ig)), ((q 2), aI g 600 bs), ((q 3), aI g 2 ru), ((q 4), aI g 12 rs), ((q 5), aI g 480 rt)]) (wc := []) (As := [.int (nI (bt bs j)), .int 33, .int 126]) (rest := []) E hB hK hZ (c_Mod_isIn l g H.size (nI (bt bs j)) 33 126) mc_Mod_isIn ms_Mod_isIn wd_1443 hP hD hS hA [] rfl (by decide) rfl rfl (by decide) rfl hl.1 rfl (Nat.le_of_ble_eq_true rfl) (by decide) d_Mod_rule_68) (fun r26 hr26 => ?_)
                obtain rfl : r26 = is_in (nI (bt bs j)) 33 126 := hr26
                refine lv_istore hx hb d_Mod_rule_71 hl (by decide) rfl (fun ls hl => ?_)
                have hl : lv_has ls 7 [(4, .int (is_in (nI (bt bs j)) 33 126)), (5, .int (nI j)), (3, .int 1), (0, .ref h0), (1, .int al), (2, .int (nI q1))] := hl
                refine lv_iinc (k := 1) (v := nI (j + 1)) hx hb d_Mod_rule_73 hl rfl ((nI_succ j).symm) (by decide) rfl (fun ls hl => ?_)
                have hl : lv_has ls 7 [(5, .int (nI (j + 1))), (4, .int (is_in (nI (bt bs j)) 33 126)), (3, .int 1), (0, .ref h0), (1, .int al), (2, .int (nI q1))] := hl
                refine lv_goto (tgt := 43) hx hb d_Mod_rule_76 (by decide) ?_
                have hP : va_P g.1 classes [(h0, .inr (10, mob q rf n mm mb fa fp av ev wi mn tp tc sc nf fd me mp xn mt wh tq ag an ig)), ((q 2), aI g 600 bs), ((q 3), aI g 2 ru), ((q 4), aI g 12 rs), ((q 5), aI g 480 rt)] H := hP.sub [0, 1, 2, 3, 4] rfl
                have hD : va_D A [(h0, .inr (10, mob q rf n mm mb fa fp av ev wi mn tp tc sc nf fd me mp xn mt wh tq ag an ig)), ((q 2), aI g 600 bs), ((q 3), aI g 2 ru), ((q 4), aI g 12 rs), ((q 5), aI g 480 rt)] := hD.sub [0, 1, 2, 3, 4] (by decide) rfl
                exact ih _ (by omega) (is_in (nI (bt bs j)) 33 126) (j + 1) ls _ _ rfl (by omega) (by omega) (ru_step hsj h45 hj1 h54 (bt_lt hbs (by omega))) (lv_sub hl [0, 1, 2, 3, 4, 5] rfl) hP hD hS
        exact loop43 _ 1 (n - q1) ls _ _ rfl (Nat.le_refl _) (by omega) (Or.inl ⟨rfl, fun i h1 h2 => absurd h2 (by omega)⟩) (hl) hP hD hS
end
section
/-! The class's rule, and its kind. -/
def RSC (f : Nat → Int32) (n : Nat) (k : Int32) : Prop := ∃ q, k = nI q ∧ 1 ≤ q ∧ q ≤ 40 ∧ q ≤ n ∧ ∀ i, n - q ≤ i → i < n → 33 ≤ ib f n i ∧ ib f n i ≤ 126
theorem ru_k2 {k : Int32} (h1 : ¬ k < 1) (h2 : ¬ 40 < k) : ∃ q, k = nI q ∧ 1 ≤ q ∧ q ≤ 40 := ru_k (fun h => (is_inZ h).elim h1 h2)
theorem ru_c1 {f : Nat → Int32} {n : Nat} {k : Int32} (h : k < 1 ∨ 40 < k) : ¬ RSC f n k := by
  rintro ⟨q, rfl, h1, h2, _⟩
  rcases h with h | h
  · have := tn_lt (b := 1) h (by omega) (by decide); omega
  · have := tn_lt (a := 40) h (by decide) (by omega); omega
theorem ru_c2 {f : Nat → Int32} {n : Nat} {k : Int32} (h : nI n < k) (hn : n ≤ 600 := by omega) : ¬ RSC f n k := by
  rintro ⟨q, rfl, h1, h2, h3, _⟩
  have := tn_lt h (by omega) (by omega)
  omega
theorem ru_c3 {f : Nat → Int32} {n q : Nat} {r : Int32} (h : (r = 1 ∧ (∀ j, n - q ≤ j → j < n → 33 ≤ ib f n j ∧ ib f n j ≤ 126)) ∨ (r = 0 ∧ ¬ (∀ j, n - q ≤ j → j < n → 33 ≤ ib f n j ∧ ib f n j ≤ 126))) (h0 : r = 0) (hq : q ≤ 40 := by omega) : ¬ RSC f n (nI q) := by
  rintro ⟨q2, e, h1, h2, h3, h4⟩
  have eq := tn_eq e (by omega) (by omega)
  subst eq
  rcases h with ⟨h, _⟩ | ⟨_, h⟩
  · rw [h] at h0; exact absurd h0 (by decide)
  · exact h h4
theorem ru_cy {f : Nat → Int32} {n q : Nat} {r : Int32} (h : (r = 1 ∧ (∀ j, n - q ≤ j → j < n → 33 ≤ ib f n j ∧ ib f n j ≤ 126)) ∨ (r = 0 ∧ ¬ (∀ j, n - q ≤ j → j < n → 33 ≤ ib f n j ∧ ib f n j ≤ 126))) (h0 : ¬ r = 0) (h1 : 1 ≤ q) (h2 : q ≤ 40) (h3 : q ≤ n) : RSC f n (nI q) := by
  rcases h with ⟨_, h⟩ | ⟨h, _⟩
  · exact ⟨q, rfl, h1, h2, h3, h⟩
  · exact absurd h h0
theorem is_full6 {c : Nat} {r : Int32} (h : (r = 1 ∧ c = 6) ∨ (r = 0 ∧ c < 6)) (h0 : ¬ r = 0) : c = 6 := by
  rcases h with ⟨_, h⟩ | ⟨h, _⟩
  · exact h
  · exact absurd h h0
theorem is_full0 {c : Nat} {r : Int32} (h : (r = 1 ∧ c = 6) ∨ (r = 0 ∧ c < 6)) (h0 : r = 0) : c < 6 := by
  rcases h with ⟨h, _⟩ | ⟨_, h⟩
  · rw [h] at h0; exact absurd h0 (by decide)
  · exact h
theorem co_rng {v : LY} {k : Int32} (h : ¬ co_of v k = 0) (hm : v.me < 2 ^ 31) : ∃ j, j < v.me ∧ k = nI j := by
  by_cases h1 : k < 0
  · exact absurd (if_pos h1) h
  · obtain ⟨j, hj, rfl⟩ := nI_of h1
    by_cases h2 : nI v.me ≤ nI j
    · exact absurd ((if_neg h1).trans (if_pos h2)) h
    · exact ⟨j, tn_nle h2 hm hj, rfl⟩
theorem vp_m1 : ¬ vp_in (-1) 600 := by unfold vp_in; decide
theorem kd_loc {v : LY} (hL : LO64 v) (hm : v.me ≤ 600) {m w d r : Int32} {ji : Nat} {D : Prop} (h1 : w = -1 ∨ ¬ co_of v m = 0) (hd : d = -1 ∨ (vp_in w 600 ∧ D)) (hn : ¬ d = -1) (hr : r = im_two v.b v.n (co_of v m + 8)) (hi : nI ji < r) (hj : ji < 2 ^ 31) : ji < 64 := by
  have hw := (hd.resolve_left hn).1
  have hc := h1.resolve_left (fun e => vp_m1 (e ▸ hw))
  obtain ⟨j, hj2, rfl⟩ := co_rng hc (by omega)
  have h64 := (hL j hj2).resolve_left hc
  rw [← hr] at h64
  have h3 : nI ji < nI 64 := Int32.lt_of_lt_of_le hi h64
  exact tn_lt h3 hj (by decide)
theorem kd_stk {dp : Nat → Int32} (hdp : ∀ p, p < 600 → dp p = -1 ∨ ∃ d, d ≤ 64 ∧ dp p = nI d) {w d : Int32} {ji : Nat} (hd : d = -1 ∨ (vp_in w 600 ∧ d = dp w.toNatClampNeg)) (hn : ¬ d = -1) (hi : nI ji < d) (hj : ji < 2 ^ 31) : ji < 64 := by
  obtain ⟨hw, e⟩ := hd.resolve_left hn
  obtain ⟨p, hp, rfl⟩ := sf_ix hw
  rw [nI_clamp (by omega)] at e
  rcases hdp p hp with e2 | ⟨d2, hd2, e2⟩
  · exact absurd (e.trans e2) hn
  · rw [e, e2] at hi
    have := tn_lt hi hj (by omega)
    omega
end
section
theorem d_Ship_count_15 : decode b_Ship_count 15 = .ok (.iload_n 1, 1) := by decide +kernel
theorem d_Ship_count_16 : decode b_Ship_count 16 = .ok (.ifCond .lt 9, 3) := by decide +kernel
theorem d_Ship_count_19 : decode b_Ship_count 19 = .ok (.iload_n 1, 1) := by decide +kernel
theorem d_Ship_count_20 : decode b_Ship_count 20 = .ok (.bipush 6, 2) := by decide +kernel
theorem d_Ship_count_22 : decode b_Ship_count 22 = .ok (.if_icmp .le 11, 3) := by decide +kernel
theorem d_Ship_count_25 : decode b_Ship_count 25 = .ok (.new 61, 3) := by decide +kernel
theorem d_Ship_count_28 : decode b_Ship_count 28 = .ok (.dup, 1) := by decide +kernel
theorem d_Ship_count_29 : decode b_Ship_count 29 = .ok (.invokespecial 63, 3) := by decide +kernel
theorem d_Ship_count_32 : decode b_Ship_count 32 = .ok (.athrow, 1) := by decide +kernel
theorem d_Ship_count_33 : decode b_Ship_count 33 = .ok (.iload_n 1, 1) := by decide +kernel
theorem d_Ship_count_34 : decode b_Ship_count 34 = .ok (.tableswitch 95 0 5 #[38, 52, 60, 68, 76, 84], 38) := by decide +kernel
theorem d_Ship_count_72 : decode b_Ship_count 72 = .ok (.aload_n 0, 1) := by decide +kernel
theorem d_Ship_count_73 : decode b_Ship_count 73 = .ok (.getfield 58, 3) := by decide +kernel
theorem d_Ship_count_76 : decode b_Ship_count 76 = .ok (.getfield 137, 3) := by decide +kernel
theorem d_Ship_count_79 : decode b_Ship_count 79 = .ok (.iconst 1, 1) := by decide +kernel
theorem d_Ship_count_80 : decode b_Ship_count 80 = .ok (.isub, 1) := by decide +kernel
theorem d_Ship_count_81 : decode b_Ship_count 81 = .ok (.iconst 0, 1) := by decide +kernel
theorem d_Ship_count_82 : decode b_Ship_count 82 = .ok (.invokestatic 140, 3) := by decide +kernel
theorem d_Ship_count_85 : decode b_Ship_count 85 = .ok (.ireturn, 1) := by decide +kernel
theorem d_Ship_count_86 : decode b_Ship_count 86 = .ok (.aload_n 0, 1) := by decide +kernel
theorem d_Ship_count_87 : decode b_Ship_count 87 = .ok (.getfield 58, 3) := by decide +kernel
theorem d_Ship_count_90 : decode b_Ship_count 90 = .ok (.getfield 146, 3) := by decide +kernel
theorem d_Ship_count_93 : decode b_Ship_count 93 = .ok (.ireturn, 1) := by decide +kernel
theorem d_Ship_count_94 : decode b_Ship_count 94 = .ok (.aload_n 0, 1) := by decide +kernel
theorem d_Ship_count_95 : decode b_Ship_count 95 = .ok (.getfield 58, 3) := by decide +kernel
theorem d_Ship_count_98 : decode b_Ship_count 98 = .ok (.getfield 149, 3) := by decide +kernel
theorem d_Ship_count_101 : decode b_Ship_count 101 = .ok (.ireturn, 1) := by decide +kernel
theorem d_Ship_count_102 : decode b_Ship_count 102 = .ok (.aload_n 0, 1) := by decide +kernel
theorem d_Ship_count_103 : decode b_Ship_count 103 = .ok (.getfield 58, 3) := by decide +kernel
theorem d_Ship_count_106 : decode b_Ship_count 106 = .ok (.getfield 152, 3) := by decide +kernel
theorem d_Ship_count_109 : decode b_Ship_count 109 = .ok (.ireturn, 1) := by decide +kernel
theorem d_Ship_count_110 : decode b_Ship_count 110 = .ok (.aload_n 0, 1) := by decide +kernel
theorem d_Ship_count_111 : decode b_Ship_count 111 = .ok (.getfield 58, 3) := by decide +kernel
theorem d_Ship_count_114 : decode b_Ship_count 114 = .ok (.invokevirtual 155, 3) := by decide +kernel
theorem d_Ship_count_117 : decode b_Ship_count 117 = .ok (.ireturn, 1) := by decide +kernel
theorem d_Ship_count_118 : decode b_Ship_count 118 = .ok (.aload_n 0, 1) := by decide +kernel
theorem d_Ship_count_119 : decode b_Ship_count 119 = .ok (.getfield 58, 3) := by decide +kernel
theorem d_Ship_count_122 : decode b_Ship_count 122 = .ok (.getfield 159, 3) := by decide +kernel
theorem d_Ship_count_125 : decode b_Ship_count 125 = .ok (.invokevirtual 163, 3) := by decide +kernel
theorem d_Ship_count_128 : decode b_Ship_count 128 = .ok (.ireturn, 1) := by decide +kernel
theorem d_Ship_count_129 : decode b_Ship_count 129 = .ok (.aload_n 0, 1) := by decide +kernel
theorem d_Ship_count_130 : decode b_Ship_count 130 = .ok (.getfield 58, 3) := by decide +kernel
theorem d_Ship_count_133 : decode b_Ship_count 133 = .ok (.getfield 159, 3) := by decide +kernel
theorem d_Ship_count_136 : decode b_Ship_count 136 = .ok (.invokevirtual 168, 3) := by decide +kernel
theorem d_Ship_count_139 : decode b_Ship_count 139 = .ok (.ireturn, 1) := by decide +kernel
theorem d_Ship_depth_15 : decode b_Ship_depth 15 = .ok (.aload_n 0, 1) := by decide +kernel
theorem d_Ship_depth_16 : decode b_Ship_depth 16 = .ok (.getfield 58, 3) := by decide +kernel
theorem d_Ship_depth_19 : decode b_Ship_depth 19 = .ok (.getfield 159, 3) := by decide +kernel
theorem d_Ship_depth_22 : decode b_Ship_depth 22 = .ok (.aload_n 0, 1) := by decide +kernel
theorem d_Ship_depth_23 : decode b_Ship_depth 23 = .ok (.getfield 58, 3) := by decide +kernel
theorem d_Ship_depth_26 : decode b_Ship_depth 26 = .ok (.iload_n 1, 1) := by decide +kernel
theorem d_Ship_depth_27 : decode b_Ship_depth 27 = .ok (.iload_n 2, 1) := by decide +kernel
theorem d_Ship_depth_28 : decode b_Ship_depth 28 = .ok (.invokevirtual 178, 3) := by decide +kernel
theorem d_Ship_depth_31 : decode b_Ship_depth 31 = .ok (.invokevirtual 181, 3) := by decide +kernel
theorem d_Ship_depth_34 : decode b_Ship_depth 34 = .ok (.ireturn, 1) := by decide +kernel
theorem d_Ship_kind_15 : decode b_Ship_kind 15 = .ok (.aload_n 0, 1) := by decide +kernel
theorem d_Ship_kind_16 : decode b_Ship_kind 16 = .ok (.getfield 58, 3) := by decide +kernel
theorem d_Ship_kind_19 : decode b_Ship_kind 19 = .ok (.iload_n 1, 1) := by decide +kernel
theorem d_Ship_kind_20 : decode b_Ship_kind 20 = .ok (.iload_n 2, 1) := by decide +kernel
theorem d_Ship_kind_21 : decode b_Ship_kind 21 = .ok (.invokevirtual 178, 3) := by decide +kernel
theorem d_Ship_kind_24 : decode b_Ship_kind 24 = .ok (.istore 5, 2) := by decide +kernel
theorem d_Ship_kind_26 : decode b_Ship_kind 26 = .ok (.aload_n 0, 1) := by decide +kernel
theorem d_Ship_kind_27 : decode b_Ship_kind 27 = .ok (.getfield 58, 3) := by decide +kernel
theorem d_Ship_kind_30 : decode b_Ship_kind 30 = .ok (.getfield 159, 3) := by decide +kernel
theorem d_Ship_kind_33 : decode b_Ship_kind 33 = .ok (.iload 5, 2) := by decide +kernel
theorem d_Ship_kind_35 : decode b_Ship_kind 35 = .ok (.invokevirtual 181, 3) := by decide +kernel
theorem d_Ship_kind_38 : decode b_Ship_kind 38 = .ok (.istore 6, 2) := by decide +kernel
theorem d_Ship_kind_40 : decode b_Ship_kind 40 = .ok (.iload_n 3, 1) := by decide +kernel
theorem d_Ship_kind_41 : decode b_Ship_kind 41 = .ok (.ifCond .eq 14, 3) := by decide +kernel
theorem d_Ship_kind_44 : decode b_Ship_kind 44 = .ok (.aload_n 0, 1) := by decide +kernel
theorem d_Ship_kind_45 : decode b_Ship_kind 45 = .ok (.getfield 58, 3) := by decide +kernel
theorem d_Ship_kind_48 : decode b_Ship_kind 48 = .ok (.iload_n 1, 1) := by decide +kernel
theorem d_Ship_kind_49 : decode b_Ship_kind 49 = .ok (.invokevirtual 184, 3) := by decide +kernel
theorem d_Ship_kind_52 : decode b_Ship_kind 52 = .ok (.goto 5, 3) := by decide +kernel
theorem d_Ship_kind_55 : decode b_Ship_kind 55 = .ok (.iload 6, 2) := by decide +kernel
theorem d_Ship_kind_57 : decode b_Ship_kind 57 = .ok (.istore 7, 2) := by decide +kernel
theorem d_Ship_kind_59 : decode b_Ship_kind 59 = .ok (.iload 6, 2) := by decide +kernel
theorem d_Ship_kind_61 : decode b_Ship_kind 61 = .ok (.iconst (-1), 1) := by decide +kernel
theorem d_Ship_kind_62 : decode b_Ship_kind 62 = .ok (.if_icmp .eq 15, 3) := by decide +kernel
theorem d_Ship_kind_65 : decode b_Ship_kind 65 = .ok (.iload 4, 2) := by decide +kernel
theorem d_Ship_kind_67 : decode b_Ship_kind 67 = .ok (.ifCond .lt 10, 3) := by decide +kernel
theorem d_Ship_kind_70 : decode b_Ship_kind 70 = .ok (.iload 4, 2) := by decide +kernel
theorem d_Ship_kind_72 : decode b_Ship_kind 72 = .ok (.iload 7, 2) := by decide +kernel
theorem d_Ship_kind_74 : decode b_Ship_kind 74 = .ok (.if_icmp .lt 5, 3) := by decide +kernel
theorem d_Ship_kind_77 : decode b_Ship_kind 77 = .ok (.iconst (-1), 1) := by decide +kernel
theorem d_Ship_kind_78 : decode b_Ship_kind 78 = .ok (.ireturn, 1) := by decide +kernel
theorem d_Ship_kind_79 : decode b_Ship_kind 79 = .ok (.aload_n 0, 1) := by decide +kernel
theorem d_Ship_kind_80 : decode b_Ship_kind 80 = .ok (.getfield 58, 3) := by decide +kernel
theorem d_Ship_kind_83 : decode b_Ship_kind 83 = .ok (.getfield 159, 3) := by decide +kernel
theorem d_Ship_kind_86 : decode b_Ship_kind 86 = .ok (.iload 5, 2) := by decide +kernel
theorem d_Ship_kind_88 : decode b_Ship_kind 88 = .ok (.iload_n 3, 1) := by decide +kernel
theorem d_Ship_kind_89 : decode b_Ship_kind 89 = .ok (.ifCond .eq 11, 3) := by decide +kernel
theorem d_Ship_kind_92 : decode b_Ship_kind 92 = .ok (.bipush 64, 2) := by decide +kernel
theorem d_Ship_kind_94 : decode b_Ship_kind 94 = .ok (.iload 4, 2) := by decide +kernel
theorem d_Ship_kind_96 : decode b_Ship_kind 96 = .ok (.iadd, 1) := by decide +kernel
theorem d_Ship_kind_97 : decode b_Ship_kind 97 = .ok (.goto 5, 3) := by decide +kernel
theorem d_Ship_kind_100 : decode b_Ship_kind 100 = .ok (.iload 4, 2) := by decide +kernel
theorem d_Ship_kind_102 : decode b_Ship_kind 102 = .ok (.invokevirtual 187, 3) := by decide +kernel
theorem d_Ship_kind_105 : decode b_Ship_kind 105 = .ok (.ireturn, 1) := by decide +kernel
theorem d_Ship_rule_22 : decode b_Ship_rule 22 = .ok (.aload_n 0, 1) := by decide +kernel
theorem d_Ship_rule_23 : decode b_Ship_rule 23 = .ok (.getfield 10, 3) := by decide +kernel
theorem d_Ship_rule_26 : decode b_Ship_rule 26 = .ok (.aload_n 0, 1) := by decide +kernel
theorem d_Ship_rule_27 : decode b_Ship_rule 27 = .ok (.getfield 10, 3) := by decide +kernel
theorem d_Ship_rule_30 : decode b_Ship_rule 30 = .ok (.getfield 64, 3) := by decide +kernel
theorem d_Ship_rule_33 : decode b_Ship_rule 33 = .ok (.iload_n 2, 1) := by decide +kernel
theorem d_Ship_rule_34 : decode b_Ship_rule 34 = .ok (.isub, 1) := by decide +kernel
theorem d_Ship_rule_35 : decode b_Ship_rule 35 = .ok (.invokevirtual 86, 3) := by decide +kernel
theorem d_Ship_rule_38 : decode b_Ship_rule 38 = .ok (.ifCond .ne 11, 3) := by decide +kernel
theorem d_Ship_rule_49 : decode b_Ship_rule 49 = .ok (.iload_n 1, 1) := by decide +kernel
theorem d_Ship_rule_50 : decode b_Ship_rule 50 = .ok (.ifCond .eq 7, 3) := by decide +kernel
theorem d_Ship_rule_53 : decode b_Ship_rule 53 = .ok (.iconst 1, 1) := by decide +kernel
theorem d_Ship_rule_54 : decode b_Ship_rule 54 = .ok (.goto 4, 3) := by decide +kernel
theorem d_Ship_rule_57 : decode b_Ship_rule 57 = .ok (.iconst 0, 1) := by decide +kernel
theorem d_Ship_rule_58 : decode b_Ship_rule 58 = .ok (.istore_n 3, 1) := by decide +kernel
theorem d_Ship_rule_59 : decode b_Ship_rule 59 = .ok (.aload_n 0, 1) := by decide +kernel
theorem d_Ship_rule_60 : decode b_Ship_rule 60 = .ok (.getfield 26, 3) := by decide +kernel
theorem d_Ship_rule_63 : decode b_Ship_rule 63 = .ok (.iload_n 3, 1) := by decide +kernel
theorem d_Ship_rule_64 : decode b_Ship_rule 64 = .ok (.invokevirtual 90, 3) := by decide +kernel
theorem d_Ship_rule_67 : decode b_Ship_rule 67 = .ok (.ifCond .eq 11, 3) := by decide +kernel
theorem d_Ship_rule_70 : decode b_Ship_rule 70 = .ok (.new 68, 3) := by decide +kernel
theorem d_Ship_rule_73 : decode b_Ship_rule 73 = .ok (.dup, 1) := by decide +kernel
theorem d_Ship_rule_74 : decode b_Ship_rule 74 = .ok (.invokespecial 70, 3) := by decide +kernel
theorem d_Ship_rule_77 : decode b_Ship_rule 77 = .ok (.athrow, 1) := by decide +kernel
theorem d_Ship_rule_78 : decode b_Ship_rule 78 = .ok (.aload_n 0, 1) := by decide +kernel
theorem d_Ship_rule_79 : decode b_Ship_rule 79 = .ok (.getfield 26, 3) := by decide +kernel
theorem d_Ship_rule_82 : decode b_Ship_rule 82 = .ok (.iload_n 3, 1) := by decide +kernel
theorem d_Ship_rule_83 : decode b_Ship_rule 83 = .ok (.aload_n 0, 1) := by decide +kernel
theorem d_Ship_rule_84 : decode b_Ship_rule 84 = .ok (.getfield 10, 3) := by decide +kernel
theorem d_Ship_rule_87 : decode b_Ship_rule 87 = .ok (.iload_n 2, 1) := by decide +kernel
theorem d_Ship_rule_88 : decode b_Ship_rule 88 = .ok (.invokevirtual 93, 3) := by decide +kernel
theorem d_Ship_rule_91 : decode b_Ship_rule 91 = .ok (.aload_n 0, 1) := by decide +kernel
theorem d_Ship_rule_92 : decode b_Ship_rule 92 = .ok (.getfield 10, 3) := by decide +kernel
theorem d_Ship_rule_95 : decode b_Ship_rule 95 = .ok (.dup, 1) := by decide +kernel
theorem d_Ship_rule_96 : decode b_Ship_rule 96 = .ok (.getfield 64, 3) := by decide +kernel
theorem d_Ship_rule_99 : decode b_Ship_rule 99 = .ok (.iload_n 2, 1) := by decide +kernel
theorem d_Ship_rule_100 : decode b_Ship_rule 100 = .ok (.isub, 1) := by decide +kernel
theorem d_Ship_rule_101 : decode b_Ship_rule 101 = .ok (.putfield 64, 3) := by decide +kernel
theorem d_Ship_rule_104 : decode b_Ship_rule 104 = .ok (.aload_n 0, 1) := by decide +kernel
theorem d_Ship_rule_105 : decode b_Ship_rule 105 = .ok (.getfield 26, 3) := by decide +kernel
theorem d_Ship_rule_108 : decode b_Ship_rule 108 = .ok (.getfield 97, 3) := by decide +kernel
theorem d_Ship_rule_111 : decode b_Ship_rule 111 = .ok (.iload_n 3, 1) := by decide +kernel
theorem d_Ship_rule_112 : decode b_Ship_rule 112 = .ok (.iaload, 1) := by decide +kernel
theorem d_Ship_rule_113 : decode b_Ship_rule 113 = .ok (.ireturn, 1) := by decide +kernel
theorem d_Ship_text_15 : decode b_Ship_text 15 = .ok (.iload_n 1, 1) := by decide +kernel
theorem d_Ship_text_16 : decode b_Ship_text 16 = .ok (.ifCond .lt 9, 3) := by decide +kernel
theorem d_Ship_text_19 : decode b_Ship_text 19 = .ok (.iload_n 1, 1) := by decide +kernel
theorem d_Ship_text_20 : decode b_Ship_text 20 = .ok (.bipush 6, 2) := by decide +kernel
theorem d_Ship_text_22 : decode b_Ship_text 22 = .ok (.if_icmp .le 11, 3) := by decide +kernel
theorem d_Ship_text_25 : decode b_Ship_text 25 = .ok (.new 61, 3) := by decide +kernel
theorem d_Ship_text_28 : decode b_Ship_text 28 = .ok (.dup, 1) := by decide +kernel
theorem d_Ship_text_29 : decode b_Ship_text 29 = .ok (.invokespecial 63, 3) := by decide +kernel
theorem d_Ship_text_32 : decode b_Ship_text 32 = .ok (.athrow, 1) := by decide +kernel
theorem d_Ship_text_33 : decode b_Ship_text 33 = .ok (.aload_n 0, 1) := by decide +kernel
theorem d_Ship_text_34 : decode b_Ship_text 34 = .ok (.getfield 58, 3) := by decide +kernel
theorem d_Ship_text_37 : decode b_Ship_text 37 = .ok (.aload_n 0, 1) := by decide +kernel
theorem d_Ship_text_38 : decode b_Ship_text 38 = .ok (.getfield 58, 3) := by decide +kernel
theorem d_Ship_text_41 : decode b_Ship_text 41 = .ok (.iload_n 1, 1) := by decide +kernel
theorem d_Ship_text_42 : decode b_Ship_text 42 = .ok (.iload_n 2, 1) := by decide +kernel
theorem d_Ship_text_43 : decode b_Ship_text 43 = .ok (.invokevirtual 171, 3) := by decide +kernel
theorem d_Ship_text_46 : decode b_Ship_text 46 = .ok (.iload_n 3, 1) := by decide +kernel
theorem d_Ship_text_47 : decode b_Ship_text 47 = .ok (.invokevirtual 174, 3) := by decide +kernel
theorem d_Ship_text_50 : decode b_Ship_text 50 = .ok (.ireturn, 1) := by decide +kernel
end
