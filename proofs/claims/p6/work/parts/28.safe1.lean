section
set_option maxHeartbeats 4000000 in
set_option maxRecDepth 100000 in
theorem s_Image_twoAt (l : Launch) (g : tw_G) (sz : Nat) (h0 r n : Nat) (f : Nat → Int32) (i : Int32) (hn : n ≤ 600) : Met l y_Image_twoAt [.code y_Image_twoAt b_Image_twoAt 2 (some .int)] ({ frames := 1, cells := 0, slots := 0, locals := 23 }) (tw_P g [.ref h0, .int i] [(h0, .inr (2, [.ref r, .int (nI n)])), (r, aB g 600 f)] sz) (vp_Si (fun r => ∃ j, j < 65536 ∧ r = nI j)) 0 0 (fun _ => False) := by
  refine tw_met (l := l) (g := g) (y := y_Image_twoAt) (cc := b_Image_twoAt) (maxL := 2) (ret := (some .int)) (rm := { frames := 1, cells := 0, slots := 0, locals := 23 }) (mc := 0) (ms := 0) (av := [.ref h0, .int i]) (ws := [(h0, .inr (2, [.ref r, .int (nI n)])), (r, aB g 600 f)]) (sz := sz) (Qc := fun _ => (vp_Si (fun r => ∃ j, j < 65536 ∧ r = nI j))) (free := fun _ _ => False) (by decide) (Nat.le_of_ble_eq_true rfl) ?_
  intro p e s m below meth c ls A E hB hK hZ hP hD hS hA hl
  obtain ⟨hx, hb, hml, hr, hown, hts, hlocks, hin⟩ := id E
  have hl : lv_has ls 2 [(0, .ref h0), (1, .int i)] := hl
  refine lv_aload_n hx hb d_Image_twoAt_0 rfl (lv_at hl 0 rfl) ?_
  refine lv_iload_n hx hb d_Image_twoAt_1 rfl (lv_at hl 1 rfl) ?_
  refine tw_si (tw_runV (ws := [(h0, .inr (2, [.ref r, .int (nI n)])), (r, aB g 600 f)]) (wc := [(h0, .inr (2, [.ref r, .int (nI n)])), (r, aB g 600 f)]) (As := [.int i]) (rest := []) E hB hK hZ (c_Image_oneAt l g s.heap.size h0 r n f i hn) mc_Image_oneAt mi_Image_oneAt me_Image_oneAt wd_394 hP hD hS hA [0, 1] rfl (by decide) 0 rfl rfl rfl rfl rfl (by decide) rfl hl.1 rfl (Nat.le_of_ble_eq_true rfl) (by decide) d_Image_twoAt_2) (fun r1 hr1 => ?_)
  refine lv_bipush (v := 8) hx hb d_Image_twoAt_5 (by decide) ?_
  refine lv_ishl hx hb d_Image_twoAt_7 ?_
  obtain ⟨x2, ex2⟩ : ∃ z : Int32, r1 <<< (8 &&& 31) = z := ⟨_, rfl⟩
  refine tw_ri (e2 := x2) ex2 ?_
  refine lv_aload_n hx hb d_Image_twoAt_8 rfl (lv_at hl 0 rfl) ?_
  refine lv_iload_n hx hb d_Image_twoAt_9 rfl (lv_at hl 1 rfl) ?_
  refine lv_iconst (v := 1) hx hb d_Image_twoAt_10 (by decide) ?_
  refine lv_iadd hx hb d_Image_twoAt_11 ?_
  obtain ⟨x3, ex3⟩ : ∃ z : Int32, i + 1 = z := ⟨_, rfl⟩
  refine tw_ri (e2 := x3) ex3 ?_
  refine tw_si (tw_runV (ws := [(h0, .inr (2, [.ref r, .int (nI n)])), (r, aB g 600 f)]) (wc := [(h0, .inr (2, [.ref r, .int (nI n)])), (r, aB g 600 f)]) (As := [.int x3]) (rest := [.int x2]) E hB hK hZ (c_Image_oneAt l g s.heap.size h0 r n f x3 hn) mc_Image_oneAt mi_Image_oneAt me_Image_oneAt wd_394 hP hD hS hA [0, 1] rfl (by decide) 0 rfl rfl rfl rfl rfl (by decide) rfl hl.1 rfl (Nat.le_of_ble_eq_true rfl) (by decide) d_Image_twoAt_12) (fun r4 hr4 => ?_)
  refine lv_ior hx hb d_Image_twoAt_15 ?_
  obtain ⟨x5, ex5⟩ : ∃ z : Int32, x2 ||| r4 = z := ⟨_, rfl⟩
  refine tw_ri (e2 := x5) ex5 ?_
  exact tw_isret E (sf_two hr1 hr4 ex2 ex5) d_Image_twoAt_16
set_option maxHeartbeats 4000000 in
set_option maxRecDepth 100000 in
theorem s_Image_fourAt (l : Launch) (g : tw_G) (sz : Nat) (h0 r n : Nat) (f : Nat → Int32) (i : Int32) (hn : n ≤ 600) : Met l y_Image_fourAt [.code y_Image_fourAt b_Image_fourAt 4 (some .long)] ({ frames := 1, cells := 0, slots := 0, locals := 23 }) (tw_P g [.ref h0, .int i] [(h0, .inr (2, [.ref r, .int (nI n)])), (r, aB g 600 f)] sz) (vp_Sl (fun _ => True)) 0 0 (fun _ => False) := by
  refine tw_met (l := l) (g := g) (y := y_Image_fourAt) (cc := b_Image_fourAt) (maxL := 4) (ret := (some .long)) (rm := { frames := 1, cells := 0, slots := 0, locals := 23 }) (mc := 0) (ms := 0) (av := [.ref h0, .int i]) (ws := [(h0, .inr (2, [.ref r, .int (nI n)])), (r, aB g 600 f)]) (sz := sz) (Qc := fun _ => (vp_Sl (fun _ => True))) (free := fun _ _ => False) (by decide) (Nat.le_of_ble_eq_true rfl) ?_
  intro p e s m below meth c ls A E hB hK hZ hP hD hS hA hl
  obtain ⟨hx, hb, hml, hr, hown, hts, hlocks, hin⟩ := id E
  have hl : lv_has ls 4 [(0, .ref h0), (1, .int i)] := hl
  refine lv_aload_n hx hb d_Image_fourAt_0 rfl (lv_at hl 0 rfl) ?_
  refine lv_iload_n hx hb d_Image_fourAt_1 rfl (lv_at hl 1 rfl) ?_
  refine tw_si (tw_runV (ws := [(h0, .inr (2, [.ref r, .int (nI n)])), (r, aB g 600 f)]) (wc := [(h0, .inr (2, [.ref r, .int (nI n)])), (r, aB g 600 f)]) (As := [.int i]) (rest := []) E hB hK hZ (c_Image_oneAt l g s.heap.size h0 r n f i hn) mc_Image_oneAt mi_Image_oneAt me_Image_oneAt wd_394 hP hD hS hA [0, 1] rfl (by decide) 0 rfl rfl rfl rfl rfl (by decide) rfl hl.1 rfl (Nat.le_of_ble_eq_true rfl) (by decide) d_Image_fourAt_2) (fun r1 hr1 => ?_)
  refine lv_bipush (v := 8) hx hb d_Image_fourAt_5 (by decide) ?_
  refine lv_ishl hx hb d_Image_fourAt_7 ?_
  obtain ⟨x2, ex2⟩ : ∃ z : Int32, r1 <<< (8 &&& 31) = z := ⟨_, rfl⟩
  refine tw_ri (e2 := x2) ex2 ?_
  refine lv_aload_n hx hb d_Image_fourAt_8 rfl (lv_at hl 0 rfl) ?_
  refine lv_iload_n hx hb d_Image_fourAt_9 rfl (lv_at hl 1 rfl) ?_
  refine lv_iconst (v := 1) hx hb d_Image_fourAt_10 (by decide) ?_
  refine lv_iadd hx hb d_Image_fourAt_11 ?_
  obtain ⟨x3, ex3⟩ : ∃ z : Int32, i + 1 = z := ⟨_, rfl⟩
  refine tw_ri (e2 := x3) ex3 ?_
  refine tw_si (tw_runV (ws := [(h0, .inr (2, [.ref r, .int (nI n)])), (r, aB g 600 f)]) (wc := [(h0, .inr (2, [.ref r, .int (nI n)])), (r, aB g 600 f)]) (As := [.int x3]) (rest := [.int x2]) E hB hK hZ (c_Image_oneAt l g s.heap.size h0 r n f x3 hn) mc_Image_oneAt mi_Image_oneAt me_Image_oneAt wd_394 hP hD hS hA [0, 1] rfl (by decide) 0 rfl rfl rfl rfl rfl (by decide) rfl hl.1 rfl (Nat.le_of_ble_eq_true rfl) (by decide) d_Image_fourAt_12) (fun r4 hr4 => ?_)
  refine lv_ior hx hb d_Image_fourAt_15 ?_
  obtain ⟨x5, ex5⟩ : ∃ z : Int32, x2 ||| r4 = z := ⟨_, rfl⟩
  refine tw_ri (e2 := x5) ex5 ?_
  refine lv_istore_n hx hb d_Image_fourAt_16 rfl hl (by decide) rfl (fun ls hl => ?_)
  have hl : lv_has ls 4 [(2, .int x5), (0, .ref h0), (1, .int i)] := hl
  refine lv_aload_n hx hb d_Image_fourAt_17 rfl (lv_at hl 1 rfl) ?_
  refine lv_iload_n hx hb d_Image_fourAt_18 rfl (lv_at hl 2 rfl) ?_
  refine lv_iconst (v := 2) hx hb d_Image_fourAt_19 (by decide) ?_
  refine lv_iadd hx hb d_Image_fourAt_20 ?_
  obtain ⟨x6, ex6⟩ : ∃ z : Int32, i + 2 = z := ⟨_, rfl⟩
  refine tw_ri (e2 := x6) ex6 ?_
  refine tw_si (tw_runV (ws := [(h0, .inr (2, [.ref r, .int (nI n)])), (r, aB g 600 f)]) (wc := [(h0, .inr (2, [.ref r, .int (nI n)])), (r, aB g 600 f)]) (As := [.int x6]) (rest := []) E hB hK hZ (c_Image_oneAt l g s.heap.size h0 r n f x6 hn) mc_Image_oneAt mi_Image_oneAt me_Image_oneAt wd_394 hP hD hS hA [0, 1] rfl (by decide) 0 rfl rfl rfl rfl rfl (by decide) rfl hl.1 rfl (Nat.le_of_ble_eq_true rfl) (by decide) d_Image_fourAt_21) (fun r7 hr7 => ?_)
  refine lv_bipush (v := 8) hx hb d_Image_fourAt_24 (by decide) ?_
  refine lv_ishl hx hb d_Image_fourAt_26 ?_
  obtain ⟨x8, ex8⟩ : ∃ z : Int32, r7 <<< (8 &&& 31) = z := ⟨_, rfl⟩
  refine tw_ri (e2 := x8) ex8 ?_
  refine lv_aload_n hx hb d_Image_fourAt_27 rfl (lv_at hl 1 rfl) ?_
  refine lv_iload_n hx hb d_Image_fourAt_28 rfl (lv_at hl 2 rfl) ?_
  refine lv_iconst (v := 3) hx hb d_Image_fourAt_29 (by decide) ?_
  refine lv_iadd hx hb d_Image_fourAt_30 ?_
  obtain ⟨x9, ex9⟩ : ∃ z : Int32, i + 3 = z := ⟨_, rfl⟩
  refine tw_ri (e2 := x9) ex9 ?_
  refine tw_si (tw_runV (ws := [(h0, .inr (2, [.ref r, .int (nI n)])), (r, aB g 600 f)]) (wc := [(h0, .inr (2, [.ref r, .int (nI n)])), (r, aB g 600 f)]) (As := [.int x9]) (rest := [.int x8]) E hB hK hZ (c_Image_oneAt l g s.heap.size h0 r n f x9 hn) mc_Image_oneAt mi_Image_oneAt me_Image_oneAt wd_394 hP hD hS hA [0, 1] rfl (by decide) 0 rfl rfl rfl rfl rfl (by decide) rfl hl.1 rfl (Nat.le_of_ble_eq_true rfl) (by decide) d_Image_fourAt_31) (fun r10 hr10 => ?_)
  refine lv_ior hx hb d_Image_fourAt_34 ?_
  obtain ⟨x11, ex11⟩ : ∃ z : Int32, x8 ||| r10 = z := ⟨_, rfl⟩
  refine tw_ri (e2 := x11) ex11 ?_
  refine lv_istore_n hx hb d_Image_fourAt_35 rfl hl (by decide) rfl (fun ls hl => ?_)
  have hl : lv_has ls 4 [(3, .int x11), (2, .int x5), (0, .ref h0), (1, .int i)] := hl
  refine lv_iload_n hx hb d_Image_fourAt_36 rfl (lv_at hl 1 rfl) ?_
  refine lv_i2l (v := x5.toInt64) hx hb d_Image_fourAt_37 rfl ?_
  refine lv_bipush (v := 16) hx hb d_Image_fourAt_38 (by decide) ?_
  refine lv_lshl (v := x5.toInt64 <<< ((16 : Int32).toInt64 &&& 63)) hx hb d_Image_fourAt_40 rfl ?_
  refine lv_iload_n hx hb d_Image_fourAt_41 rfl (lv_at hl 0 rfl) ?_
  refine lv_i2l (v := x11.toInt64) hx hb d_Image_fourAt_42 rfl ?_
  refine lv_lor hx hb d_Image_fourAt_43 ?_
  obtain ⟨x12, ex12⟩ : ∃ z : Int64, (x5.toInt64 <<< ((16 : Int32).toInt64 &&& 63)) ||| x11.toInt64 = z := ⟨_, rfl⟩
  refine tw_rl (e2 := x12) ex12 ?_
  exact tw_lsret E trivial d_Image_fourAt_44
set_option maxHeartbeats 4000000 in
set_option maxRecDepth 100000 in
theorem s_Layout_tagOf (l : Launch) (g : tw_G) (sz : Nat) (h0 : Nat) (w : Nat → Nat) (v : LY) (k : Int32) (hI : LI v) : Met l y_Layout_tagOf [.code y_Layout_tagOf b_Layout_tagOf 2 (some .int)] ({ frames := 0, cells := 0, slots := 0, locals := 0 }) (tw_P g [.ref h0, .int k] [(h0, .inr (3, [.ref (w 0), .ref (w 2), .ref (w 7), .ref (w 8), .ref (w 9), .ref (w 10), .ref (w 11), .ref (w 12), .ref (w 13), .int v.nu, .int v.th, .int v.it, .int (nI v.fi), .int (nI v.me), .int v.mp])), ((w 0), .inr (2, [.ref (w 1), .int (nI v.n)])), ((w 1), aB g 600 v.b), ((w 2), .inr (1, [.ref (w 3), .ref (w 4), .ref (w 5), .ref (w 6), .int (nI v.lo)])), ((w 3), aJ g 4800 v.rw), ((w 4), aB g 600 v.bg), ((w 5), aB g 600 v.wt), ((w 6), aB g 600 v.dp), ((w 7), aI g 200 v.tg), ((w 8), aI g 200 v.ca), ((w 9), aI g 200 v.fs), ((w 10), aI g 200 v.sc), ((w 11), aI g 75 v.fa), ((w 12), aI g 75 v.ma), ((w 13), aI g 75 v.co)] sz) (vp_Si (fun _ => True)) 0 0 (fun _ => False) := by
  refine tw_met (l := l) (g := g) (y := y_Layout_tagOf) (cc := b_Layout_tagOf) (maxL := 2) (ret := (some .int)) (rm := { frames := 0, cells := 0, slots := 0, locals := 0 }) (mc := 0) (ms := 0) (av := [.ref h0, .int k]) (ws := [(h0, .inr (3, [.ref (w 0), .ref (w 2), .ref (w 7), .ref (w 8), .ref (w 9), .ref (w 10), .ref (w 11), .ref (w 12), .ref (w 13), .int v.nu, .int v.th, .int v.it, .int (nI v.fi), .int (nI v.me), .int v.mp])), ((w 0), .inr (2, [.ref (w 1), .int (nI v.n)])), ((w 1), aB g 600 v.b), ((w 2), .inr (1, [.ref (w 3), .ref (w 4), .ref (w 5), .ref (w 6), .int (nI v.lo)])), ((w 3), aJ g 4800 v.rw), ((w 4), aB g 600 v.bg), ((w 5), aB g 600 v.wt), ((w 6), aB g 600 v.dp), ((w 7), aI g 200 v.tg), ((w 8), aI g 200 v.ca), ((w 9), aI g 200 v.fs), ((w 10), aI g 200 v.sc), ((w 11), aI g 75 v.fa), ((w 12), aI g 75 v.ma), ((w 13), aI g 75 v.co)]) (sz := sz) (Qc := fun _ => (vp_Si (fun _ => True))) (free := fun _ _ => False) (by decide) (Nat.le_of_ble_eq_true rfl) ?_
  intro p e s m below meth c ls A E hB hK hZ hP hD hS hA hl
  obtain ⟨hx, hb, hml, hr, hown, hts, hlocks, hin⟩ := id E
  have hl : lv_has ls 2 [(0, .ref h0), (1, .int k)] := hl
  refine lv_iload_n hx hb d_Layout_tagOf_0 rfl (lv_at hl 1 rfl) ?_
  refine lv_if_le (tgt := 20) hx hb d_Layout_tagOf_1 (by decide) (fun h1 => ?_) (fun h1 => ?_)
  · refine lv_iconst (v := 0) hx hb d_Layout_tagOf_20 (by decide) ?_
    exact tw_isret E trivial d_Layout_tagOf_21
  · refine lv_iload_n hx hb d_Layout_tagOf_4 rfl (lv_at hl 1 rfl) ?_
    refine lv_sipush (v := 200) hx hb d_Layout_tagOf_5 (by decide) ?_
    refine lv_icmp_ge (tgt := 20) hx hb d_Layout_tagOf_8 (by decide) (fun h8 => ?_) (fun h8 => ?_)
    · refine lv_iconst (v := 0) hx hb d_Layout_tagOf_20 (by decide) ?_
      exact tw_isret E trivial d_Layout_tagOf_21
    · refine lv_aload_n hx hb d_Layout_tagOf_11 rfl (lv_at hl 0 rfl) ?_
      refine va_get (D := g.1) (ci := 3) (v := .ref (w 7)) (C := R_Layout) (T := F_Layout) (N := 15) hx hb hts in_Layout hown hK hP 0 rfl rfl 2 (by decide) (hts _ wd_251) (fun _ h9 => h9) rfl d_Layout_tagOf_12 ?_
      refine lv_iload_n hx hb d_Layout_tagOf_15 rfl (lv_at hl 1 rfl) ?_
      refine va_iald hx hb hK hP 8 0 rfl rfl (tn_gin h1 h8 (N := 200) (by decide)) d_Layout_tagOf_16 ?_
      obtain ⟨x1, ex1⟩ : ∃ z : Int32, v.tg k.toNatClampNeg = z := ⟨_, rfl⟩
      refine tw_ri (e2 := x1) ex1 ?_
      refine lv_goto (tgt := 21) hx hb d_Layout_tagOf_17 (by decide) ?_
      exact tw_isret E trivial d_Layout_tagOf_21
set_option maxHeartbeats 4000000 in
set_option maxRecDepth 100000 in
theorem s_Layout_placeOf (l : Launch) (g : tw_G) (sz : Nat) (h0 : Nat) (w : Nat → Nat) (v : LY) (k : Int32) (hI : LI v) : Met l y_Layout_placeOf [.code y_Layout_placeOf b_Layout_placeOf 2 (some .int)] ({ frames := 0, cells := 0, slots := 0, locals := 0 }) (tw_P g [.ref h0, .int k] [(h0, .inr (3, [.ref (w 0), .ref (w 2), .ref (w 7), .ref (w 8), .ref (w 9), .ref (w 10), .ref (w 11), .ref (w 12), .ref (w 13), .int v.nu, .int v.th, .int v.it, .int (nI v.fi), .int (nI v.me), .int v.mp])), ((w 0), .inr (2, [.ref (w 1), .int (nI v.n)])), ((w 1), aB g 600 v.b), ((w 2), .inr (1, [.ref (w 3), .ref (w 4), .ref (w 5), .ref (w 6), .int (nI v.lo)])), ((w 3), aJ g 4800 v.rw), ((w 4), aB g 600 v.bg), ((w 5), aB g 600 v.wt), ((w 6), aB g 600 v.dp), ((w 7), aI g 200 v.tg), ((w 8), aI g 200 v.ca), ((w 9), aI g 200 v.fs), ((w 10), aI g 200 v.sc), ((w 11), aI g 75 v.fa), ((w 12), aI g 75 v.ma), ((w 13), aI g 75 v.co)] sz) (vp_Si (fun _ => True)) 0 0 (fun _ => False) := by
  refine tw_met (l := l) (g := g) (y := y_Layout_placeOf) (cc := b_Layout_placeOf) (maxL := 2) (ret := (some .int)) (rm := { frames := 0, cells := 0, slots := 0, locals := 0 }) (mc := 0) (ms := 0) (av := [.ref h0, .int k]) (ws := [(h0, .inr (3, [.ref (w 0), .ref (w 2), .ref (w 7), .ref (w 8), .ref (w 9), .ref (w 10), .ref (w 11), .ref (w 12), .ref (w 13), .int v.nu, .int v.th, .int v.it, .int (nI v.fi), .int (nI v.me), .int v.mp])), ((w 0), .inr (2, [.ref (w 1), .int (nI v.n)])), ((w 1), aB g 600 v.b), ((w 2), .inr (1, [.ref (w 3), .ref (w 4), .ref (w 5), .ref (w 6), .int (nI v.lo)])), ((w 3), aJ g 4800 v.rw), ((w 4), aB g 600 v.bg), ((w 5), aB g 600 v.wt), ((w 6), aB g 600 v.dp), ((w 7), aI g 200 v.tg), ((w 8), aI g 200 v.ca), ((w 9), aI g 200 v.fs), ((w 10), aI g 200 v.sc), ((w 11), aI g 75 v.fa), ((w 12), aI g 75 v.ma), ((w 13), aI g 75 v.co)]) (sz := sz) (Qc := fun _ => (vp_Si (fun _ => True))) (free := fun _ _ => False) (by decide) (Nat.le_of_ble_eq_true rfl) ?_
  intro p e s m below meth c ls A E hB hK hZ hP hD hS hA hl
  obtain ⟨hx, hb, hml, hr, hown, hts, hlocks, hin⟩ := id E
  have hl : lv_has ls 2 [(0, .ref h0), (1, .int k)] := hl
  refine lv_iload_n hx hb d_Layout_placeOf_0 rfl (lv_at hl 1 rfl) ?_
  refine lv_if_le (tgt := 20) hx hb d_Layout_placeOf_1 (by decide) (fun h1 => ?_) (fun h1 => ?_)
  · refine lv_iconst (v := 0) hx hb d_Layout_placeOf_20 (by decide) ?_
    exact tw_isret E trivial d_Layout_placeOf_21
  · refine lv_iload_n hx hb d_Layout_placeOf_4 rfl (lv_at hl 1 rfl) ?_
    refine lv_sipush (v := 200) hx hb d_Layout_placeOf_5 (by decide) ?_
    refine lv_icmp_ge (tgt := 20) hx hb d_Layout_placeOf_8 (by decide) (fun h8 => ?_) (fun h8 => ?_)
    · refine lv_iconst (v := 0) hx hb d_Layout_placeOf_20 (by decide) ?_
      exact tw_isret E trivial d_Layout_placeOf_21
    · refine lv_aload_n hx hb d_Layout_placeOf_11 rfl (lv_at hl 0 rfl) ?_
      refine va_get (D := g.1) (ci := 3) (v := .ref (w 8)) (C := R_Layout) (T := F_Layout) (N := 15) hx hb hts in_Layout hown hK hP 0 rfl rfl 3 (by decide) (hts _ wd_252) (fun _ h9 => h9) rfl d_Layout_placeOf_12 ?_
      refine lv_iload_n hx hb d_Layout_placeOf_15 rfl (lv_at hl 1 rfl) ?_
      refine va_iald hx hb hK hP 9 0 rfl rfl (tn_gin h1 h8 (N := 200) (by decide)) d_Layout_placeOf_16 ?_
      obtain ⟨x1, ex1⟩ : ∃ z : Int32, v.ca k.toNatClampNeg = z := ⟨_, rfl⟩
      refine tw_ri (e2 := x1) ex1 ?_
      refine lv_goto (tgt := 21) hx hb d_Layout_placeOf_17 (by decide) ?_
      exact tw_isret E trivial d_Layout_placeOf_21
set_option maxHeartbeats 4000000 in
set_option maxRecDepth 100000 in
theorem s_Layout_firstOf (l : Launch) (g : tw_G) (sz : Nat) (h0 : Nat) (w : Nat → Nat) (v : LY) (k : Int32) (hI : LI v) : Met l y_Layout_firstOf [.code y_Layout_firstOf b_Layout_firstOf 2 (some .int)] ({ frames := 0, cells := 0, slots := 0, locals := 0 }) (tw_P g [.ref h0, .int k] [(h0, .inr (3, [.ref (w 0), .ref (w 2), .ref (w 7), .ref (w 8), .ref (w 9), .ref (w 10), .ref (w 11), .ref (w 12), .ref (w 13), .int v.nu, .int v.th, .int v.it, .int (nI v.fi), .int (nI v.me), .int v.mp])), ((w 0), .inr (2, [.ref (w 1), .int (nI v.n)])), ((w 1), aB g 600 v.b), ((w 2), .inr (1, [.ref (w 3), .ref (w 4), .ref (w 5), .ref (w 6), .int (nI v.lo)])), ((w 3), aJ g 4800 v.rw), ((w 4), aB g 600 v.bg), ((w 5), aB g 600 v.wt), ((w 6), aB g 600 v.dp), ((w 7), aI g 200 v.tg), ((w 8), aI g 200 v.ca), ((w 9), aI g 200 v.fs), ((w 10), aI g 200 v.sc), ((w 11), aI g 75 v.fa), ((w 12), aI g 75 v.ma), ((w 13), aI g 75 v.co)] sz) (vp_Si (fun _ => True)) 0 0 (fun _ => False) := by
  refine tw_met (l := l) (g := g) (y := y_Layout_firstOf) (cc := b_Layout_firstOf) (maxL := 2) (ret := (some .int)) (rm := { frames := 0, cells := 0, slots := 0, locals := 0 }) (mc := 0) (ms := 0) (av := [.ref h0, .int k]) (ws := [(h0, .inr (3, [.ref (w 0), .ref (w 2), .ref (w 7), .ref (w 8), .ref (w 9), .ref (w 10), .ref (w 11), .ref (w 12), .ref (w 13), .int v.nu, .int v.th, .int v.it, .int (nI v.fi), .int (nI v.me), .int v.mp])), ((w 0), .inr (2, [.ref (w 1), .int (nI v.n)])), ((w 1), aB g 600 v.b), ((w 2), .inr (1, [.ref (w 3), .ref (w 4), .ref (w 5), .ref (w 6), .int (nI v.lo)])), ((w 3), aJ g 4800 v.rw), ((w 4), aB g 600 v.bg), ((w 5), aB g 600 v.wt), ((w 6), aB g 600 v.dp), ((w 7), aI g 200 v.tg), ((w 8), aI g 200 v.ca), ((w 9), aI g 200 v.fs), ((w 10), aI g 200 v.sc), ((w 11), aI g 75 v.fa), ((w 12), aI g 75 v.ma), ((w 13), aI g 75 v.co)]) (sz := sz) (Qc := fun _ => (vp_Si (fun _ => True))) (free := fun _ _ => False) (by decide) (Nat.le_of_ble_eq_true rfl) ?_
  intro p e s m below meth c ls A E hB hK hZ hP hD hS hA hl
  obtain ⟨hx, hb, hml, hr, hown, hts, hlocks, hin⟩ := id E
  have hl : lv_has ls 2 [(0, .ref h0), (1, .int k)] := hl
  refine lv_iload_n hx hb d_Layout_firstOf_0 rfl (lv_at hl 1 rfl) ?_
  refine lv_if_le (tgt := 20) hx hb d_Layout_firstOf_1 (by decide) (fun h1 => ?_) (fun h1 => ?_)
  · refine lv_iconst (v := 0) hx hb d_Layout_firstOf_20 (by decide) ?_
    exact tw_isret E trivial d_Layout_firstOf_21
  · refine lv_iload_n hx hb d_Layout_firstOf_4 rfl (lv_at hl 1 rfl) ?_
    refine lv_sipush (v := 200) hx hb d_Layout_firstOf_5 (by decide) ?_
    refine lv_icmp_ge (tgt := 20) hx hb d_Layout_firstOf_8 (by decide) (fun h8 => ?_) (fun h8 => ?_)
    · refine lv_iconst (v := 0) hx hb d_Layout_firstOf_20 (by decide) ?_
      exact tw_isret E trivial d_Layout_firstOf_21
    · refine lv_aload_n hx hb d_Layout_firstOf_11 rfl (lv_at hl 0 rfl) ?_
      refine va_get (D := g.1) (ci := 3) (v := .ref (w 9)) (C := R_Layout) (T := F_Layout) (N := 15) hx hb hts in_Layout hown hK hP 0 rfl rfl 4 (by decide) (hts _ wd_253) (fun _ h9 => h9) rfl d_Layout_firstOf_12 ?_
      refine lv_iload_n hx hb d_Layout_firstOf_15 rfl (lv_at hl 1 rfl) ?_
      refine va_iald hx hb hK hP 10 0 rfl rfl (tn_gin h1 h8 (N := 200) (by decide)) d_Layout_firstOf_16 ?_
      obtain ⟨x1, ex1⟩ : ∃ z : Int32, v.fs k.toNatClampNeg = z := ⟨_, rfl⟩
      refine tw_ri (e2 := x1) ex1 ?_
      refine lv_goto (tgt := 21) hx hb d_Layout_firstOf_17 (by decide) ?_
      exact tw_isret E trivial d_Layout_firstOf_21
set_option maxHeartbeats 4000000 in
set_option maxRecDepth 100000 in
theorem s_Layout_secondOf (l : Launch) (g : tw_G) (sz : Nat) (h0 : Nat) (w : Nat → Nat) (v : LY) (k : Int32) (hI : LI v) : Met l y_Layout_secondOf [.code y_Layout_secondOf b_Layout_secondOf 2 (some .int)] ({ frames := 0, cells := 0, slots := 0, locals := 0 }) (tw_P g [.ref h0, .int k] [(h0, .inr (3, [.ref (w 0), .ref (w 2), .ref (w 7), .ref (w 8), .ref (w 9), .ref (w 10), .ref (w 11), .ref (w 12), .ref (w 13), .int v.nu, .int v.th, .int v.it, .int (nI v.fi), .int (nI v.me), .int v.mp])), ((w 0), .inr (2, [.ref (w 1), .int (nI v.n)])), ((w 1), aB g 600 v.b), ((w 2), .inr (1, [.ref (w 3), .ref (w 4), .ref (w 5), .ref (w 6), .int (nI v.lo)])), ((w 3), aJ g 4800 v.rw), ((w 4), aB g 600 v.bg), ((w 5), aB g 600 v.wt), ((w 6), aB g 600 v.dp), ((w 7), aI g 200 v.tg), ((w 8), aI g 200 v.ca), ((w 9), aI g 200 v.fs), ((w 10), aI g 200 v.sc), ((w 11), aI g 75 v.fa), ((w 12), aI g 75 v.ma), ((w 13), aI g 75 v.co)] sz) (vp_Si (fun _ => True)) 0 0 (fun _ => False) := by
  refine tw_met (l := l) (g := g) (y := y_Layout_secondOf) (cc := b_Layout_secondOf) (maxL := 2) (ret := (some .int)) (rm := { frames := 0, cells := 0, slots := 0, locals := 0 }) (mc := 0) (ms := 0) (av := [.ref h0, .int k]) (ws := [(h0, .inr (3, [.ref (w 0), .ref (w 2), .ref (w 7), .ref (w 8), .ref (w 9), .ref (w 10), .ref (w 11), .ref (w 12), .ref (w 13), .int v.nu, .int v.th, .int v.it, .int (nI v.fi), .int (nI v.me), .int v.mp])), ((w 0), .inr (2, [.ref (w 1), .int (nI v.n)])), ((w 1), aB g 600 v.b), ((w 2), .inr (1, [.ref (w 3), .ref (w 4), .ref (w 5), .ref (w 6), .int (nI v.lo)])), ((w 3), aJ g 4800 v.rw), ((w 4), aB g 600 v.bg), ((w 5), aB g 600 v.wt), ((w 6), aB g 600 v.dp), ((w 7), aI g 200 v.tg), ((w 8), aI g 200 v.ca), ((w 9), aI g 200 v.fs), ((w 10), aI g 200 v.sc), ((w 11), aI g 75 v.fa), ((w 12), aI g 75 v.ma), ((w 13), aI g 75 v.co)]) (sz := sz) (Qc := fun _ => (vp_Si (fun _ => True))) (free := fun _ _ => False) (by decide) (Nat.le_of_ble_eq_true rfl) ?_
  intro p e s m below meth c ls A E hB hK hZ hP hD hS hA hl
  obtain ⟨hx, hb, hml, hr, hown, hts, hlocks, hin⟩ := id E
  have hl : lv_has ls 2 [(0, .ref h0), (1, .int k)] := hl
  refine lv_iload_n hx hb d_Layout_secondOf_0 rfl (lv_at hl 1 rfl) ?_
  refine lv_if_le (tgt := 20) hx hb d_Layout_secondOf_1 (by decide) (fun h1 => ?_) (fun h1 => ?_)
  · refine lv_iconst (v := 0) hx hb d_Layout_secondOf_20 (by decide) ?_
    exact tw_isret E trivial d_Layout_secondOf_21
  · refine lv_iload_n hx hb d_Layout_secondOf_4 rfl (lv_at hl 1 rfl) ?_
    refine lv_sipush (v := 200) hx hb d_Layout_secondOf_5 (by decide) ?_
    refine lv_icmp_ge (tgt := 20) hx hb d_Layout_secondOf_8 (by decide) (fun h8 => ?_) (fun h8 => ?_)
    · refine lv_iconst (v := 0) hx hb d_Layout_secondOf_20 (by decide) ?_
      exact tw_isret E trivial d_Layout_secondOf_21
    · refine lv_aload_n hx hb d_Layout_secondOf_11 rfl (lv_at hl 0 rfl) ?_
      refine va_get (D := g.1) (ci := 3) (v := .ref (w 10)) (C := R_Layout) (T := F_Layout) (N := 15) hx hb hts in_Layout hown hK hP 0 rfl rfl 5 (by decide) (hts _ wd_254) (fun _ h9 => h9) rfl d_Layout_secondOf_12 ?_
      refine lv_iload_n hx hb d_Layout_secondOf_15 rfl (lv_at hl 1 rfl) ?_
      refine va_iald hx hb hK hP 11 0 rfl rfl (tn_gin h1 h8 (N := 200) (by decide)) d_Layout_secondOf_16 ?_
      obtain ⟨x1, ex1⟩ : ∃ z : Int32, v.sc k.toNatClampNeg = z := ⟨_, rfl⟩
      refine tw_ri (e2 := x1) ex1 ?_
      refine lv_goto (tgt := 21) hx hb d_Layout_secondOf_17 (by decide) ?_
      exact tw_isret E trivial d_Layout_secondOf_21
set_option maxHeartbeats 4000000 in
set_option maxRecDepth 100000 in
theorem s_Layout_textFrom (l : Launch) (g : tw_G) (sz : Nat) (h0 : Nat) (w : Nat → Nat) (v : LY) (k : Int32) (hI : LI v) : Met l y_Layout_textFrom [.code y_Layout_textFrom b_Layout_textFrom 2 (some .int)] ({ frames := 1, cells := 0, slots := 0, locals := 21 }) (tw_P g [.ref h0, .int k] [(h0, .inr (3, [.ref (w 0), .ref (w 2), .ref (w 7), .ref (w 8), .ref (w 9), .ref (w 10), .ref (w 11), .ref (w 12), .ref (w 13), .int v.nu, .int v.th, .int v.it, .int (nI v.fi), .int (nI v.me), .int v.mp])), ((w 0), .inr (2, [.ref (w 1), .int (nI v.n)])), ((w 1), aB g 600 v.b), ((w 2), .inr (1, [.ref (w 3), .ref (w 4), .ref (w 5), .ref (w 6), .int (nI v.lo)])), ((w 3), aJ g 4800 v.rw), ((w 4), aB g 600 v.bg), ((w 5), aB g 600 v.wt), ((w 6), aB g 600 v.dp), ((w 7), aI g 200 v.tg), ((w 8), aI g 200 v.ca), ((w 9), aI g 200 v.fs), ((w 10), aI g 200 v.sc), ((w 11), aI g 75 v.fa), ((w 12), aI g 75 v.ma), ((w 13), aI g 75 v.co)] sz) (vp_Si (fun _ => True)) 0 0 (fun _ => False) := by
  refine tw_met (l := l) (g := g) (y := y_Layout_textFrom) (cc := b_Layout_textFrom) (maxL := 2) (ret := (some .int)) (rm := { frames := 1, cells := 0, slots := 0, locals := 21 }) (mc := 0) (ms := 0) (av := [.ref h0, .int k]) (ws := [(h0, .inr (3, [.ref (w 0), .ref (w 2), .ref (w 7), .ref (w 8), .ref (w 9), .ref (w 10), .ref (w 11), .ref (w 12), .ref (w 13), .int v.nu, .int v.th, .int v.it, .int (nI v.fi), .int (nI v.me), .int v.mp])), ((w 0), .inr (2, [.ref (w 1), .int (nI v.n)])), ((w 1), aB g 600 v.b), ((w 2), .inr (1, [.ref (w 3), .ref (w 4), .ref (w 5), .ref (w 6), .int (nI v.lo)])), ((w 3), aJ g 4800 v.rw), ((w 4), aB g 600 v.bg), ((w 5), aB g 600 v.wt), ((w 6), aB g 600 v.dp), ((w 7), aI g 200 v.tg), ((w 8), aI g 200 v.ca), ((w 9), aI g 200 v.fs), ((w 10), aI g 200 v.sc), ((w 11), aI g 75 v.fa), ((w 12), aI g 75 v.ma), ((w 13), aI g 75 v.co)]) (sz := sz) (Qc := fun _ => (vp_Si (fun _ => True))) (free := fun _ _ => False) (by decide) (Nat.le_of_ble_eq_true rfl) ?_
  intro p e s m below meth c ls A E hB hK hZ hP hD hS hA hl
  obtain ⟨hx, hb, hml, hr, hown, hts, hlocks, hin⟩ := id E
  have hl : lv_has ls 2 [(0, .ref h0), (1, .int k)] := hl
  refine lv_aload_n hx hb d_Layout_textFrom_0 rfl (lv_at hl 0 rfl) ?_
  refine lv_iload_n hx hb d_Layout_textFrom_1 rfl (lv_at hl 1 rfl) ?_
  refine tw_si (tw_runV (ws := [(h0, .inr (3, [.ref (w 0), .ref (w 2), .ref (w 7), .ref (w 8), .ref (w 9), .ref (w 10), .ref (w 11), .ref (w 12), .ref (w 13), .int v.nu, .int v.th, .int v.it, .int (nI v.fi), .int (nI v.me), .int v.mp])), ((w 0), .inr (2, [.ref (w 1), .int (nI v.n)])), ((w 1), aB g 600 v.b), ((w 2), .inr (1, [.ref (w 3), .ref (w 4), .ref (w 5), .ref (w 6), .int (nI v.lo)])), ((w 3), aJ g 4800 v.rw), ((w 4), aB g 600 v.bg), ((w 5), aB g 600 v.wt), ((w 6), aB g 600 v.dp), ((w 7), aI g 200 v.tg), ((w 8), aI g 200 v.ca), ((w 9), aI g 200 v.fs), ((w 10), aI g 200 v.sc), ((w 11), aI g 75 v.fa), ((w 12), aI g 75 v.ma), ((w 13), aI g 75 v.co)]) (wc := [(h0, .inr (3, [.ref (w 0), .ref (w 2), .ref (w 7), .ref (w 8), .ref (w 9), .ref (w 10), .ref (w 11), .ref (w 12), .ref (w 13), .int v.nu, .int v.th, .int v.it, .int (nI v.fi), .int (nI v.me), .int v.mp])), ((w 0), .inr (2, [.ref (w 1), .int (nI v.n)])), ((w 1), aB g 600 v.b), ((w 2), .inr (1, [.ref (w 3), .ref (w 4), .ref (w 5), .ref (w 6), .int (nI v.lo)])), ((w 3), aJ g 4800 v.rw), ((w 4), aB g 600 v.bg), ((w 5), aB g 600 v.wt), ((w 6), aB g 600 v.dp), ((w 7), aI g 200 v.tg), ((w 8), aI g 200 v.ca), ((w 9), aI g 200 v.fs), ((w 10), aI g 200 v.sc), ((w 11), aI g 75 v.fa), ((w 12), aI g 75 v.ma), ((w 13), aI g 75 v.co)]) (As := [.int k]) (rest := []) E hB hK hZ (s_Layout_placeOf l g s.heap.size h0 w v k hI) mc_Layout_placeOf mi_Layout_placeOf me_Layout_placeOf wd_455 hP hD hS hA [0, 1, 2, 3, 4, 5, 6, 7, 8, 9, 10, 11, 12, 13, 14] rfl (by decide) 0 rfl rfl rfl rfl rfl (by decide) rfl hl.1 rfl (Nat.le_of_ble_eq_true rfl) (by decide) d_Layout_textFrom_2) (fun r1 hr1 => ?_)
  refine lv_iconst (v := 3) hx hb d_Layout_textFrom_5 (by decide) ?_
  refine lv_iadd hx hb d_Layout_textFrom_6 ?_
  obtain ⟨x2, ex2⟩ : ∃ z : Int32, r1 + 3 = z := ⟨_, rfl⟩
  refine tw_ri (e2 := x2) ex2 ?_
  exact tw_isret E trivial d_Layout_textFrom_7
set_option maxHeartbeats 4000000 in
set_option maxRecDepth 100000 in
theorem s_Layout_textEnd (l : Launch) (g : tw_G) (sz : Nat) (h0 : Nat) (w : Nat → Nat) (v : LY) (k : Int32) (hI : LI v) : Met l y_Layout_textEnd [.code y_Layout_textEnd b_Layout_textEnd 2 (some .int)] ({ frames := 1, cells := 0, slots := 0, locals := 21 }) (tw_P g [.ref h0, .int k] [(h0, .inr (3, [.ref (w 0), .ref (w 2), .ref (w 7), .ref (w 8), .ref (w 9), .ref (w 10), .ref (w 11), .ref (w 12), .ref (w 13), .int v.nu, .int v.th, .int v.it, .int (nI v.fi), .int (nI v.me), .int v.mp])), ((w 0), .inr (2, [.ref (w 1), .int (nI v.n)])), ((w 1), aB g 600 v.b), ((w 2), .inr (1, [.ref (w 3), .ref (w 4), .ref (w 5), .ref (w 6), .int (nI v.lo)])), ((w 3), aJ g 4800 v.rw), ((w 4), aB g 600 v.bg), ((w 5), aB g 600 v.wt), ((w 6), aB g 600 v.dp), ((w 7), aI g 200 v.tg), ((w 8), aI g 200 v.ca), ((w 9), aI g 200 v.fs), ((w 10), aI g 200 v.sc), ((w 11), aI g 75 v.fa), ((w 12), aI g 75 v.ma), ((w 13), aI g 75 v.co)] sz) (vp_Si (fun _ => True)) 0 0 (fun _ => False) := by
  refine tw_met (l := l) (g := g) (y := y_Layout_textEnd) (cc := b_Layout_textEnd) (maxL := 2) (ret := (some .int)) (rm := { frames := 1, cells := 0, slots := 0, locals := 21 }) (mc := 0) (ms := 0) (av := [.ref h0, .int k]) (ws := [(h0, .inr (3, [.ref (w 0), .ref (w 2), .ref (w 7), .ref (w 8), .ref (w 9), .ref (w 10), .ref (w 11), .ref (w 12), .ref (w 13), .int v.nu, .int v.th, .int v.it, .int (nI v.fi), .int (nI v.me), .int v.mp])), ((w 0), .inr (2, [.ref (w 1), .int (nI v.n)])), ((w 1), aB g 600 v.b), ((w 2), .inr (1, [.ref (w 3), .ref (w 4), .ref (w 5), .ref (w 6), .int (nI v.lo)])), ((w 3), aJ g 4800 v.rw), ((w 4), aB g 600 v.bg), ((w 5), aB g 600 v.wt), ((w 6), aB g 600 v.dp), ((w 7), aI g 200 v.tg), ((w 8), aI g 200 v.ca), ((w 9), aI g 200 v.fs), ((w 10), aI g 200 v.sc), ((w 11), aI g 75 v.fa), ((w 12), aI g 75 v.ma), ((w 13), aI g 75 v.co)]) (sz := sz) (Qc := fun _ => (vp_Si (fun _ => True))) (free := fun _ _ => False) (by decide) (Nat.le_of_ble_eq_true rfl) ?_
  intro p e s m below meth c ls A E hB hK hZ hP hD hS hA hl
  obtain ⟨hx, hb, hml, hr, hown, hts, hlocks, hin⟩ := id E
  have hl : lv_has ls 2 [(0, .ref h0), (1, .int k)] := hl
  refine lv_aload_n hx hb d_Layout_textEnd_0 rfl (lv_at hl 0 rfl) ?_
  refine lv_iload_n hx hb d_Layout_textEnd_1 rfl (lv_at hl 1 rfl) ?_
  refine tw_si (tw_runV (ws := [(h0, .inr (3, [.ref (w 0), .ref (w 2), .ref (w 7), .ref (w 8), .ref (w 9), .ref (w 10), .ref (w 11), .ref (w 12), .ref (w 13), .int v.nu, .int v.th, .int v.it, .int (nI v.fi), .int (nI v.me), .int v.mp])), ((w 0), .inr (2, [.ref (w 1), .int (nI v.n)])), ((w 1), aB g 600 v.b), ((w 2), .inr (1, [.ref (w 3), .ref (w 4), .ref (w 5), .ref (w 6), .int (nI v.lo)])), ((w 3), aJ g 4800 v.rw), ((w 4), aB g 600 v.bg), ((w 5), aB g 600 v.wt), ((w 6), aB g 600 v.dp), ((w 7), aI g 200 v.tg), ((w 8), aI g 200 v.ca), ((w 9), aI g 200 v.fs), ((w 10), aI g 200 v.sc), ((w 11), aI g 75 v.fa), ((w 12), aI g 75 v.ma), ((w 13), aI g 75 v.co)]) (wc := [(h0, .inr (3, [.ref (w 0), .ref (w 2), .ref (w 7), .ref (w 8), .ref (w 9), .ref (w 10), .ref (w 11), .ref (w 12), .ref (w 13), .int v.nu, .int v.th, .int v.it, .int (nI v.fi), .int (nI v.me), .int v.mp])), ((w 0), .inr (2, [.ref (w 1), .int (nI v.n)])), ((w 1), aB g 600 v.b), ((w 2), .inr (1, [.ref (w 3), .ref (w 4), .ref (w 5), .ref (w 6), .int (nI v.lo)])), ((w 3), aJ g 4800 v.rw), ((w 4), aB g 600 v.bg), ((w 5), aB g 600 v.wt), ((w 6), aB g 600 v.dp), ((w 7), aI g 200 v.tg), ((w 8), aI g 200 v.ca), ((w 9), aI g 200 v.fs), ((w 10), aI g 200 v.sc), ((w 11), aI g 75 v.fa), ((w 12), aI g 75 v.ma), ((w 13), aI g 75 v.co)]) (As := [.int k]) (rest := []) E hB hK hZ (s_Layout_placeOf l g s.heap.size h0 w v k hI) mc_Layout_placeOf mi_Layout_placeOf me_Layout_placeOf wd_455 hP hD hS hA [0, 1, 2, 3, 4, 5, 6, 7, 8, 9, 10, 11, 12, 13, 14] rfl (by decide) 0 rfl rfl rfl rfl rfl (by decide) rfl hl.1 rfl (Nat.le_of_ble_eq_true rfl) (by decide) d_Layout_textEnd_2) (fun r1 hr1 => ?_)
  refine lv_iconst (v := 3) hx hb d_Layout_textEnd_5 (by decide) ?_
  refine lv_iadd hx hb d_Layout_textEnd_6 ?_
  obtain ⟨x2, ex2⟩ : ∃ z : Int32, r1 + 3 = z := ⟨_, rfl⟩
  refine tw_ri (e2 := x2) ex2 ?_
  refine lv_aload_n hx hb d_Layout_textEnd_7 rfl (lv_at hl 0 rfl) ?_
  refine lv_iload_n hx hb d_Layout_textEnd_8 rfl (lv_at hl 1 rfl) ?_
  refine tw_si (tw_runV (ws := [(h0, .inr (3, [.ref (w 0), .ref (w 2), .ref (w 7), .ref (w 8), .ref (w 9), .ref (w 10), .ref (w 11), .ref (w 12), .ref (w 13), .int v.nu, .int v.th, .int v.it, .int (nI v.fi), .int (nI v.me), .int v.mp])), ((w 0), .inr (2, [.ref (w 1), .int (nI v.n)])), ((w 1), aB g 600 v.b), ((w 2), .inr (1, [.ref (w 3), .ref (w 4), .ref (w 5), .ref (w 6), .int (nI v.lo)])), ((w 3), aJ g 4800 v.rw), ((w 4), aB g 600 v.bg), ((w 5), aB g 600 v.wt), ((w 6), aB g 600 v.dp), ((w 7), aI g 200 v.tg), ((w 8), aI g 200 v.ca), ((w 9), aI g 200 v.fs), ((w 10), aI g 200 v.sc), ((w 11), aI g 75 v.fa), ((w 12), aI g 75 v.ma), ((w 13), aI g 75 v.co)]) (wc := [(h0, .inr (3, [.ref (w 0), .ref (w 2), .ref (w 7), .ref (w 8), .ref (w 9), .ref (w 10), .ref (w 11), .ref (w 12), .ref (w 13), .int v.nu, .int v.th, .int v.it, .int (nI v.fi), .int (nI v.me), .int v.mp])), ((w 0), .inr (2, [.ref (w 1), .int (nI v.n)])), ((w 1), aB g 600 v.b), ((w 2), .inr (1, [.ref (w 3), .ref (w 4), .ref (w 5), .ref (w 6), .int (nI v.lo)])), ((w 3), aJ g 4800 v.rw), ((w 4), aB g 600 v.bg), ((w 5), aB g 600 v.wt), ((w 6), aB g 600 v.dp), ((w 7), aI g 200 v.tg), ((w 8), aI g 200 v.ca), ((w 9), aI g 200 v.fs), ((w 10), aI g 200 v.sc), ((w 11), aI g 75 v.fa), ((w 12), aI g 75 v.ma), ((w 13), aI g 75 v.co)]) (As := [.int k]) (rest := [.int x2]) E hB hK hZ (s_Layout_firstOf l g s.heap.size h0 w v k hI) mc_Layout_firstOf mi_Layout_firstOf me_Layout_firstOf wd_459 hP hD hS hA [0, 1, 2, 3, 4, 5, 6, 7, 8, 9, 10, 11, 12, 13, 14] rfl (by decide) 0 rfl rfl rfl rfl rfl (by decide) rfl hl.1 rfl (Nat.le_of_ble_eq_true rfl) (by decide) d_Layout_textEnd_9) (fun r3 hr3 => ?_)
  refine lv_iadd hx hb d_Layout_textEnd_12 ?_
  obtain ⟨x4, ex4⟩ : ∃ z : Int32, x2 + r3 = z := ⟨_, rfl⟩
  refine tw_ri (e2 := x4) ex4 ?_
  exact tw_isret E trivial d_Layout_textEnd_13
set_option maxHeartbeats 4000000 in
set_option maxRecDepth 100000 in
theorem s_Layout_classTextAt (l : Launch) (g : tw_G) (sz : Nat) (h0 : Nat) (w : Nat → Nat) (v : LY) (a : Int32) (hI : LI v) : Met l y_Layout_classTextAt [.code y_Layout_classTextAt b_Layout_classTextAt 2 (some .int)] ({ frames := 2, cells := 0, slots := 0, locals := 44 }) (tw_P g [.ref h0, .int a] [(h0, .inr (3, [.ref (w 0), .ref (w 2), .ref (w 7), .ref (w 8), .ref (w 9), .ref (w 10), .ref (w 11), .ref (w 12), .ref (w 13), .int v.nu, .int v.th, .int v.it, .int (nI v.fi), .int (nI v.me), .int v.mp])), ((w 0), .inr (2, [.ref (w 1), .int (nI v.n)])), ((w 1), aB g 600 v.b), ((w 2), .inr (1, [.ref (w 3), .ref (w 4), .ref (w 5), .ref (w 6), .int (nI v.lo)])), ((w 3), aJ g 4800 v.rw), ((w 4), aB g 600 v.bg), ((w 5), aB g 600 v.wt), ((w 6), aB g 600 v.dp), ((w 7), aI g 200 v.tg), ((w 8), aI g 200 v.ca), ((w 9), aI g 200 v.fs), ((w 10), aI g 200 v.sc), ((w 11), aI g 75 v.fa), ((w 12), aI g 75 v.ma), ((w 13), aI g 75 v.co)] sz) (vp_Si (fun _ => True)) 0 0 (fun _ => False) := by
  refine tw_met (l := l) (g := g) (y := y_Layout_classTextAt) (cc := b_Layout_classTextAt) (maxL := 2) (ret := (some .int)) (rm := { frames := 2, cells := 0, slots := 0, locals := 44 }) (mc := 0) (ms := 0) (av := [.ref h0, .int a]) (ws := [(h0, .inr (3, [.ref (w 0), .ref (w 2), .ref (w 7), .ref (w 8), .ref (w 9), .ref (w 10), .ref (w 11), .ref (w 12), .ref (w 13), .int v.nu, .int v.th, .int v.it, .int (nI v.fi), .int (nI v.me), .int v.mp])), ((w 0), .inr (2, [.ref (w 1), .int (nI v.n)])), ((w 1), aB g 600 v.b), ((w 2), .inr (1, [.ref (w 3), .ref (w 4), .ref (w 5), .ref (w 6), .int (nI v.lo)])), ((w 3), aJ g 4800 v.rw), ((w 4), aB g 600 v.bg), ((w 5), aB g 600 v.wt), ((w 6), aB g 600 v.dp), ((w 7), aI g 200 v.tg), ((w 8), aI g 200 v.ca), ((w 9), aI g 200 v.fs), ((w 10), aI g 200 v.sc), ((w 11), aI g 75 v.fa), ((w 12), aI g 75 v.ma), ((w 13), aI g 75 v.co)]) (sz := sz) (Qc := fun _ => (vp_Si (fun _ => True))) (free := fun _ _ => False) (by decide) (Nat.le_of_ble_eq_true rfl) ?_
  intro p e s m below meth c ls A E hB hK hZ hP hD hS hA hl
  obtain ⟨hx, hb, hml, hr, hown, hts, hlocks, hin⟩ := id E
  have hl : lv_has ls 2 [(0, .ref h0), (1, .int a)] := hl
  refine lv_aload_n hx hb d_Layout_classTextAt_0 rfl (lv_at hl 0 rfl) ?_
  refine lv_aload_n hx hb d_Layout_classTextAt_1 rfl (lv_at hl 0 rfl) ?_
  refine va_get (D := g.1) (ci := 3) (v := .ref (w 0)) (C := R_Layout) (T := F_Layout) (N := 15) hx hb hts in_Layout hown hK hP 0 rfl rfl 0 (by decide) (hts _ wd_241) (fun _ h9 => h9) rfl d_Layout_classTextAt_2 ?_
  refine lv_iload_n hx hb d_Layout_classTextAt_5 rfl (lv_at hl 1 rfl) ?_
  refine tw_si (tw_runV (ws := [(h0, .inr (3, [.ref (w 0), .ref (w 2), .ref (w 7), .ref (w 8), .ref (w 9), .ref (w 10), .ref (w 11), .ref (w 12), .ref (w 13), .int v.nu, .int v.th, .int v.it, .int (nI v.fi), .int (nI v.me), .int v.mp])), ((w 0), .inr (2, [.ref (w 1), .int (nI v.n)])), ((w 1), aB g 600 v.b), ((w 2), .inr (1, [.ref (w 3), .ref (w 4), .ref (w 5), .ref (w 6), .int (nI v.lo)])), ((w 3), aJ g 4800 v.rw), ((w 4), aB g 600 v.bg), ((w 5), aB g 600 v.wt), ((w 6), aB g 600 v.dp), ((w 7), aI g 200 v.tg), ((w 8), aI g 200 v.ca), ((w 9), aI g 200 v.fs), ((w 10), aI g 200 v.sc), ((w 11), aI g 75 v.fa), ((w 12), aI g 75 v.ma), ((w 13), aI g 75 v.co)]) (wc := [((w 0), .inr (2, [.ref (w 1), .int (nI v.n)])), ((w 1), aB g 600 v.b)]) (As := [.int a]) (rest := [.ref h0]) E hB hK hZ (s_Image_twoAt l g s.heap.size (w 0) (w 1) v.n v.b a hI.n) mc_Image_twoAt mi_Image_twoAt me_Image_twoAt wd_425 hP hD hS hA [1, 2] rfl (by decide) 0 rfl rfl rfl rfl rfl (by decide) rfl hl.1 rfl (Nat.le_of_ble_eq_true rfl) (by decide) d_Layout_classTextAt_6) (fun r1 hr1 => ?_)
  refine tw_si (tw_runV (ws := [(h0, .inr (3, [.ref (w 0), .ref (w 2), .ref (w 7), .ref (w 8), .ref (w 9), .ref (w 10), .ref (w 11), .ref (w 12), .ref (w 13), .int v.nu, .int v.th, .int v.it, .int (nI v.fi), .int (nI v.me), .int v.mp])), ((w 0), .inr (2, [.ref (w 1), .int (nI v.n)])), ((w 1), aB g 600 v.b), ((w 2), .inr (1, [.ref (w 3), .ref (w 4), .ref (w 5), .ref (w 6), .int (nI v.lo)])), ((w 3), aJ g 4800 v.rw), ((w 4), aB g 600 v.bg), ((w 5), aB g 600 v.wt), ((w 6), aB g 600 v.dp), ((w 7), aI g 200 v.tg), ((w 8), aI g 200 v.ca), ((w 9), aI g 200 v.fs), ((w 10), aI g 200 v.sc), ((w 11), aI g 75 v.fa), ((w 12), aI g 75 v.ma), ((w 13), aI g 75 v.co)]) (wc := [(h0, .inr (3, [.ref (w 0), .ref (w 2), .ref (w 7), .ref (w 8), .ref (w 9), .ref (w 10), .ref (w 11), .ref (w 12), .ref (w 13), .int v.nu, .int v.th, .int v.it, .int (nI v.fi), .int (nI v.me), .int v.mp])), ((w 0), .inr (2, [.ref (w 1), .int (nI v.n)])), ((w 1), aB g 600 v.b), ((w 2), .inr (1, [.ref (w 3), .ref (w 4), .ref (w 5), .ref (w 6), .int (nI v.lo)])), ((w 3), aJ g 4800 v.rw), ((w 4), aB g 600 v.bg), ((w 5), aB g 600 v.wt), ((w 6), aB g 600 v.dp), ((w 7), aI g 200 v.tg), ((w 8), aI g 200 v.ca), ((w 9), aI g 200 v.fs), ((w 10), aI g 200 v.sc), ((w 11), aI g 75 v.fa), ((w 12), aI g 75 v.ma), ((w 13), aI g 75 v.co)]) (As := [.int r1]) (rest := []) E hB hK hZ (s_Layout_firstOf l g s.heap.size h0 w v r1 hI) mc_Layout_firstOf mi_Layout_firstOf me_Layout_firstOf wd_459 hP hD hS hA [0, 1, 2, 3, 4, 5, 6, 7, 8, 9, 10, 11, 12, 13, 14] rfl (by decide) 0 rfl rfl rfl rfl rfl (by decide) rfl hl.1 rfl (Nat.le_of_ble_eq_true rfl) (by decide) d_Layout_classTextAt_9) (fun r2 hr2 => ?_)
  exact tw_isret E trivial d_Layout_classTextAt_12
set_option maxHeartbeats 4000000 in
set_option maxRecDepth 100000 in
theorem s_Layout_interfaceAt (l : Launch) (g : tw_G) (sz : Nat) (h0 : Nat) (w : Nat → Nat) (v : LY) (k : Int32) (hI : LI v) : Met l y_Layout_interfaceAt [.code y_Layout_interfaceAt b_Layout_interfaceAt 2 (some .int)] ({ frames := 0, cells := 0, slots := 0, locals := 0 }) (tw_P g [.ref h0, .int k] [(h0, .inr (3, [.ref (w 0), .ref (w 2), .ref (w 7), .ref (w 8), .ref (w 9), .ref (w 10), .ref (w 11), .ref (w 12), .ref (w 13), .int v.nu, .int v.th, .int v.it, .int (nI v.fi), .int (nI v.me), .int v.mp])), ((w 0), .inr (2, [.ref (w 1), .int (nI v.n)])), ((w 1), aB g 600 v.b), ((w 2), .inr (1, [.ref (w 3), .ref (w 4), .ref (w 5), .ref (w 6), .int (nI v.lo)])), ((w 3), aJ g 4800 v.rw), ((w 4), aB g 600 v.bg), ((w 5), aB g 600 v.wt), ((w 6), aB g 600 v.dp), ((w 7), aI g 200 v.tg), ((w 8), aI g 200 v.ca), ((w 9), aI g 200 v.fs), ((w 10), aI g 200 v.sc), ((w 11), aI g 75 v.fa), ((w 12), aI g 75 v.ma), ((w 13), aI g 75 v.co)] sz) (vp_Si (fun _ => True)) 0 0 (fun _ => False) := by
  refine tw_met (l := l) (g := g) (y := y_Layout_interfaceAt) (cc := b_Layout_interfaceAt) (maxL := 2) (ret := (some .int)) (rm := { frames := 0, cells := 0, slots := 0, locals := 0 }) (mc := 0) (ms := 0) (av := [.ref h0, .int k]) (ws := [(h0, .inr (3, [.ref (w 0), .ref (w 2), .ref (w 7), .ref (w 8), .ref (w 9), .ref (w 10), .ref (w 11), .ref (w 12), .ref (w 13), .int v.nu, .int v.th, .int v.it, .int (nI v.fi), .int (nI v.me), .int v.mp])), ((w 0), .inr (2, [.ref (w 1), .int (nI v.n)])), ((w 1), aB g 600 v.b), ((w 2), .inr (1, [.ref (w 3), .ref (w 4), .ref (w 5), .ref (w 6), .int (nI v.lo)])), ((w 3), aJ g 4800 v.rw), ((w 4), aB g 600 v.bg), ((w 5), aB g 600 v.wt), ((w 6), aB g 600 v.dp), ((w 7), aI g 200 v.tg), ((w 8), aI g 200 v.ca), ((w 9), aI g 200 v.fs), ((w 10), aI g 200 v.sc), ((w 11), aI g 75 v.fa), ((w 12), aI g 75 v.ma), ((w 13), aI g 75 v.co)]) (sz := sz) (Qc := fun _ => (vp_Si (fun _ => True))) (free := fun _ _ => False) (by decide) (Nat.le_of_ble_eq_true rfl) ?_
  intro p e s m below meth c ls A E hB hK hZ hP hD hS hA hl
  obtain ⟨hx, hb, hml, hr, hown, hts, hlocks, hin⟩ := id E
  have hl : lv_has ls 2 [(0, .ref h0), (1, .int k)] := hl
  refine lv_aload_n hx hb d_Layout_interfaceAt_0 rfl (lv_at hl 0 rfl) ?_
  refine va_get (D := g.1) (ci := 3) (v := .int v.th) (C := R_Layout) (T := F_Layout) (N := 15) hx hb hts in_Layout hown hK hP 0 rfl rfl 10 (by decide) (hts _ wd_266) (fun _ h9 => h9) rfl d_Layout_interfaceAt_1 ?_
  refine lv_bipush (v := 6) hx hb d_Layout_interfaceAt_4 (by decide) ?_
  refine lv_iadd hx hb d_Layout_interfaceAt_6 ?_
  obtain ⟨x1, ex1⟩ : ∃ z : Int32, v.th + 6 = z := ⟨_, rfl⟩
  refine tw_ri (e2 := x1) ex1 ?_
  refine lv_iconst (v := 2) hx hb d_Layout_interfaceAt_7 (by decide) ?_
  refine lv_iload_n hx hb d_Layout_interfaceAt_8 rfl (lv_at hl 1 rfl) ?_
  refine lv_imul hx hb d_Layout_interfaceAt_9 ?_
  obtain ⟨x2, ex2⟩ : ∃ z : Int32, 2 * k = z := ⟨_, rfl⟩
  refine tw_ri (e2 := x2) ex2 ?_
  refine lv_iadd hx hb d_Layout_interfaceAt_10 ?_
  obtain ⟨x3, ex3⟩ : ∃ z : Int32, x1 + x2 = z := ⟨_, rfl⟩
  refine tw_ri (e2 := x3) ex3 ?_
  exact tw_isret E trivial d_Layout_interfaceAt_11
set_option maxHeartbeats 4000000 in
set_option maxRecDepth 100000 in
theorem s_Layout_nameAt (l : Launch) (g : tw_G) (sz : Nat) (h0 : Nat) (w : Nat → Nat) (v : LY) (k : Int32) (hI : LI v) : Met l y_Layout_nameAt [.code y_Layout_nameAt b_Layout_nameAt 2 (some .int)] ({ frames := 2, cells := 0, slots := 0, locals := 44 }) (tw_P g [.ref h0, .int k] [(h0, .inr (3, [.ref (w 0), .ref (w 2), .ref (w 7), .ref (w 8), .ref (w 9), .ref (w 10), .ref (w 11), .ref (w 12), .ref (w 13), .int v.nu, .int v.th, .int v.it, .int (nI v.fi), .int (nI v.me), .int v.mp])), ((w 0), .inr (2, [.ref (w 1), .int (nI v.n)])), ((w 1), aB g 600 v.b), ((w 2), .inr (1, [.ref (w 3), .ref (w 4), .ref (w 5), .ref (w 6), .int (nI v.lo)])), ((w 3), aJ g 4800 v.rw), ((w 4), aB g 600 v.bg), ((w 5), aB g 600 v.wt), ((w 6), aB g 600 v.dp), ((w 7), aI g 200 v.tg), ((w 8), aI g 200 v.ca), ((w 9), aI g 200 v.fs), ((w 10), aI g 200 v.sc), ((w 11), aI g 75 v.fa), ((w 12), aI g 75 v.ma), ((w 13), aI g 75 v.co)] sz) (vp_Si (fun _ => True)) 0 0 (fun _ => False) := by
  refine tw_met (l := l) (g := g) (y := y_Layout_nameAt) (cc := b_Layout_nameAt) (maxL := 2) (ret := (some .int)) (rm := { frames := 2, cells := 0, slots := 0, locals := 44 }) (mc := 0) (ms := 0) (av := [.ref h0, .int k]) (ws := [(h0, .inr (3, [.ref (w 0), .ref (w 2), .ref (w 7), .ref (w 8), .ref (w 9), .ref (w 10), .ref (w 11), .ref (w 12), .ref (w 13), .int v.nu, .int v.th, .int v.it, .int (nI v.fi), .int (nI v.me), .int v.mp])), ((w 0), .inr (2, [.ref (w 1), .int (nI v.n)])), ((w 1), aB g 600 v.b), ((w 2), .inr (1, [.ref (w 3), .ref (w 4), .ref (w 5), .ref (w 6), .int (nI v.lo)])), ((w 3), aJ g 4800 v.rw), ((w 4), aB g 600 v.bg), ((w 5), aB g 600 v.wt), ((w 6), aB g 600 v.dp), ((w 7), aI g 200 v.tg), ((w 8), aI g 200 v.ca), ((w 9), aI g 200 v.fs), ((w 10), aI g 200 v.sc), ((w 11), aI g 75 v.fa), ((w 12), aI g 75 v.ma), ((w 13), aI g 75 v.co)]) (sz := sz) (Qc := fun _ => (vp_Si (fun _ => True))) (free := fun _ _ => False) (by decide) (Nat.le_of_ble_eq_true rfl) ?_
  intro p e s m below meth c ls A E hB hK hZ hP hD hS hA hl
  obtain ⟨hx, hb, hml, hr, hown, hts, hlocks, hin⟩ := id E
  have hl : lv_has ls 2 [(0, .ref h0), (1, .int k)] := hl
  refine lv_aload_n hx hb d_Layout_nameAt_0 rfl (lv_at hl 0 rfl) ?_
  refine va_get (D := g.1) (ci := 3) (v := .ref (w 0)) (C := R_Layout) (T := F_Layout) (N := 15) hx hb hts in_Layout hown hK hP 0 rfl rfl 0 (by decide) (hts _ wd_241) (fun _ h9 => h9) rfl d_Layout_nameAt_1 ?_
  refine lv_iload_n hx hb d_Layout_nameAt_4 rfl (lv_at hl 1 rfl) ?_
  refine lv_iconst (v := 2) hx hb d_Layout_nameAt_5 (by decide) ?_
  refine lv_iadd hx hb d_Layout_nameAt_6 ?_
  obtain ⟨x1, ex1⟩ : ∃ z : Int32, k + 2 = z := ⟨_, rfl⟩
  refine tw_ri (e2 := x1) ex1 ?_
  refine tw_si (tw_runV (ws := [(h0, .inr (3, [.ref (w 0), .ref (w 2), .ref (w 7), .ref (w 8), .ref (w 9), .ref (w 10), .ref (w 11), .ref (w 12), .ref (w 13), .int v.nu, .int v.th, .int v.it, .int (nI v.fi), .int (nI v.me), .int v.mp])), ((w 0), .inr (2, [.ref (w 1), .int (nI v.n)])), ((w 1), aB g 600 v.b), ((w 2), .inr (1, [.ref (w 3), .ref (w 4), .ref (w 5), .ref (w 6), .int (nI v.lo)])), ((w 3), aJ g 4800 v.rw), ((w 4), aB g 600 v.bg), ((w 5), aB g 600 v.wt), ((w 6), aB g 600 v.dp), ((w 7), aI g 200 v.tg), ((w 8), aI g 200 v.ca), ((w 9), aI g 200 v.fs), ((w 10), aI g 200 v.sc), ((w 11), aI g 75 v.fa), ((w 12), aI g 75 v.ma), ((w 13), aI g 75 v.co)]) (wc := [((w 0), .inr (2, [.ref (w 1), .int (nI v.n)])), ((w 1), aB g 600 v.b)]) (As := [.int x1]) (rest := []) E hB hK hZ (s_Image_twoAt l g s.heap.size (w 0) (w 1) v.n v.b x1 hI.n) mc_Image_twoAt mi_Image_twoAt me_Image_twoAt wd_425 hP hD hS hA [1, 2] rfl (by decide) 0 rfl rfl rfl rfl rfl (by decide) rfl hl.1 rfl (Nat.le_of_ble_eq_true rfl) (by decide) d_Layout_nameAt_7) (fun r2 hr2 => ?_)
  exact tw_isret E trivial d_Layout_nameAt_10
set_option maxHeartbeats 4000000 in
set_option maxRecDepth 100000 in
theorem s_Layout_typeAt (l : Launch) (g : tw_G) (sz : Nat) (h0 : Nat) (w : Nat → Nat) (v : LY) (k : Int32) (hI : LI v) : Met l y_Layout_typeAt [.code y_Layout_typeAt b_Layout_typeAt 2 (some .int)] ({ frames := 2, cells := 0, slots := 0, locals := 44 }) (tw_P g [.ref h0, .int k] [(h0, .inr (3, [.ref (w 0), .ref (w 2), .ref (w 7), .ref (w 8), .ref (w 9), .ref (w 10), .ref (w 11), .ref (w 12), .ref (w 13), .int v.nu, .int v.th, .int v.it, .int (nI v.fi), .int (nI v.me), .int v.mp])), ((w 0), .inr (2, [.ref (w 1), .int (nI v.n)])), ((w 1), aB g 600 v.b), ((w 2), .inr (1, [.ref (w 3), .ref (w 4), .ref (w 5), .ref (w 6), .int (nI v.lo)])), ((w 3), aJ g 4800 v.rw), ((w 4), aB g 600 v.bg), ((w 5), aB g 600 v.wt), ((w 6), aB g 600 v.dp), ((w 7), aI g 200 v.tg), ((w 8), aI g 200 v.ca), ((w 9), aI g 200 v.fs), ((w 10), aI g 200 v.sc), ((w 11), aI g 75 v.fa), ((w 12), aI g 75 v.ma), ((w 13), aI g 75 v.co)] sz) (vp_Si (fun _ => True)) 0 0 (fun _ => False) := by
  refine tw_met (l := l) (g := g) (y := y_Layout_typeAt) (cc := b_Layout_typeAt) (maxL := 2) (ret := (some .int)) (rm := { frames := 2, cells := 0, slots := 0, locals := 44 }) (mc := 0) (ms := 0) (av := [.ref h0, .int k]) (ws := [(h0, .inr (3, [.ref (w 0), .ref (w 2), .ref (w 7), .ref (w 8), .ref (w 9), .ref (w 10), .ref (w 11), .ref (w 12), .ref (w 13), .int v.nu, .int v.th, .int v.it, .int (nI v.fi), .int (nI v.me), .int v.mp])), ((w 0), .inr (2, [.ref (w 1), .int (nI v.n)])), ((w 1), aB g 600 v.b), ((w 2), .inr (1, [.ref (w 3), .ref (w 4), .ref (w 5), .ref (w 6), .int (nI v.lo)])), ((w 3), aJ g 4800 v.rw), ((w 4), aB g 600 v.bg), ((w 5), aB g 600 v.wt), ((w 6), aB g 600 v.dp), ((w 7), aI g 200 v.tg), ((w 8), aI g 200 v.ca), ((w 9), aI g 200 v.fs), ((w 10), aI g 200 v.sc), ((w 11), aI g 75 v.fa), ((w 12), aI g 75 v.ma), ((w 13), aI g 75 v.co)]) (sz := sz) (Qc := fun _ => (vp_Si (fun _ => True))) (free := fun _ _ => False) (by decide) (Nat.le_of_ble_eq_true rfl) ?_
  intro p e s m below meth c ls A E hB hK hZ hP hD hS hA hl
  obtain ⟨hx, hb, hml, hr, hown, hts, hlocks, hin⟩ := id E
  have hl : lv_has ls 2 [(0, .ref h0), (1, .int k)] := hl
  refine lv_aload_n hx hb d_Layout_typeAt_0 rfl (lv_at hl 0 rfl) ?_
  refine va_get (D := g.1) (ci := 3) (v := .ref (w 0)) (C := R_Layout) (T := F_Layout) (N := 15) hx hb hts in_Layout hown hK hP 0 rfl rfl 0 (by decide) (hts _ wd_241) (fun _ h9 => h9) rfl d_Layout_typeAt_1 ?_
  refine lv_iload_n hx hb d_Layout_typeAt_4 rfl (lv_at hl 1 rfl) ?_
  refine lv_iconst (v := 4) hx hb d_Layout_typeAt_5 (by decide) ?_
  refine lv_iadd hx hb d_Layout_typeAt_6 ?_
  obtain ⟨x1, ex1⟩ : ∃ z : Int32, k + 4 = z := ⟨_, rfl⟩
  refine tw_ri (e2 := x1) ex1 ?_
  refine tw_si (tw_runV (ws := [(h0, .inr (3, [.ref (w 0), .ref (w 2), .ref (w 7), .ref (w 8), .ref (w 9), .ref (w 10), .ref (w 11), .ref (w 12), .ref (w 13), .int v.nu, .int v.th, .int v.it, .int (nI v.fi), .int (nI v.me), .int v.mp])), ((w 0), .inr (2, [.ref (w 1), .int (nI v.n)])), ((w 1), aB g 600 v.b), ((w 2), .inr (1, [.ref (w 3), .ref (w 4), .ref (w 5), .ref (w 6), .int (nI v.lo)])), ((w 3), aJ g 4800 v.rw), ((w 4), aB g 600 v.bg), ((w 5), aB g 600 v.wt), ((w 6), aB g 600 v.dp), ((w 7), aI g 200 v.tg), ((w 8), aI g 200 v.ca), ((w 9), aI g 200 v.fs), ((w 10), aI g 200 v.sc), ((w 11), aI g 75 v.fa), ((w 12), aI g 75 v.ma), ((w 13), aI g 75 v.co)]) (wc := [((w 0), .inr (2, [.ref (w 1), .int (nI v.n)])), ((w 1), aB g 600 v.b)]) (As := [.int x1]) (rest := []) E hB hK hZ (s_Image_twoAt l g s.heap.size (w 0) (w 1) v.n v.b x1 hI.n) mc_Image_twoAt mi_Image_twoAt me_Image_twoAt wd_425 hP hD hS hA [1, 2] rfl (by decide) 0 rfl rfl rfl rfl rfl (by decide) rfl hl.1 rfl (Nat.le_of_ble_eq_true rfl) (by decide) d_Layout_typeAt_7) (fun r2 hr2 => ?_)
  exact tw_isret E trivial d_Layout_typeAt_10
set_option maxHeartbeats 4000000 in
set_option maxRecDepth 100000 in
theorem s_Layout_memberAt (l : Launch) (g : tw_G) (sz : Nat) (h0 : Nat) (w : Nat → Nat) (v : LY) (z : Int32) (k : Int32) (hI : LI v) : Met l y_Layout_memberAt [.code y_Layout_memberAt b_Layout_memberAt 3 (some .int)] ({ frames := 0, cells := 0, slots := 0, locals := 0 }) (tw_P g [.ref h0, .int z, .int k] [(h0, .inr (3, [.ref (w 0), .ref (w 2), .ref (w 7), .ref (w 8), .ref (w 9), .ref (w 10), .ref (w 11), .ref (w 12), .ref (w 13), .int v.nu, .int v.th, .int v.it, .int (nI v.fi), .int (nI v.me), .int v.mp])), ((w 0), .inr (2, [.ref (w 1), .int (nI v.n)])), ((w 1), aB g 600 v.b), ((w 2), .inr (1, [.ref (w 3), .ref (w 4), .ref (w 5), .ref (w 6), .int (nI v.lo)])), ((w 3), aJ g 4800 v.rw), ((w 4), aB g 600 v.bg), ((w 5), aB g 600 v.wt), ((w 6), aB g 600 v.dp), ((w 7), aI g 200 v.tg), ((w 8), aI g 200 v.ca), ((w 9), aI g 200 v.fs), ((w 10), aI g 200 v.sc), ((w 11), aI g 75 v.fa), ((w 12), aI g 75 v.ma), ((w 13), aI g 75 v.co)] sz) (vp_Si (fun _ => True)) 0 0 (fun _ => False) := by
  refine tw_met (l := l) (g := g) (y := y_Layout_memberAt) (cc := b_Layout_memberAt) (maxL := 3) (ret := (some .int)) (rm := { frames := 0, cells := 0, slots := 0, locals := 0 }) (mc := 0) (ms := 0) (av := [.ref h0, .int z, .int k]) (ws := [(h0, .inr (3, [.ref (w 0), .ref (w 2), .ref (w 7), .ref (w 8), .ref (w 9), .ref (w 10), .ref (w 11), .ref (w 12), .ref (w 13), .int v.nu, .int v.th, .int v.it, .int (nI v.fi), .int (nI v.me), .int v.mp])), ((w 0), .inr (2, [.ref (w 1), .int (nI v.n)])), ((w 1), aB g 600 v.b), ((w 2), .inr (1, [.ref (w 3), .ref (w 4), .ref (w 5), .ref (w 6), .int (nI v.lo)])), ((w 3), aJ g 4800 v.rw), ((w 4), aB g 600 v.bg), ((w 5), aB g 600 v.wt), ((w 6), aB g 600 v.dp), ((w 7), aI g 200 v.tg), ((w 8), aI g 200 v.ca), ((w 9), aI g 200 v.fs), ((w 10), aI g 200 v.sc), ((w 11), aI g 75 v.fa), ((w 12), aI g 75 v.ma), ((w 13), aI g 75 v.co)]) (sz := sz) (Qc := fun _ => (vp_Si (fun _ => True))) (free := fun _ _ => False) (by decide) (Nat.le_of_ble_eq_true rfl) ?_
  intro p e s m below meth c ls A E hB hK hZ hP hD hS hA hl
  obtain ⟨hx, hb, hml, hr, hown, hts, hlocks, hin⟩ := id E
  have hl : lv_has ls 3 [(0, .ref h0), (1, .int z), (2, .int k)] := hl
  refine lv_iload_n hx hb d_Layout_memberAt_0 rfl (lv_at hl 2 rfl) ?_
  refine lv_if_lt (tgt := 23) hx hb d_Layout_memberAt_1 (by decide) (fun h1 => ?_) (fun h1 => ?_)
  · refine lv_iconst (v := (-1)) hx hb d_Layout_memberAt_23 (by decide) ?_
    exact tw_isret E trivial d_Layout_memberAt_24
  · refine lv_iload_n hx hb d_Layout_memberAt_4 rfl (lv_at hl 2 rfl) ?_
    refine lv_iload_n hx hb d_Layout_memberAt_5 rfl (lv_at hl 1 rfl) ?_
    refine lv_if_eq (tgt := 16) hx hb d_Layout_memberAt_6 (by decide) (fun h6 => ?_) (fun h6 => ?_)
    · refine lv_aload_n hx hb d_Layout_memberAt_16 rfl (lv_at hl 0 rfl) ?_
      refine va_get (D := g.1) (ci := 3) (v := .int (nI v.fi)) (C := R_Layout) (T := F_Layout) (N := 15) hx hb hts in_Layout hown hK hP 0 rfl rfl 12 (by decide) (hts _ wd_271) (fun _ h9 => h9) rfl d_Layout_memberAt_17 ?_
      refine lv_icmp_lt (tgt := 25) hx hb d_Layout_memberAt_20 (by decide) (fun h20 => ?_) (fun h20 => ?_)
      · refine lv_iload_n hx hb d_Layout_memberAt_25 rfl (lv_at hl 1 rfl) ?_
        refine lv_if_eq (tgt := 38) hx hb d_Layout_memberAt_26 (by decide) (fun h26 => ?_) (fun h26 => ?_)
        · refine lv_aload_n hx hb d_Layout_memberAt_38 rfl (lv_at hl 0 rfl) ?_
          refine va_get (D := g.1) (ci := 3) (v := .ref (w 11)) (C := R_Layout) (T := F_Layout) (N := 15) hx hb hts in_Layout hown hK hP 0 rfl rfl 6 (by decide) (hts _ wd_255) (fun _ h9 => h9) rfl d_Layout_memberAt_39 ?_
          refine lv_iload_n hx hb d_Layout_memberAt_42 rfl (lv_at hl 2 rfl) ?_
          refine va_iald hx hb hK hP 12 0 rfl rfl (by first | exact tn_in h1 (Int32.not_le.mpr h20) (Nat.le_trans hI.me (by decide)) (by decide) | exact tn_in h1 (Int32.not_le.mpr h20) (Nat.le_trans hI.fi (by decide)) (by decide)) d_Layout_memberAt_43 ?_
          obtain ⟨x1, ex1⟩ : ∃ z : Int32, v.fa k.toNatClampNeg = z := ⟨_, rfl⟩
          refine tw_ri (e2 := x1) ex1 ?_
          exact tw_isret E trivial d_Layout_memberAt_44
        · refine lv_aload_n hx hb d_Layout_memberAt_29 rfl (lv_at hl 0 rfl) ?_
          refine va_get (D := g.1) (ci := 3) (v := .ref (w 12)) (C := R_Layout) (T := F_Layout) (N := 15) hx hb hts in_Layout hown hK hP 0 rfl rfl 7 (by decide) (hts _ wd_256) (fun _ h9 => h9) rfl d_Layout_memberAt_30 ?_
          refine lv_iload_n hx hb d_Layout_memberAt_33 rfl (lv_at hl 2 rfl) ?_
          refine va_iald hx hb hK hP 13 0 rfl rfl (by first | exact tn_in h1 (Int32.not_le.mpr h20) (Nat.le_trans hI.me (by decide)) (by decide) | exact tn_in h1 (Int32.not_le.mpr h20) (Nat.le_trans hI.fi (by decide)) (by decide)) d_Layout_memberAt_34 ?_
          obtain ⟨x2, ex2⟩ : ∃ z : Int32, v.ma k.toNatClampNeg = z := ⟨_, rfl⟩
          refine tw_ri (e2 := x2) ex2 ?_
          refine lv_goto (tgt := 44) hx hb d_Layout_memberAt_35 (by decide) ?_
          exact tw_isret E trivial d_Layout_memberAt_44
      · refine lv_iconst (v := (-1)) hx hb d_Layout_memberAt_23 (by decide) ?_
        exact tw_isret E trivial d_Layout_memberAt_24
    · refine lv_aload_n hx hb d_Layout_memberAt_9 rfl (lv_at hl 0 rfl) ?_
      refine va_get (D := g.1) (ci := 3) (v := .int (nI v.me)) (C := R_Layout) (T := F_Layout) (N := 15) hx hb hts in_Layout hown hK hP 0 rfl rfl 13 (by decide) (hts _ wd_275) (fun _ h9 => h9) rfl d_Layout_memberAt_10 ?_
      refine lv_goto (tgt := 20) hx hb d_Layout_memberAt_13 (by decide) ?_
      refine lv_icmp_lt (tgt := 25) hx hb d_Layout_memberAt_20 (by decide) (fun h20 => ?_) (fun h20 => ?_)
      · refine lv_iload_n hx hb d_Layout_memberAt_25 rfl (lv_at hl 1 rfl) ?_
        refine lv_if_eq (tgt := 38) hx hb d_Layout_memberAt_26 (by decide) (fun h26 => ?_) (fun h26 => ?_)
        · refine lv_aload_n hx hb d_Layout_memberAt_38 rfl (lv_at hl 0 rfl) ?_
          refine va_get (D := g.1) (ci := 3) (v := .ref (w 11)) (C := R_Layout) (T := F_Layout) (N := 15) hx hb hts in_Layout hown hK hP 0 rfl rfl 6 (by decide) (hts _ wd_255) (fun _ h9 => h9) rfl d_Layout_memberAt_39 ?_
          refine lv_iload_n hx hb d_Layout_memberAt_42 rfl (lv_at hl 2 rfl) ?_
          refine va_iald hx hb hK hP 12 0 rfl rfl (by first | exact tn_in h1 (Int32.not_le.mpr h20) (Nat.le_trans hI.me (by decide)) (by decide) | exact tn_in h1 (Int32.not_le.mpr h20) (Nat.le_trans hI.fi (by decide)) (by decide)) d_Layout_memberAt_43 ?_
          obtain ⟨x3, ex3⟩ : ∃ z : Int32, v.fa k.toNatClampNeg = z := ⟨_, rfl⟩
          refine tw_ri (e2 := x3) ex3 ?_
          exact tw_isret E trivial d_Layout_memberAt_44
        · refine lv_aload_n hx hb d_Layout_memberAt_29 rfl (lv_at hl 0 rfl) ?_
          refine va_get (D := g.1) (ci := 3) (v := .ref (w 12)) (C := R_Layout) (T := F_Layout) (N := 15) hx hb hts in_Layout hown hK hP 0 rfl rfl 7 (by decide) (hts _ wd_256) (fun _ h9 => h9) rfl d_Layout_memberAt_30 ?_
          refine lv_iload_n hx hb d_Layout_memberAt_33 rfl (lv_at hl 2 rfl) ?_
          refine va_iald hx hb hK hP 13 0 rfl rfl (by first | exact tn_in h1 (Int32.not_le.mpr h20) (Nat.le_trans hI.me (by decide)) (by decide) | exact tn_in h1 (Int32.not_le.mpr h20) (Nat.le_trans hI.fi (by decide)) (by decide)) d_Layout_memberAt_34 ?_
          obtain ⟨x4, ex4⟩ : ∃ z : Int32, v.ma k.toNatClampNeg = z := ⟨_, rfl⟩
          refine tw_ri (e2 := x4) ex4 ?_
          refine lv_goto (tgt := 44) hx hb d_Layout_memberAt_35 (by decide) ?_
          exact tw_isret E trivial d_Layout_memberAt_44
      · refine lv_iconst (v := (-1)) hx hb d_Layout_memberAt_23 (by decide) ?_
        exact tw_isret E trivial d_Layout_memberAt_24
set_option maxHeartbeats 4000000 in
set_option maxRecDepth 100000 in
theorem s_Layout_codeOf (l : Launch) (g : tw_G) (sz : Nat) (h0 : Nat) (w : Nat → Nat) (v : LY) (k : Int32) (hI : LI v) : Met l y_Layout_codeOf [.code y_Layout_codeOf b_Layout_codeOf 2 (some .int)] ({ frames := 0, cells := 0, slots := 0, locals := 0 }) (tw_P g [.ref h0, .int k] [(h0, .inr (3, [.ref (w 0), .ref (w 2), .ref (w 7), .ref (w 8), .ref (w 9), .ref (w 10), .ref (w 11), .ref (w 12), .ref (w 13), .int v.nu, .int v.th, .int v.it, .int (nI v.fi), .int (nI v.me), .int v.mp])), ((w 0), .inr (2, [.ref (w 1), .int (nI v.n)])), ((w 1), aB g 600 v.b), ((w 2), .inr (1, [.ref (w 3), .ref (w 4), .ref (w 5), .ref (w 6), .int (nI v.lo)])), ((w 3), aJ g 4800 v.rw), ((w 4), aB g 600 v.bg), ((w 5), aB g 600 v.wt), ((w 6), aB g 600 v.dp), ((w 7), aI g 200 v.tg), ((w 8), aI g 200 v.ca), ((w 9), aI g 200 v.fs), ((w 10), aI g 200 v.sc), ((w 11), aI g 75 v.fa), ((w 12), aI g 75 v.ma), ((w 13), aI g 75 v.co)] sz) (vp_Si (fun _ => True)) 0 0 (fun _ => False) := by
  refine tw_met (l := l) (g := g) (y := y_Layout_codeOf) (cc := b_Layout_codeOf) (maxL := 2) (ret := (some .int)) (rm := { frames := 0, cells := 0, slots := 0, locals := 0 }) (mc := 0) (ms := 0) (av := [.ref h0, .int k]) (ws := [(h0, .inr (3, [.ref (w 0), .ref (w 2), .ref (w 7), .ref (w 8), .ref (w 9), .ref (w 10), .ref (w 11), .ref (w 12), .ref (w 13), .int v.nu, .int v.th, .int v.it, .int (nI v.fi), .int (nI v.me), .int v.mp])), ((w 0), .inr (2, [.ref (w 1), .int (nI v.n)])), ((w 1), aB g 600 v.b), ((w 2), .inr (1, [.ref (w 3), .ref (w 4), .ref (w 5), .ref (w 6), .int (nI v.lo)])), ((w 3), aJ g 4800 v.rw), ((w 4), aB g 600 v.bg), ((w 5), aB g 600 v.wt), ((w 6), aB g 600 v.dp), ((w 7), aI g 200 v.tg), ((w 8), aI g 200 v.ca), ((w 9), aI g 200 v.fs), ((w 10), aI g 200 v.sc), ((w 11), aI g 75 v.fa), ((w 12), aI g 75 v.ma), ((w 13), aI g 75 v.co)]) (sz := sz) (Qc := fun _ => (vp_Si (fun _ => True))) (free := fun _ _ => False) (by decide) (Nat.le_of_ble_eq_true rfl) ?_
  intro p e s m below meth c ls A E hB hK hZ hP hD hS hA hl
  obtain ⟨hx, hb, hml, hr, hown, hts, hlocks, hin⟩ := id E
  have hl : lv_has ls 2 [(0, .ref h0), (1, .int k)] := hl
  refine lv_iload_n hx hb d_Layout_codeOf_0 rfl (lv_at hl 1 rfl) ?_
  refine lv_if_lt (tgt := 21) hx hb d_Layout_codeOf_1 (by decide) (fun h1 => ?_) (fun h1 => ?_)
  · refine lv_iconst (v := 0) hx hb d_Layout_codeOf_21 (by decide) ?_
    exact tw_isret E trivial d_Layout_codeOf_22
  · refine lv_iload_n hx hb d_Layout_codeOf_4 rfl (lv_at hl 1 rfl) ?_
    refine lv_aload_n hx hb d_Layout_codeOf_5 rfl (lv_at hl 0 rfl) ?_
    refine va_get (D := g.1) (ci := 3) (v := .int (nI v.me)) (C := R_Layout) (T := F_Layout) (N := 15) hx hb hts in_Layout hown hK hP 0 rfl rfl 13 (by decide) (hts _ wd_275) (fun _ h9 => h9) rfl d_Layout_codeOf_6 ?_
    refine lv_icmp_ge (tgt := 21) hx hb d_Layout_codeOf_9 (by decide) (fun h9 => ?_) (fun h9 => ?_)
    · refine lv_iconst (v := 0) hx hb d_Layout_codeOf_21 (by decide) ?_
      exact tw_isret E trivial d_Layout_codeOf_22
    · refine lv_aload_n hx hb d_Layout_codeOf_12 rfl (lv_at hl 0 rfl) ?_
      refine va_get (D := g.1) (ci := 3) (v := .ref (w 13)) (C := R_Layout) (T := F_Layout) (N := 15) hx hb hts in_Layout hown hK hP 0 rfl rfl 8 (by decide) (hts _ wd_257) (fun _ h9 => h9) rfl d_Layout_codeOf_13 ?_
      refine lv_iload_n hx hb d_Layout_codeOf_16 rfl (lv_at hl 1 rfl) ?_
      refine va_iald hx hb hK hP 14 0 rfl rfl (tn_in h1 h9 (Nat.le_trans hI.me (by decide)) (by decide)) d_Layout_codeOf_17 ?_
      obtain ⟨x1, ex1⟩ : ∃ z : Int32, v.co k.toNatClampNeg = z := ⟨_, rfl⟩
      refine tw_ri (e2 := x1) ex1 ?_
      refine lv_goto (tgt := 22) hx hb d_Layout_codeOf_18 (by decide) ?_
      exact tw_isret E trivial d_Layout_codeOf_22
set_option maxHeartbeats 4000000 in
set_option maxRecDepth 100000 in
theorem s_Layout_stackOf (l : Launch) (g : tw_G) (sz : Nat) (h0 : Nat) (w : Nat → Nat) (v : LY) (k : Int32) (hI : LI v) : Met l y_Layout_stackOf [.code y_Layout_stackOf b_Layout_stackOf 2 (some .int)] ({ frames := 2, cells := 0, slots := 0, locals := 44 }) (tw_P g [.ref h0, .int k] [(h0, .inr (3, [.ref (w 0), .ref (w 2), .ref (w 7), .ref (w 8), .ref (w 9), .ref (w 10), .ref (w 11), .ref (w 12), .ref (w 13), .int v.nu, .int v.th, .int v.it, .int (nI v.fi), .int (nI v.me), .int v.mp])), ((w 0), .inr (2, [.ref (w 1), .int (nI v.n)])), ((w 1), aB g 600 v.b), ((w 2), .inr (1, [.ref (w 3), .ref (w 4), .ref (w 5), .ref (w 6), .int (nI v.lo)])), ((w 3), aJ g 4800 v.rw), ((w 4), aB g 600 v.bg), ((w 5), aB g 600 v.wt), ((w 6), aB g 600 v.dp), ((w 7), aI g 200 v.tg), ((w 8), aI g 200 v.ca), ((w 9), aI g 200 v.fs), ((w 10), aI g 200 v.sc), ((w 11), aI g 75 v.fa), ((w 12), aI g 75 v.ma), ((w 13), aI g 75 v.co)] sz) (vp_Si (fun r => ∃ j, j < 65536 ∧ r = nI j)) 0 0 (fun _ => False) := by
  refine tw_met (l := l) (g := g) (y := y_Layout_stackOf) (cc := b_Layout_stackOf) (maxL := 2) (ret := (some .int)) (rm := { frames := 2, cells := 0, slots := 0, locals := 44 }) (mc := 0) (ms := 0) (av := [.ref h0, .int k]) (ws := [(h0, .inr (3, [.ref (w 0), .ref (w 2), .ref (w 7), .ref (w 8), .ref (w 9), .ref (w 10), .ref (w 11), .ref (w 12), .ref (w 13), .int v.nu, .int v.th, .int v.it, .int (nI v.fi), .int (nI v.me), .int v.mp])), ((w 0), .inr (2, [.ref (w 1), .int (nI v.n)])), ((w 1), aB g 600 v.b), ((w 2), .inr (1, [.ref (w 3), .ref (w 4), .ref (w 5), .ref (w 6), .int (nI v.lo)])), ((w 3), aJ g 4800 v.rw), ((w 4), aB g 600 v.bg), ((w 5), aB g 600 v.wt), ((w 6), aB g 600 v.dp), ((w 7), aI g 200 v.tg), ((w 8), aI g 200 v.ca), ((w 9), aI g 200 v.fs), ((w 10), aI g 200 v.sc), ((w 11), aI g 75 v.fa), ((w 12), aI g 75 v.ma), ((w 13), aI g 75 v.co)]) (sz := sz) (Qc := fun _ => (vp_Si (fun r => ∃ j, j < 65536 ∧ r = nI j))) (free := fun _ _ => False) (by decide) (Nat.le_of_ble_eq_true rfl) ?_
  intro p e s m below meth c ls A E hB hK hZ hP hD hS hA hl
  obtain ⟨hx, hb, hml, hr, hown, hts, hlocks, hin⟩ := id E
  have hl : lv_has ls 2 [(0, .ref h0), (1, .int k)] := hl
  refine lv_aload_n hx hb d_Layout_stackOf_0 rfl (lv_at hl 0 rfl) ?_
  refine va_get (D := g.1) (ci := 3) (v := .ref (w 0)) (C := R_Layout) (T := F_Layout) (N := 15) hx hb hts in_Layout hown hK hP 0 rfl rfl 0 (by decide) (hts _ wd_241) (fun _ h9 => h9) rfl d_Layout_stackOf_1 ?_
  refine lv_aload_n hx hb d_Layout_stackOf_4 rfl (lv_at hl 0 rfl) ?_
  refine lv_iload_n hx hb d_Layout_stackOf_5 rfl (lv_at hl 1 rfl) ?_
  refine tw_si (tw_runV (ws := [(h0, .inr (3, [.ref (w 0), .ref (w 2), .ref (w 7), .ref (w 8), .ref (w 9), .ref (w 10), .ref (w 11), .ref (w 12), .ref (w 13), .int v.nu, .int v.th, .int v.it, .int (nI v.fi), .int (nI v.me), .int v.mp])), ((w 0), .inr (2, [.ref (w 1), .int (nI v.n)])), ((w 1), aB g 600 v.b), ((w 2), .inr (1, [.ref (w 3), .ref (w 4), .ref (w 5), .ref (w 6), .int (nI v.lo)])), ((w 3), aJ g 4800 v.rw), ((w 4), aB g 600 v.bg), ((w 5), aB g 600 v.wt), ((w 6), aB g 600 v.dp), ((w 7), aI g 200 v.tg), ((w 8), aI g 200 v.ca), ((w 9), aI g 200 v.fs), ((w 10), aI g 200 v.sc), ((w 11), aI g 75 v.fa), ((w 12), aI g 75 v.ma), ((w 13), aI g 75 v.co)]) (wc := [(h0, .inr (3, [.ref (w 0), .ref (w 2), .ref (w 7), .ref (w 8), .ref (w 9), .ref (w 10), .ref (w 11), .ref (w 12), .ref (w 13), .int v.nu, .int v.th, .int v.it, .int (nI v.fi), .int (nI v.me), .int v.mp])), ((w 0), .inr (2, [.ref (w 1), .int (nI v.n)])), ((w 1), aB g 600 v.b), ((w 2), .inr (1, [.ref (w 3), .ref (w 4), .ref (w 5), .ref (w 6), .int (nI v.lo)])), ((w 3), aJ g 4800 v.rw), ((w 4), aB g 600 v.bg), ((w 5), aB g 600 v.wt), ((w 6), aB g 600 v.dp), ((w 7), aI g 200 v.tg), ((w 8), aI g 200 v.ca), ((w 9), aI g 200 v.fs), ((w 10), aI g 200 v.sc), ((w 11), aI g 75 v.fa), ((w 12), aI g 75 v.ma), ((w 13), aI g 75 v.co)]) (As := [.int k]) (rest := [.ref (w 0)]) E hB hK hZ (s_Layout_codeOf l g s.heap.size h0 w v k hI) mc_Layout_codeOf mi_Layout_codeOf me_Layout_codeOf wd_687 hP hD hS hA [0, 1, 2, 3, 4, 5, 6, 7, 8, 9, 10, 11, 12, 13, 14] rfl (by decide) 0 rfl rfl rfl rfl rfl (by decide) rfl hl.1 rfl (Nat.le_of_ble_eq_true rfl) (by decide) d_Layout_stackOf_6) (fun r1 hr1 => ?_)
  refine lv_bipush (v := 6) hx hb d_Layout_stackOf_9 (by decide) ?_
  refine lv_iadd hx hb d_Layout_stackOf_11 ?_
  obtain ⟨x2, ex2⟩ : ∃ z : Int32, r1 + 6 = z := ⟨_, rfl⟩
  refine tw_ri (e2 := x2) ex2 ?_
  refine tw_si (tw_runV (ws := [(h0, .inr (3, [.ref (w 0), .ref (w 2), .ref (w 7), .ref (w 8), .ref (w 9), .ref (w 10), .ref (w 11), .ref (w 12), .ref (w 13), .int v.nu, .int v.th, .int v.it, .int (nI v.fi), .int (nI v.me), .int v.mp])), ((w 0), .inr (2, [.ref (w 1), .int (nI v.n)])), ((w 1), aB g 600 v.b), ((w 2), .inr (1, [.ref (w 3), .ref (w 4), .ref (w 5), .ref (w 6), .int (nI v.lo)])), ((w 3), aJ g 4800 v.rw), ((w 4), aB g 600 v.bg), ((w 5), aB g 600 v.wt), ((w 6), aB g 600 v.dp), ((w 7), aI g 200 v.tg), ((w 8), aI g 200 v.ca), ((w 9), aI g 200 v.fs), ((w 10), aI g 200 v.sc), ((w 11), aI g 75 v.fa), ((w 12), aI g 75 v.ma), ((w 13), aI g 75 v.co)]) (wc := [((w 0), .inr (2, [.ref (w 1), .int (nI v.n)])), ((w 1), aB g 600 v.b)]) (As := [.int x2]) (rest := []) E hB hK hZ (s_Image_twoAt l g s.heap.size (w 0) (w 1) v.n v.b x2 hI.n) mc_Image_twoAt mi_Image_twoAt me_Image_twoAt wd_425 hP hD hS hA [1, 2] rfl (by decide) 0 rfl rfl rfl rfl rfl (by decide) rfl hl.1 rfl (Nat.le_of_ble_eq_true rfl) (by decide) d_Layout_stackOf_12) (fun r3 hr3 => ?_)
  exact tw_isret E hr3 d_Layout_stackOf_15
set_option maxHeartbeats 4000000 in
set_option maxRecDepth 100000 in
theorem s_Layout_localsOf (l : Launch) (g : tw_G) (sz : Nat) (h0 : Nat) (w : Nat → Nat) (v : LY) (k : Int32) (hI : LI v) : Met l y_Layout_localsOf [.code y_Layout_localsOf b_Layout_localsOf 2 (some .int)] ({ frames := 2, cells := 0, slots := 0, locals := 44 }) (tw_P g [.ref h0, .int k] [(h0, .inr (3, [.ref (w 0), .ref (w 2), .ref (w 7), .ref (w 8), .ref (w 9), .ref (w 10), .ref (w 11), .ref (w 12), .ref (w 13), .int v.nu, .int v.th, .int v.it, .int (nI v.fi), .int (nI v.me), .int v.mp])), ((w 0), .inr (2, [.ref (w 1), .int (nI v.n)])), ((w 1), aB g 600 v.b), ((w 2), .inr (1, [.ref (w 3), .ref (w 4), .ref (w 5), .ref (w 6), .int (nI v.lo)])), ((w 3), aJ g 4800 v.rw), ((w 4), aB g 600 v.bg), ((w 5), aB g 600 v.wt), ((w 6), aB g 600 v.dp), ((w 7), aI g 200 v.tg), ((w 8), aI g 200 v.ca), ((w 9), aI g 200 v.fs), ((w 10), aI g 200 v.sc), ((w 11), aI g 75 v.fa), ((w 12), aI g 75 v.ma), ((w 13), aI g 75 v.co)] sz) (vp_Si (fun r => ∃ j, j < 65536 ∧ r = nI j)) 0 0 (fun _ => False) := by
  refine tw_met (l := l) (g := g) (y := y_Layout_localsOf) (cc := b_Layout_localsOf) (maxL := 2) (ret := (some .int)) (rm := { frames := 2, cells := 0, slots := 0, locals := 44 }) (mc := 0) (ms := 0) (av := [.ref h0, .int k]) (ws := [(h0, .inr (3, [.ref (w 0), .ref (w 2), .ref (w 7), .ref (w 8), .ref (w 9), .ref (w 10), .ref (w 11), .ref (w 12), .ref (w 13), .int v.nu, .int v.th, .int v.it, .int (nI v.fi), .int (nI v.me), .int v.mp])), ((w 0), .inr (2, [.ref (w 1), .int (nI v.n)])), ((w 1), aB g 600 v.b), ((w 2), .inr (1, [.ref (w 3), .ref (w 4), .ref (w 5), .ref (w 6), .int (nI v.lo)])), ((w 3), aJ g 4800 v.rw), ((w 4), aB g 600 v.bg), ((w 5), aB g 600 v.wt), ((w 6), aB g 600 v.dp), ((w 7), aI g 200 v.tg), ((w 8), aI g 200 v.ca), ((w 9), aI g 200 v.fs), ((w 10), aI g 200 v.sc), ((w 11), aI g 75 v.fa), ((w 12), aI g 75 v.ma), ((w 13), aI g 75 v.co)]) (sz := sz) (Qc := fun _ => (vp_Si (fun r => ∃ j, j < 65536 ∧ r = nI j))) (free := fun _ _ => False) (by decide) (Nat.le_of_ble_eq_true rfl) ?_
  intro p e s m below meth c ls A E hB hK hZ hP hD hS hA hl
  obtain ⟨hx, hb, hml, hr, hown, hts, hlocks, hin⟩ := id E
  have hl : lv_has ls 2 [(0, .ref h0), (1, .int k)] := hl
  refine lv_aload_n hx hb d_Layout_localsOf_0 rfl (lv_at hl 0 rfl) ?_
  refine va_get (D := g.1) (ci := 3) (v := .ref (w 0)) (C := R_Layout) (T := F_Layout) (N := 15) hx hb hts in_Layout hown hK hP 0 rfl rfl 0 (by decide) (hts _ wd_241) (fun _ h9 => h9) rfl d_Layout_localsOf_1 ?_
  refine lv_aload_n hx hb d_Layout_localsOf_4 rfl (lv_at hl 0 rfl) ?_
  refine lv_iload_n hx hb d_Layout_localsOf_5 rfl (lv_at hl 1 rfl) ?_
  refine tw_si (tw_runV (ws := [(h0, .inr (3, [.ref (w 0), .ref (w 2), .ref (w 7), .ref (w 8), .ref (w 9), .ref (w 10), .ref (w 11), .ref (w 12), .ref (w 13), .int v.nu, .int v.th, .int v.it, .int (nI v.fi), .int (nI v.me), .int v.mp])), ((w 0), .inr (2, [.ref (w 1), .int (nI v.n)])), ((w 1), aB g 600 v.b), ((w 2), .inr (1, [.ref (w 3), .ref (w 4), .ref (w 5), .ref (w 6), .int (nI v.lo)])), ((w 3), aJ g 4800 v.rw), ((w 4), aB g 600 v.bg), ((w 5), aB g 600 v.wt), ((w 6), aB g 600 v.dp), ((w 7), aI g 200 v.tg), ((w 8), aI g 200 v.ca), ((w 9), aI g 200 v.fs), ((w 10), aI g 200 v.sc), ((w 11), aI g 75 v.fa), ((w 12), aI g 75 v.ma), ((w 13), aI g 75 v.co)]) (wc := [(h0, .inr (3, [.ref (w 0), .ref (w 2), .ref (w 7), .ref (w 8), .ref (w 9), .ref (w 10), .ref (w 11), .ref (w 12), .ref (w 13), .int v.nu, .int v.th, .int v.it, .int (nI v.fi), .int (nI v.me), .int v.mp])), ((w 0), .inr (2, [.ref (w 1), .int (nI v.n)])), ((w 1), aB g 600 v.b), ((w 2), .inr (1, [.ref (w 3), .ref (w 4), .ref (w 5), .ref (w 6), .int (nI v.lo)])), ((w 3), aJ g 4800 v.rw), ((w 4), aB g 600 v.bg), ((w 5), aB g 600 v.wt), ((w 6), aB g 600 v.dp), ((w 7), aI g 200 v.tg), ((w 8), aI g 200 v.ca), ((w 9), aI g 200 v.fs), ((w 10), aI g 200 v.sc), ((w 11), aI g 75 v.fa), ((w 12), aI g 75 v.ma), ((w 13), aI g 75 v.co)]) (As := [.int k]) (rest := [.ref (w 0)]) E hB hK hZ (s_Layout_codeOf l g s.heap.size h0 w v k hI) mc_Layout_codeOf mi_Layout_codeOf me_Layout_codeOf wd_687 hP hD hS hA [0, 1, 2, 3, 4, 5, 6, 7, 8, 9, 10, 11, 12, 13, 14] rfl (by decide) 0 rfl rfl rfl rfl rfl (by decide) rfl hl.1 rfl (Nat.le_of_ble_eq_true rfl) (by decide) d_Layout_localsOf_6) (fun r1 hr1 => ?_)
  refine lv_bipush (v := 8) hx hb d_Layout_localsOf_9 (by decide) ?_
  refine lv_iadd hx hb d_Layout_localsOf_11 ?_
  obtain ⟨x2, ex2⟩ : ∃ z : Int32, r1 + 8 = z := ⟨_, rfl⟩
  refine tw_ri (e2 := x2) ex2 ?_
  refine tw_si (tw_runV (ws := [(h0, .inr (3, [.ref (w 0), .ref (w 2), .ref (w 7), .ref (w 8), .ref (w 9), .ref (w 10), .ref (w 11), .ref (w 12), .ref (w 13), .int v.nu, .int v.th, .int v.it, .int (nI v.fi), .int (nI v.me), .int v.mp])), ((w 0), .inr (2, [.ref (w 1), .int (nI v.n)])), ((w 1), aB g 600 v.b), ((w 2), .inr (1, [.ref (w 3), .ref (w 4), .ref (w 5), .ref (w 6), .int (nI v.lo)])), ((w 3), aJ g 4800 v.rw), ((w 4), aB g 600 v.bg), ((w 5), aB g 600 v.wt), ((w 6), aB g 600 v.dp), ((w 7), aI g 200 v.tg), ((w 8), aI g 200 v.ca), ((w 9), aI g 200 v.fs), ((w 10), aI g 200 v.sc), ((w 11), aI g 75 v.fa), ((w 12), aI g 75 v.ma), ((w 13), aI g 75 v.co)]) (wc := [((w 0), .inr (2, [.ref (w 1), .int (nI v.n)])), ((w 1), aB g 600 v.b)]) (As := [.int x2]) (rest := []) E hB hK hZ (s_Image_twoAt l g s.heap.size (w 0) (w 1) v.n v.b x2 hI.n) mc_Image_twoAt mi_Image_twoAt me_Image_twoAt wd_425 hP hD hS hA [1, 2] rfl (by decide) 0 rfl rfl rfl rfl rfl (by decide) rfl hl.1 rfl (Nat.le_of_ble_eq_true rfl) (by decide) d_Layout_localsOf_12) (fun r3 hr3 => ?_)
  exact tw_isret E hr3 d_Layout_localsOf_15
set_option maxHeartbeats 4000000 in
set_option maxRecDepth 100000 in
theorem s_Layout_instructionsAt (l : Launch) (g : tw_G) (sz : Nat) (h0 : Nat) (w : Nat → Nat) (v : LY) (k : Int32) (hI : LI v) : Met l y_Layout_instructionsAt [.code y_Layout_instructionsAt b_Layout_instructionsAt 2 (some .int)] ({ frames := 1, cells := 0, slots := 0, locals := 21 }) (tw_P g [.ref h0, .int k] [(h0, .inr (3, [.ref (w 0), .ref (w 2), .ref (w 7), .ref (w 8), .ref (w 9), .ref (w 10), .ref (w 11), .ref (w 12), .ref (w 13), .int v.nu, .int v.th, .int v.it, .int (nI v.fi), .int (nI v.me), .int v.mp])), ((w 0), .inr (2, [.ref (w 1), .int (nI v.n)])), ((w 1), aB g 600 v.b), ((w 2), .inr (1, [.ref (w 3), .ref (w 4), .ref (w 5), .ref (w 6), .int (nI v.lo)])), ((w 3), aJ g 4800 v.rw), ((w 4), aB g 600 v.bg), ((w 5), aB g 600 v.wt), ((w 6), aB g 600 v.dp), ((w 7), aI g 200 v.tg), ((w 8), aI g 200 v.ca), ((w 9), aI g 200 v.fs), ((w 10), aI g 200 v.sc), ((w 11), aI g 75 v.fa), ((w 12), aI g 75 v.ma), ((w 13), aI g 75 v.co)] sz) (vp_Si (fun _ => True)) 0 0 (fun _ => False) := by
  refine tw_met (l := l) (g := g) (y := y_Layout_instructionsAt) (cc := b_Layout_instructionsAt) (maxL := 2) (ret := (some .int)) (rm := { frames := 1, cells := 0, slots := 0, locals := 21 }) (mc := 0) (ms := 0) (av := [.ref h0, .int k]) (ws := [(h0, .inr (3, [.ref (w 0), .ref (w 2), .ref (w 7), .ref (w 8), .ref (w 9), .ref (w 10), .ref (w 11), .ref (w 12), .ref (w 13), .int v.nu, .int v.th, .int v.it, .int (nI v.fi), .int (nI v.me), .int v.mp])), ((w 0), .inr (2, [.ref (w 1), .int (nI v.n)])), ((w 1), aB g 600 v.b), ((w 2), .inr (1, [.ref (w 3), .ref (w 4), .ref (w 5), .ref (w 6), .int (nI v.lo)])), ((w 3), aJ g 4800 v.rw), ((w 4), aB g 600 v.bg), ((w 5), aB g 600 v.wt), ((w 6), aB g 600 v.dp), ((w 7), aI g 200 v.tg), ((w 8), aI g 200 v.ca), ((w 9), aI g 200 v.fs), ((w 10), aI g 200 v.sc), ((w 11), aI g 75 v.fa), ((w 12), aI g 75 v.ma), ((w 13), aI g 75 v.co)]) (sz := sz) (Qc := fun _ => (vp_Si (fun _ => True))) (free := fun _ _ => False) (by decide) (Nat.le_of_ble_eq_true rfl) ?_
  intro p e s m below meth c ls A E hB hK hZ hP hD hS hA hl
  obtain ⟨hx, hb, hml, hr, hown, hts, hlocks, hin⟩ := id E
  have hl : lv_has ls 2 [(0, .ref h0), (1, .int k)] := hl
  refine lv_aload_n hx hb d_Layout_instructionsAt_0 rfl (lv_at hl 0 rfl) ?_
  refine lv_iload_n hx hb d_Layout_instructionsAt_1 rfl (lv_at hl 1 rfl) ?_
  refine tw_si (tw_runV (ws := [(h0, .inr (3, [.ref (w 0), .ref (w 2), .ref (w 7), .ref (w 8), .ref (w 9), .ref (w 10), .ref (w 11), .ref (w 12), .ref (w 13), .int v.nu, .int v.th, .int v.it, .int (nI v.fi), .int (nI v.me), .int v.mp])), ((w 0), .inr (2, [.ref (w 1), .int (nI v.n)])), ((w 1), aB g 600 v.b), ((w 2), .inr (1, [.ref (w 3), .ref (w 4), .ref (w 5), .ref (w 6), .int (nI v.lo)])), ((w 3), aJ g 4800 v.rw), ((w 4), aB g 600 v.bg), ((w 5), aB g 600 v.wt), ((w 6), aB g 600 v.dp), ((w 7), aI g 200 v.tg), ((w 8), aI g 200 v.ca), ((w 9), aI g 200 v.fs), ((w 10), aI g 200 v.sc), ((w 11), aI g 75 v.fa), ((w 12), aI g 75 v.ma), ((w 13), aI g 75 v.co)]) (wc := [(h0, .inr (3, [.ref (w 0), .ref (w 2), .ref (w 7), .ref (w 8), .ref (w 9), .ref (w 10), .ref (w 11), .ref (w 12), .ref (w 13), .int v.nu, .int v.th, .int v.it, .int (nI v.fi), .int (nI v.me), .int v.mp])), ((w 0), .inr (2, [.ref (w 1), .int (nI v.n)])), ((w 1), aB g 600 v.b), ((w 2), .inr (1, [.ref (w 3), .ref (w 4), .ref (w 5), .ref (w 6), .int (nI v.lo)])), ((w 3), aJ g 4800 v.rw), ((w 4), aB g 600 v.bg), ((w 5), aB g 600 v.wt), ((w 6), aB g 600 v.dp), ((w 7), aI g 200 v.tg), ((w 8), aI g 200 v.ca), ((w 9), aI g 200 v.fs), ((w 10), aI g 200 v.sc), ((w 11), aI g 75 v.fa), ((w 12), aI g 75 v.ma), ((w 13), aI g 75 v.co)]) (As := [.int k]) (rest := []) E hB hK hZ (s_Layout_codeOf l g s.heap.size h0 w v k hI) mc_Layout_codeOf mi_Layout_codeOf me_Layout_codeOf wd_687 hP hD hS hA [0, 1, 2, 3, 4, 5, 6, 7, 8, 9, 10, 11, 12, 13, 14] rfl (by decide) 0 rfl rfl rfl rfl rfl (by decide) rfl hl.1 rfl (Nat.le_of_ble_eq_true rfl) (by decide) d_Layout_instructionsAt_2) (fun r1 hr1 => ?_)
  refine lv_bipush (v := 14) hx hb d_Layout_instructionsAt_5 (by decide) ?_
  refine lv_iadd hx hb d_Layout_instructionsAt_7 ?_
  obtain ⟨x2, ex2⟩ : ∃ z : Int32, r1 + 14 = z := ⟨_, rfl⟩
  refine tw_ri (e2 := x2) ex2 ?_
  exact tw_isret E trivial d_Layout_instructionsAt_8
set_option maxHeartbeats 4000000 in
set_option maxRecDepth 100000 in
theorem s_Layout_lengthOf (l : Launch) (g : tw_G) (sz : Nat) (h0 : Nat) (w : Nat → Nat) (v : LY) (k : Int32) (hI : LI v) : Met l y_Layout_lengthOf [.code y_Layout_lengthOf b_Layout_lengthOf 2 (some .int)] ({ frames := 2, cells := 0, slots := 0, locals := 46 }) (tw_P g [.ref h0, .int k] [(h0, .inr (3, [.ref (w 0), .ref (w 2), .ref (w 7), .ref (w 8), .ref (w 9), .ref (w 10), .ref (w 11), .ref (w 12), .ref (w 13), .int v.nu, .int v.th, .int v.it, .int (nI v.fi), .int (nI v.me), .int v.mp])), ((w 0), .inr (2, [.ref (w 1), .int (nI v.n)])), ((w 1), aB g 600 v.b), ((w 2), .inr (1, [.ref (w 3), .ref (w 4), .ref (w 5), .ref (w 6), .int (nI v.lo)])), ((w 3), aJ g 4800 v.rw), ((w 4), aB g 600 v.bg), ((w 5), aB g 600 v.wt), ((w 6), aB g 600 v.dp), ((w 7), aI g 200 v.tg), ((w 8), aI g 200 v.ca), ((w 9), aI g 200 v.fs), ((w 10), aI g 200 v.sc), ((w 11), aI g 75 v.fa), ((w 12), aI g 75 v.ma), ((w 13), aI g 75 v.co)] sz) (vp_Si (fun _ => True)) 0 0 (fun _ => False) := by
  refine tw_met (l := l) (g := g) (y := y_Layout_lengthOf) (cc := b_Layout_lengthOf) (maxL := 2) (ret := (some .int)) (rm := { frames := 2, cells := 0, slots := 0, locals := 46 }) (mc := 0) (ms := 0) (av := [.ref h0, .int k]) (ws := [(h0, .inr (3, [.ref (w 0), .ref (w 2), .ref (w 7), .ref (w 8), .ref (w 9), .ref (w 10), .ref (w 11), .ref (w 12), .ref (w 13), .int v.nu, .int v.th, .int v.it, .int (nI v.fi), .int (nI v.me), .int v.mp])), ((w 0), .inr (2, [.ref (w 1), .int (nI v.n)])), ((w 1), aB g 600 v.b), ((w 2), .inr (1, [.ref (w 3), .ref (w 4), .ref (w 5), .ref (w 6), .int (nI v.lo)])), ((w 3), aJ g 4800 v.rw), ((w 4), aB g 600 v.bg), ((w 5), aB g 600 v.wt), ((w 6), aB g 600 v.dp), ((w 7), aI g 200 v.tg), ((w 8), aI g 200 v.ca), ((w 9), aI g 200 v.fs), ((w 10), aI g 200 v.sc), ((w 11), aI g 75 v.fa), ((w 12), aI g 75 v.ma), ((w 13), aI g 75 v.co)]) (sz := sz) (Qc := fun _ => (vp_Si (fun _ => True))) (free := fun _ _ => False) (by decide) (Nat.le_of_ble_eq_true rfl) ?_
  intro p e s m below meth c ls A E hB hK hZ hP hD hS hA hl
  obtain ⟨hx, hb, hml, hr, hown, hts, hlocks, hin⟩ := id E
  have hl : lv_has ls 2 [(0, .ref h0), (1, .int k)] := hl
  refine lv_aload_n hx hb d_Layout_lengthOf_0 rfl (lv_at hl 0 rfl) ?_
  refine lv_iload_n hx hb d_Layout_lengthOf_1 rfl (lv_at hl 1 rfl) ?_
  refine tw_si (tw_runV (ws := [(h0, .inr (3, [.ref (w 0), .ref (w 2), .ref (w 7), .ref (w 8), .ref (w 9), .ref (w 10), .ref (w 11), .ref (w 12), .ref (w 13), .int v.nu, .int v.th, .int v.it, .int (nI v.fi), .int (nI v.me), .int v.mp])), ((w 0), .inr (2, [.ref (w 1), .int (nI v.n)])), ((w 1), aB g 600 v.b), ((w 2), .inr (1, [.ref (w 3), .ref (w 4), .ref (w 5), .ref (w 6), .int (nI v.lo)])), ((w 3), aJ g 4800 v.rw), ((w 4), aB g 600 v.bg), ((w 5), aB g 600 v.wt), ((w 6), aB g 600 v.dp), ((w 7), aI g 200 v.tg), ((w 8), aI g 200 v.ca), ((w 9), aI g 200 v.fs), ((w 10), aI g 200 v.sc), ((w 11), aI g 75 v.fa), ((w 12), aI g 75 v.ma), ((w 13), aI g 75 v.co)]) (wc := [(h0, .inr (3, [.ref (w 0), .ref (w 2), .ref (w 7), .ref (w 8), .ref (w 9), .ref (w 10), .ref (w 11), .ref (w 12), .ref (w 13), .int v.nu, .int v.th, .int v.it, .int (nI v.fi), .int (nI v.me), .int v.mp])), ((w 0), .inr (2, [.ref (w 1), .int (nI v.n)])), ((w 1), aB g 600 v.b), ((w 2), .inr (1, [.ref (w 3), .ref (w 4), .ref (w 5), .ref (w 6), .int (nI v.lo)])), ((w 3), aJ g 4800 v.rw), ((w 4), aB g 600 v.bg), ((w 5), aB g 600 v.wt), ((w 6), aB g 600 v.dp), ((w 7), aI g 200 v.tg), ((w 8), aI g 200 v.ca), ((w 9), aI g 200 v.fs), ((w 10), aI g 200 v.sc), ((w 11), aI g 75 v.fa), ((w 12), aI g 75 v.ma), ((w 13), aI g 75 v.co)]) (As := [.int k]) (rest := []) E hB hK hZ (s_Layout_codeOf l g s.heap.size h0 w v k hI) mc_Layout_codeOf mi_Layout_codeOf me_Layout_codeOf wd_687 hP hD hS hA [0, 1, 2, 3, 4, 5, 6, 7, 8, 9, 10, 11, 12, 13, 14] rfl (by decide) 0 rfl rfl rfl rfl rfl (by decide) rfl hl.1 rfl (Nat.le_of_ble_eq_true rfl) (by decide) d_Layout_lengthOf_2) (fun r1 hr1 => ?_)
  refine lv_if_ne (tgt := 12) hx hb d_Layout_lengthOf_5 (by decide) (fun h5 => ?_) (fun h5 => ?_)
  · refine lv_aload_n hx hb d_Layout_lengthOf_12 rfl (lv_at hl 0 rfl) ?_
    refine va_get (D := g.1) (ci := 3) (v := .ref (w 0)) (C := R_Layout) (T := F_Layout) (N := 15) hx hb hts in_Layout hown hK hP 0 rfl rfl 0 (by decide) (hts _ wd_241) (fun _ h9 => h9) rfl d_Layout_lengthOf_13 ?_
    refine lv_aload_n hx hb d_Layout_lengthOf_16 rfl (lv_at hl 0 rfl) ?_
    refine lv_iload_n hx hb d_Layout_lengthOf_17 rfl (lv_at hl 1 rfl) ?_
    refine tw_si (tw_runV (ws := [(h0, .inr (3, [.ref (w 0), .ref (w 2), .ref (w 7), .ref (w 8), .ref (w 9), .ref (w 10), .ref (w 11), .ref (w 12), .ref (w 13), .int v.nu, .int v.th, .int v.it, .int (nI v.fi), .int (nI v.me), .int v.mp])), ((w 0), .inr (2, [.ref (w 1), .int (nI v.n)])), ((w 1), aB g 600 v.b), ((w 2), .inr (1, [.ref (w 3), .ref (w 4), .ref (w 5), .ref (w 6), .int (nI v.lo)])), ((w 3), aJ g 4800 v.rw), ((w 4), aB g 600 v.bg), ((w 5), aB g 600 v.wt), ((w 6), aB g 600 v.dp), ((w 7), aI g 200 v.tg), ((w 8), aI g 200 v.ca), ((w 9), aI g 200 v.fs), ((w 10), aI g 200 v.sc), ((w 11), aI g 75 v.fa), ((w 12), aI g 75 v.ma), ((w 13), aI g 75 v.co)]) (wc := [(h0, .inr (3, [.ref (w 0), .ref (w 2), .ref (w 7), .ref (w 8), .ref (w 9), .ref (w 10), .ref (w 11), .ref (w 12), .ref (w 13), .int v.nu, .int v.th, .int v.it, .int (nI v.fi), .int (nI v.me), .int v.mp])), ((w 0), .inr (2, [.ref (w 1), .int (nI v.n)])), ((w 1), aB g 600 v.b), ((w 2), .inr (1, [.ref (w 3), .ref (w 4), .ref (w 5), .ref (w 6), .int (nI v.lo)])), ((w 3), aJ g 4800 v.rw), ((w 4), aB g 600 v.bg), ((w 5), aB g 600 v.wt), ((w 6), aB g 600 v.dp), ((w 7), aI g 200 v.tg), ((w 8), aI g 200 v.ca), ((w 9), aI g 200 v.fs), ((w 10), aI g 200 v.sc), ((w 11), aI g 75 v.fa), ((w 12), aI g 75 v.ma), ((w 13), aI g 75 v.co)]) (As := [.int k]) (rest := [.ref (w 0)]) E hB hK hZ (s_Layout_codeOf l g s.heap.size h0 w v k hI) mc_Layout_codeOf mi_Layout_codeOf me_Layout_codeOf wd_687 hP hD hS hA [0, 1, 2, 3, 4, 5, 6, 7, 8, 9, 10, 11, 12, 13, 14] rfl (by decide) 0 rfl rfl rfl rfl rfl (by decide) rfl hl.1 rfl (Nat.le_of_ble_eq_true rfl) (by decide) d_Layout_lengthOf_18) (fun r2 hr2 => ?_)
    refine lv_bipush (v := 10) hx hb d_Layout_lengthOf_21 (by decide) ?_
    refine lv_iadd hx hb d_Layout_lengthOf_23 ?_
    obtain ⟨x3, ex3⟩ : ∃ z : Int32, r2 + 10 = z := ⟨_, rfl⟩
    refine tw_ri (e2 := x3) ex3 ?_
    refine tw_sl (tw_runV (ws := [(h0, .inr (3, [.ref (w 0), .ref (w 2), .ref (w 7), .ref (w 8), .ref (w 9), .ref (w 10), .ref (w 11), .ref (w 12), .ref (w 13), .int v.nu, .int v.th, .int v.it, .int (nI v.fi), .int (nI v.me), .int v.mp])), ((w 0), .inr (2, [.ref (w 1), .int (nI v.n)])), ((w 1), aB g 600 v.b), ((w 2), .inr (1, [.ref (w 3), .ref (w 4), .ref (w 5), .ref (w 6), .int (nI v.lo)])), ((w 3), aJ g 4800 v.rw), ((w 4), aB g 600 v.bg), ((w 5), aB g 600 v.wt), ((w 6), aB g 600 v.dp), ((w 7), aI g 200 v.tg), ((w 8), aI g 200 v.ca), ((w 9), aI g 200 v.fs), ((w 10), aI g 200 v.sc), ((w 11), aI g 75 v.fa), ((w 12), aI g 75 v.ma), ((w 13), aI g 75 v.co)]) (wc := [((w 0), .inr (2, [.ref (w 1), .int (nI v.n)])), ((w 1), aB g 600 v.b)]) (As := [.int x3]) (rest := []) E hB hK hZ (s_Image_fourAt l g s.heap.size (w 0) (w 1) v.n v.b x3 hI.n) mc_Image_fourAt mi_Image_fourAt me_Image_fourAt wd_688 hP hD hS hA [1, 2] rfl (by decide) 0 rfl rfl rfl rfl rfl (by decide) rfl hl.1 rfl (Nat.le_of_ble_eq_true rfl) (by decide) d_Layout_lengthOf_24) (fun r4 hr4 => ?_)
    refine lv_l2i (v := r4.toInt32) hx hb d_Layout_lengthOf_27 rfl ?_
    exact tw_isret E trivial d_Layout_lengthOf_28
  · refine lv_iconst (v := 0) hx hb d_Layout_lengthOf_8 (by decide) ?_
    refine lv_goto (tgt := 28) hx hb d_Layout_lengthOf_9 (by decide) ?_
    exact tw_isret E trivial d_Layout_lengthOf_28
set_option maxHeartbeats 4000000 in
set_option maxRecDepth 100000 in
theorem s_Layout_instructionAt (l : Launch) (g : tw_G) (sz : Nat) (h0 : Nat) (w : Nat → Nat) (v : LY) (k : Int32) (a : Int32) (hI : LI v) : Met l y_Layout_instructionAt [.code y_Layout_instructionAt b_Layout_instructionAt 3 (some .int)] ({ frames := 3, cells := 0, slots := 0, locals := 67 }) (tw_P g [.ref h0, .int k, .int a] [(h0, .inr (3, [.ref (w 0), .ref (w 2), .ref (w 7), .ref (w 8), .ref (w 9), .ref (w 10), .ref (w 11), .ref (w 12), .ref (w 13), .int v.nu, .int v.th, .int v.it, .int (nI v.fi), .int (nI v.me), .int v.mp])), ((w 0), .inr (2, [.ref (w 1), .int (nI v.n)])), ((w 1), aB g 600 v.b), ((w 2), .inr (1, [.ref (w 3), .ref (w 4), .ref (w 5), .ref (w 6), .int (nI v.lo)])), ((w 3), aJ g 4800 v.rw), ((w 4), aB g 600 v.bg), ((w 5), aB g 600 v.wt), ((w 6), aB g 600 v.dp), ((w 7), aI g 200 v.tg), ((w 8), aI g 200 v.ca), ((w 9), aI g 200 v.fs), ((w 10), aI g 200 v.sc), ((w 11), aI g 75 v.fa), ((w 12), aI g 75 v.ma), ((w 13), aI g 75 v.co)] sz) (vp_Si (fun _ => True)) 0 0 (fun _ => False) := by
  refine tw_met (l := l) (g := g) (y := y_Layout_instructionAt) (cc := b_Layout_instructionAt) (maxL := 3) (ret := (some .int)) (rm := { frames := 3, cells := 0, slots := 0, locals := 67 }) (mc := 0) (ms := 0) (av := [.ref h0, .int k, .int a]) (ws := [(h0, .inr (3, [.ref (w 0), .ref (w 2), .ref (w 7), .ref (w 8), .ref (w 9), .ref (w 10), .ref (w 11), .ref (w 12), .ref (w 13), .int v.nu, .int v.th, .int v.it, .int (nI v.fi), .int (nI v.me), .int v.mp])), ((w 0), .inr (2, [.ref (w 1), .int (nI v.n)])), ((w 1), aB g 600 v.b), ((w 2), .inr (1, [.ref (w 3), .ref (w 4), .ref (w 5), .ref (w 6), .int (nI v.lo)])), ((w 3), aJ g 4800 v.rw), ((w 4), aB g 600 v.bg), ((w 5), aB g 600 v.wt), ((w 6), aB g 600 v.dp), ((w 7), aI g 200 v.tg), ((w 8), aI g 200 v.ca), ((w 9), aI g 200 v.fs), ((w 10), aI g 200 v.sc), ((w 11), aI g 75 v.fa), ((w 12), aI g 75 v.ma), ((w 13), aI g 75 v.co)]) (sz := sz) (Qc := fun _ => (vp_Si (fun _ => True))) (free := fun _ _ => False) (by decide) (Nat.le_of_ble_eq_true rfl) ?_
  intro p e s m below meth c ls A E hB hK hZ hP hD hS hA hl
  obtain ⟨hx, hb, hml, hr, hown, hts, hlocks, hin⟩ := id E
  have hl : lv_has ls 3 [(0, .ref h0), (1, .int k), (2, .int a)] := hl
  refine lv_iload_n hx hb d_Layout_instructionAt_0 rfl (lv_at hl 2 rfl) ?_
  refine lv_if_lt (tgt := 23) hx hb d_Layout_instructionAt_1 (by decide) (fun h1 => ?_) (fun h1 => ?_)
  · refine lv_iconst (v := (-1)) hx hb d_Layout_instructionAt_23 (by decide) ?_
    exact tw_isret E trivial d_Layout_instructionAt_24
  · refine lv_iload_n hx hb d_Layout_instructionAt_4 rfl (lv_at hl 2 rfl) ?_
    refine lv_aload_n hx hb d_Layout_instructionAt_5 rfl (lv_at hl 0 rfl) ?_
    refine lv_iload_n hx hb d_Layout_instructionAt_6 rfl (lv_at hl 1 rfl) ?_
    refine tw_si (tw_runV (ws := [(h0, .inr (3, [.ref (w 0), .ref (w 2), .ref (w 7), .ref (w 8), .ref (w 9), .ref (w 10), .ref (w 11), .ref (w 12), .ref (w 13), .int v.nu, .int v.th, .int v.it, .int (nI v.fi), .int (nI v.me), .int v.mp])), ((w 0), .inr (2, [.ref (w 1), .int (nI v.n)])), ((w 1), aB g 600 v.b), ((w 2), .inr (1, [.ref (w 3), .ref (w 4), .ref (w 5), .ref (w 6), .int (nI v.lo)])), ((w 3), aJ g 4800 v.rw), ((w 4), aB g 600 v.bg), ((w 5), aB g 600 v.wt), ((w 6), aB g 600 v.dp), ((w 7), aI g 200 v.tg), ((w 8), aI g 200 v.ca), ((w 9), aI g 200 v.fs), ((w 10), aI g 200 v.sc), ((w 11), aI g 75 v.fa), ((w 12), aI g 75 v.ma), ((w 13), aI g 75 v.co)]) (wc := [(h0, .inr (3, [.ref (w 0), .ref (w 2), .ref (w 7), .ref (w 8), .ref (w 9), .ref (w 10), .ref (w 11), .ref (w 12), .ref (w 13), .int v.nu, .int v.th, .int v.it, .int (nI v.fi), .int (nI v.me), .int v.mp])), ((w 0), .inr (2, [.ref (w 1), .int (nI v.n)])), ((w 1), aB g 600 v.b), ((w 2), .inr (1, [.ref (w 3), .ref (w 4), .ref (w 5), .ref (w 6), .int (nI v.lo)])), ((w 3), aJ g 4800 v.rw), ((w 4), aB g 600 v.bg), ((w 5), aB g 600 v.wt), ((w 6), aB g 600 v.dp), ((w 7), aI g 200 v.tg), ((w 8), aI g 200 v.ca), ((w 9), aI g 200 v.fs), ((w 10), aI g 200 v.sc), ((w 11), aI g 75 v.fa), ((w 12), aI g 75 v.ma), ((w 13), aI g 75 v.co)]) (As := [.int k]) (rest := [.int a]) E hB hK hZ (s_Layout_lengthOf l g s.heap.size h0 w v k hI) mc_Layout_lengthOf mi_Layout_lengthOf me_Layout_lengthOf wd_1185 hP hD hS hA [0, 1, 2, 3, 4, 5, 6, 7, 8, 9, 10, 11, 12, 13, 14] rfl (by decide) 0 rfl rfl rfl rfl rfl (by decide) rfl hl.1 rfl (Nat.le_of_ble_eq_true rfl) (by decide) d_Layout_instructionAt_7) (fun r1 hr1 => ?_)
    refine lv_icmp_ge (tgt := 23) hx hb d_Layout_instructionAt_10 (by decide) (fun h10 => ?_) (fun h10 => ?_)
    · refine lv_iconst (v := (-1)) hx hb d_Layout_instructionAt_23 (by decide) ?_
      exact tw_isret E trivial d_Layout_instructionAt_24
    · refine lv_aload_n hx hb d_Layout_instructionAt_13 rfl (lv_at hl 0 rfl) ?_
      refine lv_iload_n hx hb d_Layout_instructionAt_14 rfl (lv_at hl 1 rfl) ?_
      refine tw_si (tw_runV (ws := [(h0, .inr (3, [.ref (w 0), .ref (w 2), .ref (w 7), .ref (w 8), .ref (w 9), .ref (w 10), .ref (w 11), .ref (w 12), .ref (w 13), .int v.nu, .int v.th, .int v.it, .int (nI v.fi), .int (nI v.me), .int v.mp])), ((w 0), .inr (2, [.ref (w 1), .int (nI v.n)])), ((w 1), aB g 600 v.b), ((w 2), .inr (1, [.ref (w 3), .ref (w 4), .ref (w 5), .ref (w 6), .int (nI v.lo)])), ((w 3), aJ g 4800 v.rw), ((w 4), aB g 600 v.bg), ((w 5), aB g 600 v.wt), ((w 6), aB g 600 v.dp), ((w 7), aI g 200 v.tg), ((w 8), aI g 200 v.ca), ((w 9), aI g 200 v.fs), ((w 10), aI g 200 v.sc), ((w 11), aI g 75 v.fa), ((w 12), aI g 75 v.ma), ((w 13), aI g 75 v.co)]) (wc := [(h0, .inr (3, [.ref (w 0), .ref (w 2), .ref (w 7), .ref (w 8), .ref (w 9), .ref (w 10), .ref (w 11), .ref (w 12), .ref (w 13), .int v.nu, .int v.th, .int v.it, .int (nI v.fi), .int (nI v.me), .int v.mp])), ((w 0), .inr (2, [.ref (w 1), .int (nI v.n)])), ((w 1), aB g 600 v.b), ((w 2), .inr (1, [.ref (w 3), .ref (w 4), .ref (w 5), .ref (w 6), .int (nI v.lo)])), ((w 3), aJ g 4800 v.rw), ((w 4), aB g 600 v.bg), ((w 5), aB g 600 v.wt), ((w 6), aB g 600 v.dp), ((w 7), aI g 200 v.tg), ((w 8), aI g 200 v.ca), ((w 9), aI g 200 v.fs), ((w 10), aI g 200 v.sc), ((w 11), aI g 75 v.fa), ((w 12), aI g 75 v.ma), ((w 13), aI g 75 v.co)]) (As := [.int k]) (rest := []) E hB hK hZ (s_Layout_instructionsAt l g s.heap.size h0 w v k hI) mc_Layout_instructionsAt mi_Layout_instructionsAt me_Layout_instructionsAt wd_1226 hP hD hS hA [0, 1, 2, 3, 4, 5, 6, 7, 8, 9, 10, 11, 12, 13, 14] rfl (by decide) 0 rfl rfl rfl rfl rfl (by decide) rfl hl.1 rfl (Nat.le_of_ble_eq_true rfl) (by decide) d_Layout_instructionAt_15) (fun r2 hr2 => ?_)
      refine lv_iload_n hx hb d_Layout_instructionAt_18 rfl (lv_at hl 2 rfl) ?_
      refine lv_iadd hx hb d_Layout_instructionAt_19 ?_
      obtain ⟨x3, ex3⟩ : ∃ z : Int32, r2 + a = z := ⟨_, rfl⟩
      refine tw_ri (e2 := x3) ex3 ?_
      refine lv_goto (tgt := 24) hx hb d_Layout_instructionAt_20 (by decide) ?_
      exact tw_isret E trivial d_Layout_instructionAt_24
set_option maxHeartbeats 4000000 in
set_option maxRecDepth 100000 in
theorem s_Layout_instructionBytes (l : Launch) (g : tw_G) (sz : Nat) (h0 : Nat) (w : Nat → Nat) (v : LY) (hI : LI v) : Met l y_Layout_instructionBytes [.code y_Layout_instructionBytes b_Layout_instructionBytes 3 (some .int)] ({ frames := 3, cells := 0, slots := 0, locals := 67 }) (tw_P g [.ref h0] [(h0, .inr (3, [.ref (w 0), .ref (w 2), .ref (w 7), .ref (w 8), .ref (w 9), .ref (w 10), .ref (w 11), .ref (w 12), .ref (w 13), .int v.nu, .int v.th, .int v.it, .int (nI v.fi), .int (nI v.me), .int v.mp])), ((w 0), .inr (2, [.ref (w 1), .int (nI v.n)])), ((w 1), aB g 600 v.b), ((w 2), .inr (1, [.ref (w 3), .ref (w 4), .ref (w 5), .ref (w 6), .int (nI v.lo)])), ((w 3), aJ g 4800 v.rw), ((w 4), aB g 600 v.bg), ((w 5), aB g 600 v.wt), ((w 6), aB g 600 v.dp), ((w 7), aI g 200 v.tg), ((w 8), aI g 200 v.ca), ((w 9), aI g 200 v.fs), ((w 10), aI g 200 v.sc), ((w 11), aI g 75 v.fa), ((w 12), aI g 75 v.ma), ((w 13), aI g 75 v.co)] sz) (vp_Si (fun _ => True)) 0 0 (fun _ => False) := by
  refine tw_met (l := l) (g := g) (y := y_Layout_instructionBytes) (cc := b_Layout_instructionBytes) (maxL := 3) (ret := (some .int)) (rm := { frames := 3, cells := 0, slots := 0, locals := 67 }) (mc := 0) (ms := 0) (av := [.ref h0]) (ws := [(h0, .inr (3, [.ref (w 0), .ref (w 2), .ref (w 7), .ref (w 8), .ref (w 9), .ref (w 10), .ref (w 11), .ref (w 12), .ref (w 13), .int v.nu, .int v.th, .int v.it, .int (nI v.fi), .int (nI v.me), .int v.mp])), ((w 0), .inr (2, [.ref (w 1), .int (nI v.n)])), ((w 1), aB g 600 v.b), ((w 2), .inr (1, [.ref (w 3), .ref (w 4), .ref (w 5), .ref (w 6), .int (nI v.lo)])), ((w 3), aJ g 4800 v.rw), ((w 4), aB g 600 v.bg), ((w 5), aB g 600 v.wt), ((w 6), aB g 600 v.dp), ((w 7), aI g 200 v.tg), ((w 8), aI g 200 v.ca), ((w 9), aI g 200 v.fs), ((w 10), aI g 200 v.sc), ((w 11), aI g 75 v.fa), ((w 12), aI g 75 v.ma), ((w 13), aI g 75 v.co)]) (sz := sz) (Qc := fun _ => (vp_Si (fun _ => True))) (free := fun _ _ => False) (by decide) (Nat.le_of_ble_eq_true rfl) ?_
  intro p e s m below meth c ls A E hB hK hZ hP hD hS hA hl
  obtain ⟨hx, hb, hml, hr, hown, hts, hlocks, hin⟩ := id E
  have hl : lv_has ls 3 [(0, .ref h0)] := hl
  refine lv_iconst (v := 0) hx hb d_Layout_instructionBytes_0 (by decide) ?_
  refine lv_istore_n hx hb d_Layout_instructionBytes_1 rfl hl (by decide) rfl (fun ls hl => ?_)
  have hl : lv_has ls 3 [(1, .int 0), (0, .ref h0)] := hl
  refine lv_iconst (v := 0) hx hb d_Layout_instructionBytes_2 (by decide) ?_
  refine lv_istore_n hx hb d_Layout_instructionBytes_3 rfl hl (by decide) rfl (fun ls hl => ?_)
  have hl : lv_has ls 3 [(2, .int 0), (1, .int 0), (0, .ref h0)] := hl
  have loop4 : ∀ (kq : Nat) (al : Int32) (k : Int32) (ls : Array Slot) , ims k (nI v.me) = kq → lv_has ls 3 [(2, .int k), (1, .int al), (0, .ref h0)] → W p l e ({ frames := 3, cells := 0, slots := 0, locals := 67 }) s m [.ref h0].toArray below meth c s.heap [] 0 0 (MQ below (vp_Si (fun _ => True)) [.ref h0].toArray s 0 0 (fun _ => False)) (F0 m 4 ls []) := by
    intro kq
    induction kq using Nat.strongRecOn with
    | _ kq ih =>
      intro al k ls hk  hl 
      refine lv_iload_n hx hb d_Layout_instructionBytes_4 rfl (lv_at hl 0 rfl) ?_
      refine lv_aload_n hx hb d_Layout_instructionBytes_5 rfl (lv_at hl 2 rfl) ?_
      refine va_get (D := g.1) (ci := 3) (v := .int (nI v.me)) (C := R_Layout) (T := F_Layout) (N := 15) hx hb hts in_Layout hown hK hP 0 rfl rfl 13 (by decide) (hts _ wd_275) (fun _ h9 => h9) rfl d_Layout_instructionBytes_6 ?_
      refine lv_icmp_ge (tgt := 26) hx hb d_Layout_instructionBytes_9 (by decide) (fun h9 => ?_) (fun h9 => ?_)
      · refine lv_iload_n hx hb d_Layout_instructionBytes_26 rfl (lv_at hl 1 rfl) ?_
        exact tw_isret E trivial d_Layout_instructionBytes_27
      · refine lv_iload_n hx hb d_Layout_instructionBytes_12 rfl (lv_at hl 1 rfl) ?_
        refine lv_aload_n hx hb d_Layout_instructionBytes_13 rfl (lv_at hl 2 rfl) ?_
        refine lv_iload_n hx hb d_Layout_instructionBytes_14 rfl (lv_at hl 0 rfl) ?_
        refine tw_si (tw_runV (ws := [(h0, .inr (3, [.ref (w 0), .ref (w 2), .ref (w 7), .ref (w 8), .ref (w 9), .ref (w 10), .ref (w 11), .ref (w 12), .ref (w 13), .int v.nu, .int v.th, .int v.it, .int (nI v.fi), .int (nI v.me), .int v.mp])), ((w 0), .inr (2, [.ref (w 1), .int (nI v.n)])), ((w 1), aB g 600 v.b), ((w 2), .inr (1, [.ref (w 3), .ref (w 4), .ref (w 5), .ref (w 6), .int (nI v.lo)])), ((w 3), aJ g 4800 v.rw), ((w 4), aB g 600 v.bg), ((w 5), aB g 600 v.wt), ((w 6), aB g 600 v.dp), ((w 7), aI g 200 v.tg), ((w 8), aI g 200 v.ca), ((w 9), aI g 200 v.fs), ((w 10), aI g 200 v.sc), ((w 11), aI g 75 v.fa), ((w 12), aI g 75 v.ma), ((w 13), aI g 75 v.co)]) (wc := [(h0, .inr (3, [.ref (w 0), .ref (w 2), .ref (w 7), .ref (w 8), .ref (w 9), .ref (w 10), .ref (w 11), .ref (w 12), .ref (w 13), .int v.nu, .int v.th, .int v.it, .int (nI v.fi), .int (nI v.me), .int v.mp])), ((w 0), .inr (2, [.ref (w 1), .int (nI v.n)])), ((w 1), aB g 600 v.b), ((w 2), .inr (1, [.ref (w 3), .ref (w 4), .ref (w 5), .ref (w 6), .int (nI v.lo)])), ((w 3), aJ g 4800 v.rw), ((w 4), aB g 600 v.bg), ((w 5), aB g 600 v.wt), ((w 6), aB g 600 v.dp), ((w 7), aI g 200 v.tg), ((w 8), aI g 200 v.ca), ((w 9), aI g 200 v.fs), ((w 10), aI g 200 v.sc), ((w 11), aI g 75 v.fa), ((w 12), aI g 75 v.ma), ((w 13), aI g 75 v.co)]) (As := [.int k]) (rest := [.int al]) E hB hK hZ (s_Layout_lengthOf l g s.heap.size h0 w v k hI) mc_Layout_lengthOf mi_Layout_lengthOf me_Layout_lengthOf wd_1185 hP hD hS hA [0, 1, 2, 3, 4, 5, 6, 7, 8, 9, 10, 11, 12, 13, 14] rfl (by decide) 0 rfl rfl rfl rfl rfl (by decide) rfl hl.1 rfl (Nat.le_of_ble_eq_true rfl) (by decide) d_Layout_instructionBytes_15) (fun r1 hr1 => ?_)
        refine lv_iadd hx hb d_Layout_instructionBytes_18 ?_
        obtain ⟨x2, ex2⟩ : ∃ z : Int32, al + r1 = z := ⟨_, rfl⟩
        refine tw_ri (e2 := x2) ex2 ?_
        refine lv_istore_n hx hb d_Layout_instructionBytes_19 rfl hl (by decide) rfl (fun ls hl => ?_)
        have hl : lv_has ls 3 [(1, .int x2), (2, .int k), (0, .ref h0)] := hl
        refine lv_iinc (k := 1) (v := k + 1) hx hb d_Layout_instructionBytes_20 hl rfl rfl (by decide) rfl (fun ls hl => ?_)
        have hl : lv_has ls 3 [(2, .int (k + 1)), (1, .int x2), (0, .ref h0)] := hl
        refine lv_goto (tgt := 4) hx hb d_Layout_instructionBytes_23 (by decide) ?_
        exact ih _ (hk ▸ ims_dec h9) x2 (k + 1) ls rfl  (lv_sub hl [0, 1, 2] rfl)
  exact loop4 _ 0 0 ls rfl  (hl)
set_option maxHeartbeats 4000000 in
set_option maxRecDepth 100000 in
theorem s_Layout_textNumber (l : Launch) (g : tw_G) (sz : Nat) (h0 : Nat) (w : Nat → Nat) (v : LY) (a : Int32) (k : Int32) (hI : LI v) : Met l y_Layout_textNumber [.code y_Layout_textNumber b_Layout_textNumber 4 (some .int)] ({ frames := 3, cells := 0, slots := 0, locals := 65 }) (tw_P g [.ref h0, .int a, .int k] [(h0, .inr (3, [.ref (w 0), .ref (w 2), .ref (w 7), .ref (w 8), .ref (w 9), .ref (w 10), .ref (w 11), .ref (w 12), .ref (w 13), .int v.nu, .int v.th, .int v.it, .int (nI v.fi), .int (nI v.me), .int v.mp])), ((w 0), .inr (2, [.ref (w 1), .int (nI v.n)])), ((w 1), aB g 600 v.b), ((w 2), .inr (1, [.ref (w 3), .ref (w 4), .ref (w 5), .ref (w 6), .int (nI v.lo)])), ((w 3), aJ g 4800 v.rw), ((w 4), aB g 600 v.bg), ((w 5), aB g 600 v.wt), ((w 6), aB g 600 v.dp), ((w 7), aI g 200 v.tg), ((w 8), aI g 200 v.ca), ((w 9), aI g 200 v.fs), ((w 10), aI g 200 v.sc), ((w 11), aI g 75 v.fa), ((w 12), aI g 75 v.ma), ((w 13), aI g 75 v.co)] sz) (vp_Si (fun _ => True)) 0 0 (fun _ => False) := by
  refine tw_met (l := l) (g := g) (y := y_Layout_textNumber) (cc := b_Layout_textNumber) (maxL := 4) (ret := (some .int)) (rm := { frames := 3, cells := 0, slots := 0, locals := 65 }) (mc := 0) (ms := 0) (av := [.ref h0, .int a, .int k]) (ws := [(h0, .inr (3, [.ref (w 0), .ref (w 2), .ref (w 7), .ref (w 8), .ref (w 9), .ref (w 10), .ref (w 11), .ref (w 12), .ref (w 13), .int v.nu, .int v.th, .int v.it, .int (nI v.fi), .int (nI v.me), .int v.mp])), ((w 0), .inr (2, [.ref (w 1), .int (nI v.n)])), ((w 1), aB g 600 v.b), ((w 2), .inr (1, [.ref (w 3), .ref (w 4), .ref (w 5), .ref (w 6), .int (nI v.lo)])), ((w 3), aJ g 4800 v.rw), ((w 4), aB g 600 v.bg), ((w 5), aB g 600 v.wt), ((w 6), aB g 600 v.dp), ((w 7), aI g 200 v.tg), ((w 8), aI g 200 v.ca), ((w 9), aI g 200 v.fs), ((w 10), aI g 200 v.sc), ((w 11), aI g 75 v.fa), ((w 12), aI g 75 v.ma), ((w 13), aI g 75 v.co)]) (sz := sz) (Qc := fun _ => (vp_Si (fun _ => True))) (free := fun _ _ => False) (by decide) (Nat.le_of_ble_eq_true rfl) ?_
  intro p e s m below meth c ls A E hB hK hZ hP hD hS hA hl
  obtain ⟨hx, hb, hml, hr, hown, hts, hlocks, hin⟩ := id E
  have hl : lv_has ls 4 [(0, .ref h0), (1, .int a), (2, .int k)] := hl
  refine lv_iload_n hx hb d_Layout_textNumber_0 rfl (lv_at hl 1 rfl) ?_
  refine lv_iconst (v := 2) hx hb d_Layout_textNumber_1 (by decide) ?_
  refine lv_icmp_ge (tgt := 18) hx hb d_Layout_textNumber_2 (by decide) (fun h2 => ?_) (fun h2 => ?_)
  · refine lv_iload_n hx hb d_Layout_textNumber_18 rfl (lv_at hl 1 rfl) ?_
    refine lv_iconst (v := 2) hx hb d_Layout_textNumber_19 (by decide) ?_
    refine lv_icmp_ne (tgt := 49) hx hb d_Layout_textNumber_20 (by decide) (fun h20 => ?_) (fun h20 => ?_)
    · refine lv_aload_n hx hb d_Layout_textNumber_49 rfl (lv_at hl 0 rfl) ?_
      refine lv_iload_n hx hb d_Layout_textNumber_50 rfl (lv_at hl 1 rfl) ?_
      refine lv_iconst (v := 4) hx hb d_Layout_textNumber_51 (by decide) ?_
      refine lv_icmp_le (tgt := 59) hx hb d_Layout_textNumber_52 (by decide) (fun h52 => ?_) (fun h52 => ?_)
      · refine lv_iconst (v := 0) hx hb d_Layout_textNumber_59 (by decide) ?_
        refine lv_iload_n hx hb d_Layout_textNumber_60 rfl (lv_at hl 2 rfl) ?_
        refine tw_si (tw_runV (ws := [(h0, .inr (3, [.ref (w 0), .ref (w 2), .ref (w 7), .ref (w 8), .ref (w 9), .ref (w 10), .ref (w 11), .ref (w 12), .ref (w 13), .int v.nu, .int v.th, .int v.it, .int (nI v.fi), .int (nI v.me), .int v.mp])), ((w 0), .inr (2, [.ref (w 1), .int (nI v.n)])), ((w 1), aB g 600 v.b), ((w 2), .inr (1, [.ref (w 3), .ref (w 4), .ref (w 5), .ref (w 6), .int (nI v.lo)])), ((w 3), aJ g 4800 v.rw), ((w 4), aB g 600 v.bg), ((w 5), aB g 600 v.wt), ((w 6), aB g 600 v.dp), ((w 7), aI g 200 v.tg), ((w 8), aI g 200 v.ca), ((w 9), aI g 200 v.fs), ((w 10), aI g 200 v.sc), ((w 11), aI g 75 v.fa), ((w 12), aI g 75 v.ma), ((w 13), aI g 75 v.co)]) (wc := [(h0, .inr (3, [.ref (w 0), .ref (w 2), .ref (w 7), .ref (w 8), .ref (w 9), .ref (w 10), .ref (w 11), .ref (w 12), .ref (w 13), .int v.nu, .int v.th, .int v.it, .int (nI v.fi), .int (nI v.me), .int v.mp])), ((w 0), .inr (2, [.ref (w 1), .int (nI v.n)])), ((w 1), aB g 600 v.b), ((w 2), .inr (1, [.ref (w 3), .ref (w 4), .ref (w 5), .ref (w 6), .int (nI v.lo)])), ((w 3), aJ g 4800 v.rw), ((w 4), aB g 600 v.bg), ((w 5), aB g 600 v.wt), ((w 6), aB g 600 v.dp), ((w 7), aI g 200 v.tg), ((w 8), aI g 200 v.ca), ((w 9), aI g 200 v.fs), ((w 10), aI g 200 v.sc), ((w 11), aI g 75 v.fa), ((w 12), aI g 75 v.ma), ((w 13), aI g 75 v.co)]) (As := [.int 0, .int k]) (rest := []) E hB hK hZ (s_Layout_memberAt l g s.heap.size h0 w v 0 k hI) mc_Layout_memberAt mi_Layout_memberAt me_Layout_memberAt wd_1208 hP hD hS hA [0, 1, 2, 3, 4, 5, 6, 7, 8, 9, 10, 11, 12, 13, 14] rfl (by decide) 0 rfl rfl rfl rfl rfl (by decide) rfl hl.1 rfl (Nat.le_of_ble_eq_true rfl) (by decide) d_Layout_textNumber_61) (fun r1 hr1 => ?_)
        refine lv_istore_n hx hb d_Layout_textNumber_64 rfl hl (by decide) rfl (fun ls hl => ?_)
        have hl : lv_has ls 4 [(3, .int r1), (0, .ref h0), (1, .int a), (2, .int k)] := hl
        refine lv_iload_n hx hb d_Layout_textNumber_65 rfl (lv_at hl 0 rfl) ?_
        refine lv_iconst (v := (-1)) hx hb d_Layout_textNumber_66 (by decide) ?_
        refine lv_icmp_ne (tgt := 72) hx hb d_Layout_textNumber_67 (by decide) (fun h67 => ?_) (fun h67 => ?_)
        · refine lv_iload_n hx hb d_Layout_textNumber_72 rfl (lv_at hl 2 rfl) ?_
          refine lv_iconst (v := 3) hx hb d_Layout_textNumber_73 (by decide) ?_
          refine lv_icmp_eq (tgt := 82) hx hb d_Layout_textNumber_74 (by decide) (fun h74 => ?_) (fun h74 => ?_)
          · refine lv_aload_n hx hb d_Layout_textNumber_82 rfl (lv_at hl 1 rfl) ?_
            refine lv_iload_n hx hb d_Layout_textNumber_83 rfl (lv_at hl 0 rfl) ?_
            refine tw_si (tw_runV (ws := [(h0, .inr (3, [.ref (w 0), .ref (w 2), .ref (w 7), .ref (w 8), .ref (w 9), .ref (w 10), .ref (w 11), .ref (w 12), .ref (w 13), .int v.nu, .int v.th, .int v.it, .int (nI v.fi), .int (nI v.me), .int v.mp])), ((w 0), .inr (2, [.ref (w 1), .int (nI v.n)])), ((w 1), aB g 600 v.b), ((w 2), .inr (1, [.ref (w 3), .ref (w 4), .ref (w 5), .ref (w 6), .int (nI v.lo)])), ((w 3), aJ g 4800 v.rw), ((w 4), aB g 600 v.bg), ((w 5), aB g 600 v.wt), ((w 6), aB g 600 v.dp), ((w 7), aI g 200 v.tg), ((w 8), aI g 200 v.ca), ((w 9), aI g 200 v.fs), ((w 10), aI g 200 v.sc), ((w 11), aI g 75 v.fa), ((w 12), aI g 75 v.ma), ((w 13), aI g 75 v.co)]) (wc := [(h0, .inr (3, [.ref (w 0), .ref (w 2), .ref (w 7), .ref (w 8), .ref (w 9), .ref (w 10), .ref (w 11), .ref (w 12), .ref (w 13), .int v.nu, .int v.th, .int v.it, .int (nI v.fi), .int (nI v.me), .int v.mp])), ((w 0), .inr (2, [.ref (w 1), .int (nI v.n)])), ((w 1), aB g 600 v.b), ((w 2), .inr (1, [.ref (w 3), .ref (w 4), .ref (w 5), .ref (w 6), .int (nI v.lo)])), ((w 3), aJ g 4800 v.rw), ((w 4), aB g 600 v.bg), ((w 5), aB g 600 v.wt), ((w 6), aB g 600 v.dp), ((w 7), aI g 200 v.tg), ((w 8), aI g 200 v.ca), ((w 9), aI g 200 v.fs), ((w 10), aI g 200 v.sc), ((w 11), aI g 75 v.fa), ((w 12), aI g 75 v.ma), ((w 13), aI g 75 v.co)]) (As := [.int r1]) (rest := []) E hB hK hZ (s_Layout_nameAt l g s.heap.size h0 w v r1 hI) mc_Layout_nameAt mi_Layout_nameAt me_Layout_nameAt wd_1209 hP hD hS hA [0, 1, 2, 3, 4, 5, 6, 7, 8, 9, 10, 11, 12, 13, 14] rfl (by decide) 0 rfl rfl rfl rfl rfl (by decide) rfl hl.1 rfl (Nat.le_of_ble_eq_true rfl) (by decide) d_Layout_textNumber_84) (fun r2 hr2 => ?_)
            refine lv_goto (tgt := 95) hx hb d_Layout_textNumber_87 (by decide) ?_
            exact tw_isret E trivial d_Layout_textNumber_95
          · refine lv_iload_n hx hb d_Layout_textNumber_77 rfl (lv_at hl 2 rfl) ?_
            refine lv_iconst (v := 5) hx hb d_Layout_textNumber_78 (by decide) ?_
            refine lv_icmp_ne (tgt := 90) hx hb d_Layout_textNumber_79 (by decide) (fun h79 => ?_) (fun h79 => ?_)
            · refine lv_aload_n hx hb d_Layout_textNumber_90 rfl (lv_at hl 1 rfl) ?_
              refine lv_iload_n hx hb d_Layout_textNumber_91 rfl (lv_at hl 0 rfl) ?_
              refine tw_si (tw_runV (ws := [(h0, .inr (3, [.ref (w 0), .ref (w 2), .ref (w 7), .ref (w 8), .ref (w 9), .ref (w 10), .ref (w 11), .ref (w 12), .ref (w 13), .int v.nu, .int v.th, .int v.it, .int (nI v.fi), .int (nI v.me), .int v.mp])), ((w 0), .inr (2, [.ref (w 1), .int (nI v.n)])), ((w 1), aB g 600 v.b), ((w 2), .inr (1, [.ref (w 3), .ref (w 4), .ref (w 5), .ref (w 6), .int (nI v.lo)])), ((w 3), aJ g 4800 v.rw), ((w 4), aB g 600 v.bg), ((w 5), aB g 600 v.wt), ((w 6), aB g 600 v.dp), ((w 7), aI g 200 v.tg), ((w 8), aI g 200 v.ca), ((w 9), aI g 200 v.fs), ((w 10), aI g 200 v.sc), ((w 11), aI g 75 v.fa), ((w 12), aI g 75 v.ma), ((w 13), aI g 75 v.co)]) (wc := [(h0, .inr (3, [.ref (w 0), .ref (w 2), .ref (w 7), .ref (w 8), .ref (w 9), .ref (w 10), .ref (w 11), .ref (w 12), .ref (w 13), .int v.nu, .int v.th, .int v.it, .int (nI v.fi), .int (nI v.me), .int v.mp])), ((w 0), .inr (2, [.ref (w 1), .int (nI v.n)])), ((w 1), aB g 600 v.b), ((w 2), .inr (1, [.ref (w 3), .ref (w 4), .ref (w 5), .ref (w 6), .int (nI v.lo)])), ((w 3), aJ g 4800 v.rw), ((w 4), aB g 600 v.bg), ((w 5), aB g 600 v.wt), ((w 6), aB g 600 v.dp), ((w 7), aI g 200 v.tg), ((w 8), aI g 200 v.ca), ((w 9), aI g 200 v.fs), ((w 10), aI g 200 v.sc), ((w 11), aI g 75 v.fa), ((w 12), aI g 75 v.ma), ((w 13), aI g 75 v.co)]) (As := [.int r1]) (rest := []) E hB hK hZ (s_Layout_typeAt l g s.heap.size h0 w v r1 hI) mc_Layout_typeAt mi_Layout_typeAt me_Layout_typeAt wd_1210 hP hD hS hA [0, 1, 2, 3, 4, 5, 6, 7, 8, 9, 10, 11, 12, 13, 14] rfl (by decide) 0 rfl rfl rfl rfl rfl (by decide) rfl hl.1 rfl (Nat.le_of_ble_eq_true rfl) (by decide) d_Layout_textNumber_92) (fun r3 hr3 => ?_)
              exact tw_isret E trivial d_Layout_textNumber_95
            · refine lv_aload_n hx hb d_Layout_textNumber_82 rfl (lv_at hl 1 rfl) ?_
              refine lv_iload_n hx hb d_Layout_textNumber_83 rfl (lv_at hl 0 rfl) ?_
              refine tw_si (tw_runV (ws := [(h0, .inr (3, [.ref (w 0), .ref (w 2), .ref (w 7), .ref (w 8), .ref (w 9), .ref (w 10), .ref (w 11), .ref (w 12), .ref (w 13), .int v.nu, .int v.th, .int v.it, .int (nI v.fi), .int (nI v.me), .int v.mp])), ((w 0), .inr (2, [.ref (w 1), .int (nI v.n)])), ((w 1), aB g 600 v.b), ((w 2), .inr (1, [.ref (w 3), .ref (w 4), .ref (w 5), .ref (w 6), .int (nI v.lo)])), ((w 3), aJ g 4800 v.rw), ((w 4), aB g 600 v.bg), ((w 5), aB g 600 v.wt), ((w 6), aB g 600 v.dp), ((w 7), aI g 200 v.tg), ((w 8), aI g 200 v.ca), ((w 9), aI g 200 v.fs), ((w 10), aI g 200 v.sc), ((w 11), aI g 75 v.fa), ((w 12), aI g 75 v.ma), ((w 13), aI g 75 v.co)]) (wc := [(h0, .inr (3, [.ref (w 0), .ref (w 2), .ref (w 7), .ref (w 8), .ref (w 9), .ref (w 10), .ref (w 11), .ref (w 12), .ref (w 13), .int v.nu, .int v.th, .int v.it, .int (nI v.fi), .int (nI v.me), .int v.mp])), ((w 0), .inr (2, [.ref (w 1), .int (nI v.n)])), ((w 1), aB g 600 v.b), ((w 2), .inr (1, [.ref (w 3), .ref (w 4), .ref (w 5), .ref (w 6), .int (nI v.lo)])), ((w 3), aJ g 4800 v.rw), ((w 4), aB g 600 v.bg), ((w 5), aB g 600 v.wt), ((w 6), aB g 600 v.dp), ((w 7), aI g 200 v.tg), ((w 8), aI g 200 v.ca), ((w 9), aI g 200 v.fs), ((w 10), aI g 200 v.sc), ((w 11), aI g 75 v.fa), ((w 12), aI g 75 v.ma), ((w 13), aI g 75 v.co)]) (As := [.int r1]) (rest := []) E hB hK hZ (s_Layout_nameAt l g s.heap.size h0 w v r1 hI) mc_Layout_nameAt mi_Layout_nameAt me_Layout_nameAt wd_1209 hP hD hS hA [0, 1, 2, 3, 4, 5, 6, 7, 8, 9, 10, 11, 12, 13, 14] rfl (by decide) 0 rfl rfl rfl rfl rfl (by decide) rfl hl.1 rfl (Nat.le_of_ble_eq_true rfl) (by decide) d_Layout_textNumber_84) (fun r4 hr4 => ?_)
              refine lv_goto (tgt := 95) hx hb d_Layout_textNumber_87 (by decide) ?_
              exact tw_isret E trivial d_Layout_textNumber_95
        · refine lv_iconst (v := 0) hx hb d_Layout_textNumber_70 (by decide) ?_
          exact tw_isret E trivial d_Layout_textNumber_71
      · refine lv_iconst (v := 1) hx hb d_Layout_textNumber_55 (by decide) ?_
        refine lv_goto (tgt := 60) hx hb d_Layout_textNumber_56 (by decide) ?_
        refine lv_iload_n hx hb d_Layout_textNumber_60 rfl (lv_at hl 2 rfl) ?_
        refine tw_si (tw_runV (ws := [(h0, .inr (3, [.ref (w 0), .ref (w 2), .ref (w 7), .ref (w 8), .ref (w 9), .ref (w 10), .ref (w 11), .ref (w 12), .ref (w 13), .int v.nu, .int v.th, .int v.it, .int (nI v.fi), .int (nI v.me), .int v.mp])), ((w 0), .inr (2, [.ref (w 1), .int (nI v.n)])), ((w 1), aB g 600 v.b), ((w 2), .inr (1, [.ref (w 3), .ref (w 4), .ref (w 5), .ref (w 6), .int (nI v.lo)])), ((w 3), aJ g 4800 v.rw), ((w 4), aB g 600 v.bg), ((w 5), aB g 600 v.wt), ((w 6), aB g 600 v.dp), ((w 7), aI g 200 v.tg), ((w 8), aI g 200 v.ca), ((w 9), aI g 200 v.fs), ((w 10), aI g 200 v.sc), ((w 11), aI g 75 v.fa), ((w 12), aI g 75 v.ma), ((w 13), aI g 75 v.co)]) (wc := [(h0, .inr (3, [.ref (w 0), .ref (w 2), .ref (w 7), .ref (w 8), .ref (w 9), .ref (w 10), .ref (w 11), .ref (w 12), .ref (w 13), .int v.nu, .int v.th, .int v.it, .int (nI v.fi), .int (nI v.me), .int v.mp])), ((w 0), .inr (2, [.ref (w 1), .int (nI v.n)])), ((w 1), aB g 600 v.b), ((w 2), .inr (1, [.ref (w 3), .ref (w 4), .ref (w 5), .ref (w 6), .int (nI v.lo)])), ((w 3), aJ g 4800 v.rw), ((w 4), aB g 600 v.bg), ((w 5), aB g 600 v.wt), ((w 6), aB g 600 v.dp), ((w 7), aI g 200 v.tg), ((w 8), aI g 200 v.ca), ((w 9), aI g 200 v.fs), ((w 10), aI g 200 v.sc), ((w 11), aI g 75 v.fa), ((w 12), aI g 75 v.ma), ((w 13), aI g 75 v.co)]) (As := [.int 1, .int k]) (rest := []) E hB hK hZ (s_Layout_memberAt l g s.heap.size h0 w v 1 k hI) mc_Layout_memberAt mi_Layout_memberAt me_Layout_memberAt wd_1208 hP hD hS hA [0, 1, 2, 3, 4, 5, 6, 7, 8, 9, 10, 11, 12, 13, 14] rfl (by decide) 0 rfl rfl rfl rfl rfl (by decide) rfl hl.1 rfl (Nat.le_of_ble_eq_true rfl) (by decide) d_Layout_textNumber_61) (fun r5 hr5 => ?_)
        refine lv_istore_n hx hb d_Layout_textNumber_64 rfl hl (by decide) rfl (fun ls hl => ?_)
        have hl : lv_has ls 4 [(3, .int r5), (0, .ref h0), (1, .int a), (2, .int k)] := hl
        refine lv_iload_n hx hb d_Layout_textNumber_65 rfl (lv_at hl 0 rfl) ?_
        refine lv_iconst (v := (-1)) hx hb d_Layout_textNumber_66 (by decide) ?_
        refine lv_icmp_ne (tgt := 72) hx hb d_Layout_textNumber_67 (by decide) (fun h67 => ?_) (fun h67 => ?_)
        · refine lv_iload_n hx hb d_Layout_textNumber_72 rfl (lv_at hl 2 rfl) ?_
          refine lv_iconst (v := 3) hx hb d_Layout_textNumber_73 (by decide) ?_
          refine lv_icmp_eq (tgt := 82) hx hb d_Layout_textNumber_74 (by decide) (fun h74 => ?_) (fun h74 => ?_)
          · refine lv_aload_n hx hb d_Layout_textNumber_82 rfl (lv_at hl 1 rfl) ?_
            refine lv_iload_n hx hb d_Layout_textNumber_83 rfl (lv_at hl 0 rfl) ?_
            refine tw_si (tw_runV (ws := [(h0, .inr (3, [.ref (w 0), .ref (w 2), .ref (w 7), .ref (w 8), .ref (w 9), .ref (w 10), .ref (w 11), .ref (w 12), .ref (w 13), .int v.nu, .int v.th, .int v.it, .int (nI v.fi), .int (nI v.me), .int v.mp])), ((w 0), .inr (2, [.ref (w 1), .int (nI v.n)])), ((w 1), aB g 600 v.b), ((w 2), .inr (1, [.ref (w 3), .ref (w 4), .ref (w 5), .ref (w 6), .int (nI v.lo)])), ((w 3), aJ g 4800 v.rw), ((w 4), aB g 600 v.bg), ((w 5), aB g 600 v.wt), ((w 6), aB g 600 v.dp), ((w 7), aI g 200 v.tg), ((w 8), aI g 200 v.ca), ((w 9), aI g 200 v.fs), ((w 10), aI g 200 v.sc), ((w 11), aI g 75 v.fa), ((w 12), aI g 75 v.ma), ((w 13), aI g 75 v.co)]) (wc := [(h0, .inr (3, [.ref (w 0), .ref (w 2), .ref (w 7), .ref (w 8), .ref (w 9), .ref (w 10), .ref (w 11), .ref (w 12), .ref (w 13), .int v.nu, .int v.th, .int v.it, .int (nI v.fi), .int (nI v.me), .int v.mp])), ((w 0), .inr (2, [.ref (w 1), .int (nI v.n)])), ((w 1), aB g 600 v.b), ((w 2), .inr (1, [.ref (w 3), .ref (w 4), .ref (w 5), .ref (w 6), .int (nI v.lo)])), ((w 3), aJ g 4800 v.rw), ((w 4), aB g 600 v.bg), ((w 5), aB g 600 v.wt), ((w 6), aB g 600 v.dp), ((w 7), aI g 200 v.tg), ((w 8), aI g 200 v.ca), ((w 9), aI g 200 v.fs), ((w 10), aI g 200 v.sc), ((w 11), aI g 75 v.fa), ((w 12), aI g 75 v.ma), ((w 13), aI g 75 v.co)]) (As := [.int r5]) (rest := []) E hB hK hZ (s_Layout_nameAt l g s.heap.size h0 w v r5 hI) mc_Layout_nameAt mi_Layout_nameAt me_Layout_nameAt wd_1209 hP hD hS hA [0, 1, 2, 3, 4, 5, 6, 7, 8, 9, 10, 11, 12, 13, 14] rfl (by decide) 0 rfl rfl rfl rfl rfl (by decide) rfl hl.1 rfl (Nat.le_of_ble_eq_true rfl) (by decide) d_Layout_textNumber_84) (fun r6 hr6 => ?_)
            refine lv_goto (tgt := 95) hx hb d_Layout_textNumber_87 (by decide) ?_
            exact tw_isret E trivial d_Layout_textNumber_95
          · refine lv_iload_n hx hb d_Layout_textNumber_77 rfl (lv_at hl 2 rfl) ?_
            refine lv_iconst (v := 5) hx hb d_Layout_textNumber_78 (by decide) ?_
            refine lv_icmp_ne (tgt := 90) hx hb d_Layout_textNumber_79 (by decide) (fun h79 => ?_) (fun h79 => ?_)
            · refine lv_aload_n hx hb d_Layout_textNumber_90 rfl (lv_at hl 1 rfl) ?_
              refine lv_iload_n hx hb d_Layout_textNumber_91 rfl (lv_at hl 0 rfl) ?_
              refine tw_si (tw_runV (ws := [(h0, .inr (3, [.ref (w 0), .ref (w 2), .ref (w 7), .ref (w 8), .ref (w 9), .ref (w 10), .ref (w 11), .ref (w 12), .ref (w 13), .int v.nu, .int v.th, .int v.it, .int (nI v.fi), .int (nI v.me), .int v.mp])), ((w 0), .inr (2, [.ref (w 1), .int (nI v.n)])), ((w 1), aB g 600 v.b), ((w 2), .inr (1, [.ref (w 3), .ref (w 4), .ref (w 5), .ref (w 6), .int (nI v.lo)])), ((w 3), aJ g 4800 v.rw), ((w 4), aB g 600 v.bg), ((w 5), aB g 600 v.wt), ((w 6), aB g 600 v.dp), ((w 7), aI g 200 v.tg), ((w 8), aI g 200 v.ca), ((w 9), aI g 200 v.fs), ((w 10), aI g 200 v.sc), ((w 11), aI g 75 v.fa), ((w 12), aI g 75 v.ma), ((w 13), aI g 75 v.co)]) (wc := [(h0, .inr (3, [.ref (w 0), .ref (w 2), .ref (w 7), .ref (w 8), .ref (w 9), .ref (w 10), .ref (w 11), .ref (w 12), .ref (w 13), .int v.nu, .int v.th, .int v.it, .int (nI v.fi), .int (nI v.me), .int v.mp])), ((w 0), .inr (2, [.ref (w 1), .int (nI v.n)])), ((w 1), aB g 600 v.b), ((w 2), .inr (1, [.ref (w 3), .ref (w 4), .ref (w 5), .ref (w 6), .int (nI v.lo)])), ((w 3), aJ g 4800 v.rw), ((w 4), aB g 600 v.bg), ((w 5), aB g 600 v.wt), ((w 6), aB g 600 v.dp), ((w 7), aI g 200 v.tg), ((w 8), aI g 200 v.ca), ((w 9), aI g 200 v.fs), ((w 10), aI g 200 v.sc), ((w 11), aI g 75 v.fa), ((w 12), aI g 75 v.ma), ((w 13), aI g 75 v.co)]) (As := [.int r5]) (rest := []) E hB hK hZ (s_Layout_typeAt l g s.heap.size h0 w v r5 hI) mc_Layout_typeAt mi_Layout_typeAt me_Layout_typeAt wd_1210 hP hD hS hA [0, 1, 2, 3, 4, 5, 6, 7, 8, 9, 10, 11, 12, 13, 14] rfl (by decide) 0 rfl rfl rfl rfl rfl (by decide) rfl hl.1 rfl (Nat.le_of_ble_eq_true rfl) (by decide) d_Layout_textNumber_92) (fun r7 hr7 => ?_)
              exact tw_isret E trivial d_Layout_textNumber_95
            · refine lv_aload_n hx hb d_Layout_textNumber_82 rfl (lv_at hl 1 rfl) ?_
              refine lv_iload_n hx hb d_Layout_textNumber_83 rfl (lv_at hl 0 rfl) ?_
              refine tw_si (tw_runV (ws := [(h0, .inr (3, [.ref (w 0), .ref (w 2), .ref (w 7), .ref (w 8), .ref (w 9), .ref (w 10), .ref (w 11), .ref (w 12), .ref (w 13), .int v.nu, .int v.th, .int v.it, .int (nI v.fi), .int (nI v.me), .int v.mp])), ((w 0), .inr (2, [.ref (w 1), .int (nI v.n)])), ((w 1), aB g 600 v.b), ((w 2), .inr (1, [.ref (w 3), .ref (w 4), .ref (w 5), .ref (w 6), .int (nI v.lo)])), ((w 3), aJ g 4800 v.rw), ((w 4), aB g 600 v.bg), ((w 5), aB g 600 v.wt), ((w 6), aB g 600 v.dp), ((w 7), aI g 200 v.tg), ((w 8), aI g 200 v.ca), ((w 9), aI g 200 v.fs), ((w 10), aI g 200 v.sc), ((w 11), aI g 75 v.fa), ((w 12), aI g 75 v.ma), ((w 13), aI g 75 v.co)]) (wc := [(h0, .inr (3, [.ref (w 0), .ref (w 2), .ref (w 7), .ref (w 8), .ref (w 9), .ref (w 10), .ref (w 11), .ref (w 12), .ref (w 13), .int v.nu, .int v.th, .int v.it, .int (nI v.fi), .int (nI v.me), .int v.mp])), ((w 0), .inr (2, [.ref (w 1), .int (nI v.n)])), ((w 1), aB g 600 v.b), ((w 2), .inr (1, [.ref (w 3), .ref (w 4), .ref (w 5), .ref (w 6), .int (nI v.lo)])), ((w 3), aJ g 4800 v.rw), ((w 4), aB g 600 v.bg), ((w 5), aB g 600 v.wt), ((w 6), aB g 600 v.dp), ((w 7), aI g 200 v.tg), ((w 8), aI g 200 v.ca), ((w 9), aI g 200 v.fs), ((w 10), aI g 200 v.sc), ((w 11), aI g 75 v.fa), ((w 12), aI g 75 v.ma), ((w 13), aI g 75 v.co)]) (As := [.int r5]) (rest := []) E hB hK hZ (s_Layout_nameAt l g s.heap.size h0 w v r5 hI) mc_Layout_nameAt mi_Layout_nameAt me_Layout_nameAt wd_1209 hP hD hS hA [0, 1, 2, 3, 4, 5, 6, 7, 8, 9, 10, 11, 12, 13, 14] rfl (by decide) 0 rfl rfl rfl rfl rfl (by decide) rfl hl.1 rfl (Nat.le_of_ble_eq_true rfl) (by decide) d_Layout_textNumber_84) (fun r8 hr8 => ?_)
              refine lv_goto (tgt := 95) hx hb d_Layout_textNumber_87 (by decide) ?_
              exact tw_isret E trivial d_Layout_textNumber_95
        · refine lv_iconst (v := 0) hx hb d_Layout_textNumber_70 (by decide) ?_
          exact tw_isret E trivial d_Layout_textNumber_71
    · refine lv_iload_n hx hb d_Layout_textNumber_23 rfl (lv_at hl 2 rfl) ?_
      refine lv_if_lt (tgt := 47) hx hb d_Layout_textNumber_24 (by decide) (fun h24 => ?_) (fun h24 => ?_)
      · refine lv_iconst (v := 0) hx hb d_Layout_textNumber_47 (by decide) ?_
        exact tw_isret E trivial d_Layout_textNumber_48
      · refine lv_iload_n hx hb d_Layout_textNumber_27 rfl (lv_at hl 2 rfl) ?_
        refine lv_aload_n hx hb d_Layout_textNumber_28 rfl (lv_at hl 0 rfl) ?_
        refine va_get (D := g.1) (ci := 3) (v := .int v.it) (C := R_Layout) (T := F_Layout) (N := 15) hx hb hts in_Layout hown hK hP 0 rfl rfl 11 (by decide) (hts _ wd_267) (fun _ h9 => h9) rfl d_Layout_textNumber_29 ?_
        refine lv_icmp_ge (tgt := 47) hx hb d_Layout_textNumber_32 (by decide) (fun h32 => ?_) (fun h32 => ?_)
        · refine lv_iconst (v := 0) hx hb d_Layout_textNumber_47 (by decide) ?_
          exact tw_isret E trivial d_Layout_textNumber_48
        · refine lv_aload_n hx hb d_Layout_textNumber_35 rfl (lv_at hl 0 rfl) ?_
          refine lv_aload_n hx hb d_Layout_textNumber_36 rfl (lv_at hl 0 rfl) ?_
          refine lv_iload_n hx hb d_Layout_textNumber_37 rfl (lv_at hl 2 rfl) ?_
          refine tw_si (tw_runV (ws := [(h0, .inr (3, [.ref (w 0), .ref (w 2), .ref (w 7), .ref (w 8), .ref (w 9), .ref (w 10), .ref (w 11), .ref (w 12), .ref (w 13), .int v.nu, .int v.th, .int v.it, .int (nI v.fi), .int (nI v.me), .int v.mp])), ((w 0), .inr (2, [.ref (w 1), .int (nI v.n)])), ((w 1), aB g 600 v.b), ((w 2), .inr (1, [.ref (w 3), .ref (w 4), .ref (w 5), .ref (w 6), .int (nI v.lo)])), ((w 3), aJ g 4800 v.rw), ((w 4), aB g 600 v.bg), ((w 5), aB g 600 v.wt), ((w 6), aB g 600 v.dp), ((w 7), aI g 200 v.tg), ((w 8), aI g 200 v.ca), ((w 9), aI g 200 v.fs), ((w 10), aI g 200 v.sc), ((w 11), aI g 75 v.fa), ((w 12), aI g 75 v.ma), ((w 13), aI g 75 v.co)]) (wc := [(h0, .inr (3, [.ref (w 0), .ref (w 2), .ref (w 7), .ref (w 8), .ref (w 9), .ref (w 10), .ref (w 11), .ref (w 12), .ref (w 13), .int v.nu, .int v.th, .int v.it, .int (nI v.fi), .int (nI v.me), .int v.mp])), ((w 0), .inr (2, [.ref (w 1), .int (nI v.n)])), ((w 1), aB g 600 v.b), ((w 2), .inr (1, [.ref (w 3), .ref (w 4), .ref (w 5), .ref (w 6), .int (nI v.lo)])), ((w 3), aJ g 4800 v.rw), ((w 4), aB g 600 v.bg), ((w 5), aB g 600 v.wt), ((w 6), aB g 600 v.dp), ((w 7), aI g 200 v.tg), ((w 8), aI g 200 v.ca), ((w 9), aI g 200 v.fs), ((w 10), aI g 200 v.sc), ((w 11), aI g 75 v.fa), ((w 12), aI g 75 v.ma), ((w 13), aI g 75 v.co)]) (As := [.int k]) (rest := [.ref h0]) E hB hK hZ (s_Layout_interfaceAt l g s.heap.size h0 w v k hI) mc_Layout_interfaceAt mi_Layout_interfaceAt me_Layout_interfaceAt wd_1207 hP hD hS hA [0, 1, 2, 3, 4, 5, 6, 7, 8, 9, 10, 11, 12, 13, 14] rfl (by decide) 0 rfl rfl rfl rfl rfl (by decide) rfl hl.1 rfl (Nat.le_of_ble_eq_true rfl) (by decide) d_Layout_textNumber_38) (fun r9 hr9 => ?_)
          refine tw_si (tw_runV (ws := [(h0, .inr (3, [.ref (w 0), .ref (w 2), .ref (w 7), .ref (w 8), .ref (w 9), .ref (w 10), .ref (w 11), .ref (w 12), .ref (w 13), .int v.nu, .int v.th, .int v.it, .int (nI v.fi), .int (nI v.me), .int v.mp])), ((w 0), .inr (2, [.ref (w 1), .int (nI v.n)])), ((w 1), aB g 600 v.b), ((w 2), .inr (1, [.ref (w 3), .ref (w 4), .ref (w 5), .ref (w 6), .int (nI v.lo)])), ((w 3), aJ g 4800 v.rw), ((w 4), aB g 600 v.bg), ((w 5), aB g 600 v.wt), ((w 6), aB g 600 v.dp), ((w 7), aI g 200 v.tg), ((w 8), aI g 200 v.ca), ((w 9), aI g 200 v.fs), ((w 10), aI g 200 v.sc), ((w 11), aI g 75 v.fa), ((w 12), aI g 75 v.ma), ((w 13), aI g 75 v.co)]) (wc := [(h0, .inr (3, [.ref (w 0), .ref (w 2), .ref (w 7), .ref (w 8), .ref (w 9), .ref (w 10), .ref (w 11), .ref (w 12), .ref (w 13), .int v.nu, .int v.th, .int v.it, .int (nI v.fi), .int (nI v.me), .int v.mp])), ((w 0), .inr (2, [.ref (w 1), .int (nI v.n)])), ((w 1), aB g 600 v.b), ((w 2), .inr (1, [.ref (w 3), .ref (w 4), .ref (w 5), .ref (w 6), .int (nI v.lo)])), ((w 3), aJ g 4800 v.rw), ((w 4), aB g 600 v.bg), ((w 5), aB g 600 v.wt), ((w 6), aB g 600 v.dp), ((w 7), aI g 200 v.tg), ((w 8), aI g 200 v.ca), ((w 9), aI g 200 v.fs), ((w 10), aI g 200 v.sc), ((w 11), aI g 75 v.fa), ((w 12), aI g 75 v.ma), ((w 13), aI g 75 v.co)]) (As := [.int r9]) (rest := []) E hB hK hZ (s_Layout_classTextAt l g s.heap.size h0 w v r9 hI) mc_Layout_classTextAt mi_Layout_classTextAt me_Layout_classTextAt wd_1206 hP hD hS hA [0, 1, 2, 3, 4, 5, 6, 7, 8, 9, 10, 11, 12, 13, 14] rfl (by decide) 0 rfl rfl rfl rfl rfl (by decide) rfl hl.1 rfl (Nat.le_of_ble_eq_true rfl) (by decide) d_Layout_textNumber_41) (fun r10 hr10 => ?_)
          refine lv_goto (tgt := 48) hx hb d_Layout_textNumber_44 (by decide) ?_
          exact tw_isret E trivial d_Layout_textNumber_48
  · refine lv_aload_n hx hb d_Layout_textNumber_5 rfl (lv_at hl 0 rfl) ?_
    refine lv_aload_n hx hb d_Layout_textNumber_6 rfl (lv_at hl 0 rfl) ?_
    refine va_get (D := g.1) (ci := 3) (v := .int v.th) (C := R_Layout) (T := F_Layout) (N := 15) hx hb hts in_Layout hown hK hP 0 rfl rfl 10 (by decide) (hts _ wd_266) (fun _ h9 => h9) rfl d_Layout_textNumber_7 ?_
    refine lv_iconst (v := 2) hx hb d_Layout_textNumber_10 (by decide) ?_
    refine lv_iload_n hx hb d_Layout_textNumber_11 rfl (lv_at hl 1 rfl) ?_
    refine lv_imul hx hb d_Layout_textNumber_12 ?_
    obtain ⟨x11, ex11⟩ : ∃ z : Int32, 2 * a = z := ⟨_, rfl⟩
    refine tw_ri (e2 := x11) ex11 ?_
    refine lv_iadd hx hb d_Layout_textNumber_13 ?_
    obtain ⟨x12, ex12⟩ : ∃ z : Int32, v.th + x11 = z := ⟨_, rfl⟩
    refine tw_ri (e2 := x12) ex12 ?_
    refine tw_si (tw_runV (ws := [(h0, .inr (3, [.ref (w 0), .ref (w 2), .ref (w 7), .ref (w 8), .ref (w 9), .ref (w 10), .ref (w 11), .ref (w 12), .ref (w 13), .int v.nu, .int v.th, .int v.it, .int (nI v.fi), .int (nI v.me), .int v.mp])), ((w 0), .inr (2, [.ref (w 1), .int (nI v.n)])), ((w 1), aB g 600 v.b), ((w 2), .inr (1, [.ref (w 3), .ref (w 4), .ref (w 5), .ref (w 6), .int (nI v.lo)])), ((w 3), aJ g 4800 v.rw), ((w 4), aB g 600 v.bg), ((w 5), aB g 600 v.wt), ((w 6), aB g 600 v.dp), ((w 7), aI g 200 v.tg), ((w 8), aI g 200 v.ca), ((w 9), aI g 200 v.fs), ((w 10), aI g 200 v.sc), ((w 11), aI g 75 v.fa), ((w 12), aI g 75 v.ma), ((w 13), aI g 75 v.co)]) (wc := [(h0, .inr (3, [.ref (w 0), .ref (w 2), .ref (w 7), .ref (w 8), .ref (w 9), .ref (w 10), .ref (w 11), .ref (w 12), .ref (w 13), .int v.nu, .int v.th, .int v.it, .int (nI v.fi), .int (nI v.me), .int v.mp])), ((w 0), .inr (2, [.ref (w 1), .int (nI v.n)])), ((w 1), aB g 600 v.b), ((w 2), .inr (1, [.ref (w 3), .ref (w 4), .ref (w 5), .ref (w 6), .int (nI v.lo)])), ((w 3), aJ g 4800 v.rw), ((w 4), aB g 600 v.bg), ((w 5), aB g 600 v.wt), ((w 6), aB g 600 v.dp), ((w 7), aI g 200 v.tg), ((w 8), aI g 200 v.ca), ((w 9), aI g 200 v.fs), ((w 10), aI g 200 v.sc), ((w 11), aI g 75 v.fa), ((w 12), aI g 75 v.ma), ((w 13), aI g 75 v.co)]) (As := [.int x12]) (rest := []) E hB hK hZ (s_Layout_classTextAt l g s.heap.size h0 w v x12 hI) mc_Layout_classTextAt mi_Layout_classTextAt me_Layout_classTextAt wd_1206 hP hD hS hA [0, 1, 2, 3, 4, 5, 6, 7, 8, 9, 10, 11, 12, 13, 14] rfl (by decide) 0 rfl rfl rfl rfl rfl (by decide) rfl hl.1 rfl (Nat.le_of_ble_eq_true rfl) (by decide) d_Layout_textNumber_14) (fun r13 hr13 => ?_)
    exact tw_isret E trivial d_Layout_textNumber_17
set_option maxHeartbeats 4000000 in
set_option maxRecDepth 100000 in
theorem s_Layout_isSame (l : Launch) (g : tw_G) (sz : Nat) (h0 : Nat) (w : Nat → Nat) (v : LY) (a : Int32) (k : Int32) (hI : LI v) : Met l y_Layout_isSame [.code y_Layout_isSame b_Layout_isSame 7 (some .boolean)] ({ frames := 2, cells := 0, slots := 0, locals := 42 }) (tw_P g [.ref h0, .int a, .int k] [(h0, .inr (3, [.ref (w 0), .ref (w 2), .ref (w 7), .ref (w 8), .ref (w 9), .ref (w 10), .ref (w 11), .ref (w 12), .ref (w 13), .int v.nu, .int v.th, .int v.it, .int (nI v.fi), .int (nI v.me), .int v.mp])), ((w 0), .inr (2, [.ref (w 1), .int (nI v.n)])), ((w 1), aB g 600 v.b), ((w 2), .inr (1, [.ref (w 3), .ref (w 4), .ref (w 5), .ref (w 6), .int (nI v.lo)])), ((w 3), aJ g 4800 v.rw), ((w 4), aB g 600 v.bg), ((w 5), aB g 600 v.wt), ((w 6), aB g 600 v.dp), ((w 7), aI g 200 v.tg), ((w 8), aI g 200 v.ca), ((w 9), aI g 200 v.fs), ((w 10), aI g 200 v.sc), ((w 11), aI g 75 v.fa), ((w 12), aI g 75 v.ma), ((w 13), aI g 75 v.co)] sz) (vp_Si (fun r => r = 0 ∨ r = 1)) 0 0 (fun _ => False) := by
  refine tw_met (l := l) (g := g) (y := y_Layout_isSame) (cc := b_Layout_isSame) (maxL := 7) (ret := (some .boolean)) (rm := { frames := 2, cells := 0, slots := 0, locals := 42 }) (mc := 0) (ms := 0) (av := [.ref h0, .int a, .int k]) (ws := [(h0, .inr (3, [.ref (w 0), .ref (w 2), .ref (w 7), .ref (w 8), .ref (w 9), .ref (w 10), .ref (w 11), .ref (w 12), .ref (w 13), .int v.nu, .int v.th, .int v.it, .int (nI v.fi), .int (nI v.me), .int v.mp])), ((w 0), .inr (2, [.ref (w 1), .int (nI v.n)])), ((w 1), aB g 600 v.b), ((w 2), .inr (1, [.ref (w 3), .ref (w 4), .ref (w 5), .ref (w 6), .int (nI v.lo)])), ((w 3), aJ g 4800 v.rw), ((w 4), aB g 600 v.bg), ((w 5), aB g 600 v.wt), ((w 6), aB g 600 v.dp), ((w 7), aI g 200 v.tg), ((w 8), aI g 200 v.ca), ((w 9), aI g 200 v.fs), ((w 10), aI g 200 v.sc), ((w 11), aI g 75 v.fa), ((w 12), aI g 75 v.ma), ((w 13), aI g 75 v.co)]) (sz := sz) (Qc := fun _ => (vp_Si (fun r => r = 0 ∨ r = 1))) (free := fun _ _ => False) (by decide) (Nat.le_of_ble_eq_true rfl) ?_
  intro p e s m below meth c ls A E hB hK hZ hP hD hS hA hl
  obtain ⟨hx, hb, hml, hr, hown, hts, hlocks, hin⟩ := id E
  have hl : lv_has ls 7 [(0, .ref h0), (1, .int a), (2, .int k)] := hl
  refine lv_aload_n hx hb d_Layout_isSame_0 rfl (lv_at hl 0 rfl) ?_
  refine lv_iload_n hx hb d_Layout_isSame_1 rfl (lv_at hl 1 rfl) ?_
  refine tw_si (tw_runV (ws := [(h0, .inr (3, [.ref (w 0), .ref (w 2), .ref (w 7), .ref (w 8), .ref (w 9), .ref (w 10), .ref (w 11), .ref (w 12), .ref (w 13), .int v.nu, .int v.th, .int v.it, .int (nI v.fi), .int (nI v.me), .int v.mp])), ((w 0), .inr (2, [.ref (w 1), .int (nI v.n)])), ((w 1), aB g 600 v.b), ((w 2), .inr (1, [.ref (w 3), .ref (w 4), .ref (w 5), .ref (w 6), .int (nI v.lo)])), ((w 3), aJ g 4800 v.rw), ((w 4), aB g 600 v.bg), ((w 5), aB g 600 v.wt), ((w 6), aB g 600 v.dp), ((w 7), aI g 200 v.tg), ((w 8), aI g 200 v.ca), ((w 9), aI g 200 v.fs), ((w 10), aI g 200 v.sc), ((w 11), aI g 75 v.fa), ((w 12), aI g 75 v.ma), ((w 13), aI g 75 v.co)]) (wc := [(h0, .inr (3, [.ref (w 0), .ref (w 2), .ref (w 7), .ref (w 8), .ref (w 9), .ref (w 10), .ref (w 11), .ref (w 12), .ref (w 13), .int v.nu, .int v.th, .int v.it, .int (nI v.fi), .int (nI v.me), .int v.mp])), ((w 0), .inr (2, [.ref (w 1), .int (nI v.n)])), ((w 1), aB g 600 v.b), ((w 2), .inr (1, [.ref (w 3), .ref (w 4), .ref (w 5), .ref (w 6), .int (nI v.lo)])), ((w 3), aJ g 4800 v.rw), ((w 4), aB g 600 v.bg), ((w 5), aB g 600 v.wt), ((w 6), aB g 600 v.dp), ((w 7), aI g 200 v.tg), ((w 8), aI g 200 v.ca), ((w 9), aI g 200 v.fs), ((w 10), aI g 200 v.sc), ((w 11), aI g 75 v.fa), ((w 12), aI g 75 v.ma), ((w 13), aI g 75 v.co)]) (As := [.int a]) (rest := []) E hB hK hZ (s_Layout_firstOf l g s.heap.size h0 w v a hI) mc_Layout_firstOf mi_Layout_firstOf me_Layout_firstOf wd_459 hP hD hS hA [0, 1, 2, 3, 4, 5, 6, 7, 8, 9, 10, 11, 12, 13, 14] rfl (by decide) 0 rfl rfl rfl rfl rfl (by decide) rfl hl.1 rfl (Nat.le_of_ble_eq_true rfl) (by decide) d_Layout_isSame_2) (fun r1 hr1 => ?_)
  refine lv_istore_n hx hb d_Layout_isSame_5 rfl hl (by decide) rfl (fun ls hl => ?_)
  have hl : lv_has ls 7 [(3, .int r1), (0, .ref h0), (1, .int a), (2, .int k)] := hl
  refine lv_aload_n hx hb d_Layout_isSame_6 rfl (lv_at hl 1 rfl) ?_
  refine lv_iload_n hx hb d_Layout_isSame_7 rfl (lv_at hl 2 rfl) ?_
  refine tw_si (tw_runV (ws := [(h0, .inr (3, [.ref (w 0), .ref (w 2), .ref (w 7), .ref (w 8), .ref (w 9), .ref (w 10), .ref (w 11), .ref (w 12), .ref (w 13), .int v.nu, .int v.th, .int v.it, .int (nI v.fi), .int (nI v.me), .int v.mp])), ((w 0), .inr (2, [.ref (w 1), .int (nI v.n)])), ((w 1), aB g 600 v.b), ((w 2), .inr (1, [.ref (w 3), .ref (w 4), .ref (w 5), .ref (w 6), .int (nI v.lo)])), ((w 3), aJ g 4800 v.rw), ((w 4), aB g 600 v.bg), ((w 5), aB g 600 v.wt), ((w 6), aB g 600 v.dp), ((w 7), aI g 200 v.tg), ((w 8), aI g 200 v.ca), ((w 9), aI g 200 v.fs), ((w 10), aI g 200 v.sc), ((w 11), aI g 75 v.fa), ((w 12), aI g 75 v.ma), ((w 13), aI g 75 v.co)]) (wc := [(h0, .inr (3, [.ref (w 0), .ref (w 2), .ref (w 7), .ref (w 8), .ref (w 9), .ref (w 10), .ref (w 11), .ref (w 12), .ref (w 13), .int v.nu, .int v.th, .int v.it, .int (nI v.fi), .int (nI v.me), .int v.mp])), ((w 0), .inr (2, [.ref (w 1), .int (nI v.n)])), ((w 1), aB g 600 v.b), ((w 2), .inr (1, [.ref (w 3), .ref (w 4), .ref (w 5), .ref (w 6), .int (nI v.lo)])), ((w 3), aJ g 4800 v.rw), ((w 4), aB g 600 v.bg), ((w 5), aB g 600 v.wt), ((w 6), aB g 600 v.dp), ((w 7), aI g 200 v.tg), ((w 8), aI g 200 v.ca), ((w 9), aI g 200 v.fs), ((w 10), aI g 200 v.sc), ((w 11), aI g 75 v.fa), ((w 12), aI g 75 v.ma), ((w 13), aI g 75 v.co)]) (As := [.int a]) (rest := []) E hB hK hZ (s_Layout_textFrom l g s.heap.size h0 w v a hI) mc_Layout_textFrom mi_Layout_textFrom me_Layout_textFrom wd_642 hP hD hS hA [0, 1, 2, 3, 4, 5, 6, 7, 8, 9, 10, 11, 12, 13, 14] rfl (by decide) 0 rfl rfl rfl rfl rfl (by decide) rfl hl.1 rfl (Nat.le_of_ble_eq_true rfl) (by decide) d_Layout_isSame_8) (fun r2 hr2 => ?_)
  refine lv_istore hx hb d_Layout_isSame_11 hl (by decide) rfl (fun ls hl => ?_)
  have hl : lv_has ls 7 [(4, .int r2), (3, .int r1), (0, .ref h0), (1, .int a), (2, .int k)] := hl
  refine lv_aload_n hx hb d_Layout_isSame_13 rfl (lv_at hl 2 rfl) ?_
  refine lv_iload_n hx hb d_Layout_isSame_14 rfl (lv_at hl 4 rfl) ?_
  refine tw_si (tw_runV (ws := [(h0, .inr (3, [.ref (w 0), .ref (w 2), .ref (w 7), .ref (w 8), .ref (w 9), .ref (w 10), .ref (w 11), .ref (w 12), .ref (w 13), .int v.nu, .int v.th, .int v.it, .int (nI v.fi), .int (nI v.me), .int v.mp])), ((w 0), .inr (2, [.ref (w 1), .int (nI v.n)])), ((w 1), aB g 600 v.b), ((w 2), .inr (1, [.ref (w 3), .ref (w 4), .ref (w 5), .ref (w 6), .int (nI v.lo)])), ((w 3), aJ g 4800 v.rw), ((w 4), aB g 600 v.bg), ((w 5), aB g 600 v.wt), ((w 6), aB g 600 v.dp), ((w 7), aI g 200 v.tg), ((w 8), aI g 200 v.ca), ((w 9), aI g 200 v.fs), ((w 10), aI g 200 v.sc), ((w 11), aI g 75 v.fa), ((w 12), aI g 75 v.ma), ((w 13), aI g 75 v.co)]) (wc := [(h0, .inr (3, [.ref (w 0), .ref (w 2), .ref (w 7), .ref (w 8), .ref (w 9), .ref (w 10), .ref (w 11), .ref (w 12), .ref (w 13), .int v.nu, .int v.th, .int v.it, .int (nI v.fi), .int (nI v.me), .int v.mp])), ((w 0), .inr (2, [.ref (w 1), .int (nI v.n)])), ((w 1), aB g 600 v.b), ((w 2), .inr (1, [.ref (w 3), .ref (w 4), .ref (w 5), .ref (w 6), .int (nI v.lo)])), ((w 3), aJ g 4800 v.rw), ((w 4), aB g 600 v.bg), ((w 5), aB g 600 v.wt), ((w 6), aB g 600 v.dp), ((w 7), aI g 200 v.tg), ((w 8), aI g 200 v.ca), ((w 9), aI g 200 v.fs), ((w 10), aI g 200 v.sc), ((w 11), aI g 75 v.fa), ((w 12), aI g 75 v.ma), ((w 13), aI g 75 v.co)]) (As := [.int k]) (rest := []) E hB hK hZ (s_Layout_textFrom l g s.heap.size h0 w v k hI) mc_Layout_textFrom mi_Layout_textFrom me_Layout_textFrom wd_642 hP hD hS hA [0, 1, 2, 3, 4, 5, 6, 7, 8, 9, 10, 11, 12, 13, 14] rfl (by decide) 0 rfl rfl rfl rfl rfl (by decide) rfl hl.1 rfl (Nat.le_of_ble_eq_true rfl) (by decide) d_Layout_isSame_15) (fun r3 hr3 => ?_)
  refine lv_istore hx hb d_Layout_isSame_18 hl (by decide) rfl (fun ls hl => ?_)
  have hl : lv_has ls 7 [(5, .int r3), (4, .int r2), (3, .int r1), (0, .ref h0), (1, .int a), (2, .int k)] := hl
  refine lv_iload_n hx hb d_Layout_isSame_20 rfl (lv_at hl 2 rfl) ?_
  refine lv_aload_n hx hb d_Layout_isSame_21 rfl (lv_at hl 3 rfl) ?_
  refine lv_iload_n hx hb d_Layout_isSame_22 rfl (lv_at hl 5 rfl) ?_
  refine tw_si (tw_runV (ws := [(h0, .inr (3, [.ref (w 0), .ref (w 2), .ref (w 7), .ref (w 8), .ref (w 9), .ref (w 10), .ref (w 11), .ref (w 12), .ref (w 13), .int v.nu, .int v.th, .int v.it, .int (nI v.fi), .int (nI v.me), .int v.mp])), ((w 0), .inr (2, [.ref (w 1), .int (nI v.n)])), ((w 1), aB g 600 v.b), ((w 2), .inr (1, [.ref (w 3), .ref (w 4), .ref (w 5), .ref (w 6), .int (nI v.lo)])), ((w 3), aJ g 4800 v.rw), ((w 4), aB g 600 v.bg), ((w 5), aB g 600 v.wt), ((w 6), aB g 600 v.dp), ((w 7), aI g 200 v.tg), ((w 8), aI g 200 v.ca), ((w 9), aI g 200 v.fs), ((w 10), aI g 200 v.sc), ((w 11), aI g 75 v.fa), ((w 12), aI g 75 v.ma), ((w 13), aI g 75 v.co)]) (wc := [(h0, .inr (3, [.ref (w 0), .ref (w 2), .ref (w 7), .ref (w 8), .ref (w 9), .ref (w 10), .ref (w 11), .ref (w 12), .ref (w 13), .int v.nu, .int v.th, .int v.it, .int (nI v.fi), .int (nI v.me), .int v.mp])), ((w 0), .inr (2, [.ref (w 1), .int (nI v.n)])), ((w 1), aB g 600 v.b), ((w 2), .inr (1, [.ref (w 3), .ref (w 4), .ref (w 5), .ref (w 6), .int (nI v.lo)])), ((w 3), aJ g 4800 v.rw), ((w 4), aB g 600 v.bg), ((w 5), aB g 600 v.wt), ((w 6), aB g 600 v.dp), ((w 7), aI g 200 v.tg), ((w 8), aI g 200 v.ca), ((w 9), aI g 200 v.fs), ((w 10), aI g 200 v.sc), ((w 11), aI g 75 v.fa), ((w 12), aI g 75 v.ma), ((w 13), aI g 75 v.co)]) (As := [.int k]) (rest := [.int r1]) E hB hK hZ (s_Layout_firstOf l g s.heap.size h0 w v k hI) mc_Layout_firstOf mi_Layout_firstOf me_Layout_firstOf wd_459 hP hD hS hA [0, 1, 2, 3, 4, 5, 6, 7, 8, 9, 10, 11, 12, 13, 14] rfl (by decide) 0 rfl rfl rfl rfl rfl (by decide) rfl hl.1 rfl (Nat.le_of_ble_eq_true rfl) (by decide) d_Layout_isSame_23) (fun r4 hr4 => ?_)
  refine lv_icmp_eq (tgt := 31) hx hb d_Layout_isSame_26 (by decide) (fun h26 => ?_) (fun h26 => ?_)
  · refine lv_iconst (v := 0) hx hb d_Layout_isSame_31 (by decide) ?_
    refine lv_istore hx hb d_Layout_isSame_32 hl (by decide) rfl (fun ls hl => ?_)
    have hl : lv_has ls 7 [(6, .int 0), (5, .int r3), (4, .int r2), (3, .int r1), (0, .ref h0), (1, .int a), (2, .int k)] := hl
    have loop34 : ∀ (kq : Nat) (i : Int32) (ls : Array Slot) , ims i r1 = kq → lv_has ls 7 [(6, .int i), (5, .int r3), (4, .int r2), (3, .int r1), (0, .ref h0), (1, .int a), (2, .int k)] → W p l e ({ frames := 2, cells := 0, slots := 0, locals := 42 }) s m [.ref h0, .int a, .int k].toArray below meth c s.heap [] 0 0 (MQ below (vp_Si (fun r => r = 0 ∨ r = 1)) [.ref h0, .int a, .int k].toArray s 0 0 (fun _ => False)) (F0 m 34 ls []) := by
      intro kq
      induction kq using Nat.strongRecOn with
      | _ kq ih =>
        intro i ls hk  hl 
        refine lv_iload hx hb d_Layout_isSame_34 (lv_at hl 0 rfl) ?_
        refine lv_iload_n hx hb d_Layout_isSame_36 rfl (lv_at hl 3 rfl) ?_
        refine lv_icmp_ge (tgt := 75) hx hb d_Layout_isSame_37 (by decide) (fun h37 => ?_) (fun h37 => ?_)
        · refine lv_iconst (v := 1) hx hb d_Layout_isSame_75 (by decide) ?_
          exact tw_zsret E (by decide) (by decide) d_Layout_isSame_76
        · refine lv_aload_n hx hb d_Layout_isSame_40 rfl (lv_at hl 4 rfl) ?_
          refine va_get (D := g.1) (ci := 3) (v := .ref (w 0)) (C := R_Layout) (T := F_Layout) (N := 15) hx hb hts in_Layout hown hK hP 0 rfl rfl 0 (by decide) (hts _ wd_241) (fun _ h9 => h9) rfl d_Layout_isSame_41 ?_
          refine lv_iload hx hb d_Layout_isSame_44 (lv_at hl 2 rfl) ?_
          refine lv_iload hx hb d_Layout_isSame_46 (lv_at hl 0 rfl) ?_
          refine lv_iadd hx hb d_Layout_isSame_48 ?_
          obtain ⟨x5, ex5⟩ : ∃ z : Int32, r2 + i = z := ⟨_, rfl⟩
          refine tw_ri (e2 := x5) ex5 ?_
          refine tw_si (tw_runV (ws := [(h0, .inr (3, [.ref (w 0), .ref (w 2), .ref (w 7), .ref (w 8), .ref (w 9), .ref (w 10), .ref (w 11), .ref (w 12), .ref (w 13), .int v.nu, .int v.th, .int v.it, .int (nI v.fi), .int (nI v.me), .int v.mp])), ((w 0), .inr (2, [.ref (w 1), .int (nI v.n)])), ((w 1), aB g 600 v.b), ((w 2), .inr (1, [.ref (w 3), .ref (w 4), .ref (w 5), .ref (w 6), .int (nI v.lo)])), ((w 3), aJ g 4800 v.rw), ((w 4), aB g 600 v.bg), ((w 5), aB g 600 v.wt), ((w 6), aB g 600 v.dp), ((w 7), aI g 200 v.tg), ((w 8), aI g 200 v.ca), ((w 9), aI g 200 v.fs), ((w 10), aI g 200 v.sc), ((w 11), aI g 75 v.fa), ((w 12), aI g 75 v.ma), ((w 13), aI g 75 v.co)]) (wc := [((w 0), .inr (2, [.ref (w 1), .int (nI v.n)])), ((w 1), aB g 600 v.b)]) (As := [.int x5]) (rest := []) E hB hK hZ (c_Image_oneAt l g s.heap.size (w 0) (w 1) v.n v.b x5 hI.n) mc_Image_oneAt mi_Image_oneAt me_Image_oneAt wd_473 hP hD hS hA [1, 2] rfl (by decide) 0 rfl rfl rfl rfl rfl (by decide) rfl hl.1 rfl (Nat.le_of_ble_eq_true rfl) (by decide) d_Layout_isSame_49) (fun r6 hr6 => ?_)
          refine lv_aload_n hx hb d_Layout_isSame_52 rfl (lv_at hl 4 rfl) ?_
          refine va_get (D := g.1) (ci := 3) (v := .ref (w 0)) (C := R_Layout) (T := F_Layout) (N := 15) hx hb hts in_Layout hown hK hP 0 rfl rfl 0 (by decide) (hts _ wd_241) (fun _ h9 => h9) rfl d_Layout_isSame_53 ?_
          refine lv_iload hx hb d_Layout_isSame_56 (lv_at hl 1 rfl) ?_
          refine lv_iload hx hb d_Layout_isSame_58 (lv_at hl 0 rfl) ?_
          refine lv_iadd hx hb d_Layout_isSame_60 ?_
          obtain ⟨x7, ex7⟩ : ∃ z : Int32, r3 + i = z := ⟨_, rfl⟩
          refine tw_ri (e2 := x7) ex7 ?_
          refine tw_si (tw_runV (ws := [(h0, .inr (3, [.ref (w 0), .ref (w 2), .ref (w 7), .ref (w 8), .ref (w 9), .ref (w 10), .ref (w 11), .ref (w 12), .ref (w 13), .int v.nu, .int v.th, .int v.it, .int (nI v.fi), .int (nI v.me), .int v.mp])), ((w 0), .inr (2, [.ref (w 1), .int (nI v.n)])), ((w 1), aB g 600 v.b), ((w 2), .inr (1, [.ref (w 3), .ref (w 4), .ref (w 5), .ref (w 6), .int (nI v.lo)])), ((w 3), aJ g 4800 v.rw), ((w 4), aB g 600 v.bg), ((w 5), aB g 600 v.wt), ((w 6), aB g 600 v.dp), ((w 7), aI g 200 v.tg), ((w 8), aI g 200 v.ca), ((w 9), aI g 200 v.fs), ((w 10), aI g 200 v.sc), ((w 11), aI g 75 v.fa), ((w 12), aI g 75 v.ma), ((w 13), aI g 75 v.co)]) (wc := [((w 0), .inr (2, [.ref (w 1), .int (nI v.n)])), ((w 1), aB g 600 v.b)]) (As := [.int x7]) (rest := [.int r6]) E hB hK hZ (c_Image_oneAt l g s.heap.size (w 0) (w 1) v.n v.b x7 hI.n) mc_Image_oneAt mi_Image_oneAt me_Image_oneAt wd_473 hP hD hS hA [1, 2] rfl (by decide) 0 rfl rfl rfl rfl rfl (by decide) rfl hl.1 rfl (Nat.le_of_ble_eq_true rfl) (by decide) d_Layout_isSame_61) (fun r8 hr8 => ?_)
          refine lv_icmp_eq (tgt := 69) hx hb d_Layout_isSame_64 (by decide) (fun h64 => ?_) (fun h64 => ?_)
          · refine lv_iinc (k := 0) (v := i + 1) hx hb d_Layout_isSame_69 hl rfl rfl (by decide) rfl (fun ls hl => ?_)
            have hl : lv_has ls 7 [(6, .int (i + 1)), (5, .int r3), (4, .int r2), (3, .int r1), (0, .ref h0), (1, .int a), (2, .int k)] := hl
            refine lv_goto (tgt := 34) hx hb d_Layout_isSame_72 (by decide) ?_
            exact ih _ (hk ▸ ims_dec h37) (i + 1) ls rfl  (lv_sub hl [0, 1, 2, 3, 4, 5, 6] rfl)
          · refine lv_iconst (v := 0) hx hb d_Layout_isSame_67 (by decide) ?_
            exact tw_zsret E (by decide) (by decide) d_Layout_isSame_68
    exact loop34 _ 0 ls rfl  (hl)
  · refine lv_iconst (v := 0) hx hb d_Layout_isSame_29 (by decide) ?_
    exact tw_zsret E (by decide) (by decide) d_Layout_isSame_30
set_option maxHeartbeats 4000000 in
set_option maxRecDepth 100000 in
theorem s_Grammar_isNameLetter (l : Launch) (g : tw_G) (sz : Nat) (a : Int32) : Met l y_Grammar_isNameLetter [.code y_Grammar_isNameLetter b_Grammar_isNameLetter 1 (some .boolean)] ({ frames := 0, cells := 0, slots := 0, locals := 0 }) (tw_P g [.int a] [] sz) (vp_Si (fun r => r = 0 ∨ r = 1)) 0 0 (fun _ => False) := by
  refine tw_met (l := l) (g := g) (y := y_Grammar_isNameLetter) (cc := b_Grammar_isNameLetter) (maxL := 1) (ret := (some .boolean)) (rm := { frames := 0, cells := 0, slots := 0, locals := 0 }) (mc := 0) (ms := 0) (av := [.int a]) (ws := []) (sz := sz) (Qc := fun _ => (vp_Si (fun r => r = 0 ∨ r = 1))) (free := fun _ _ => False) (by decide) (Nat.le_of_ble_eq_true rfl) ?_
  intro p e s m below meth c ls A E hB hK hZ hP hD hS hA hl
  obtain ⟨hx, hb, hml, hr, hown, hts, hlocks, hin⟩ := id E
  have hl : lv_has ls 1 [(0, .int a)] := hl
  refine lv_iload_n hx hb d_Grammar_isNameLetter_0 rfl (lv_at hl 0 rfl) ?_
  have hsw : _ ∈ ([59, 61] : List Int) := sw_lk [59, 61] [(46, 59), (47, 59), (59, 59), (60, 59), (62, 59), (91, 59)] 61 (a : Int32).toInt (by decide) (by decide)
  simp only [List.mem_cons, List.not_mem_nil, or_false] at hsw
  rcases hsw with hsw | hsw
  · refine lv_lookup (tgt := 60) (off := 59) hx hb d_Grammar_isNameLetter_1 (by decide) hsw (by decide) ?_
    refine lv_iconst (v := 0) hx hb d_Grammar_isNameLetter_60 (by decide) ?_
    exact tw_zsret E (by decide) (by decide) d_Grammar_isNameLetter_61
  · refine lv_lookup (tgt := 62) (off := 61) hx hb d_Grammar_isNameLetter_1 (by decide) hsw (by decide) ?_
    refine lv_iload_n hx hb d_Grammar_isNameLetter_62 rfl (lv_at hl 0 rfl) ?_
    refine lv_bipush (v := 32) hx hb d_Grammar_isNameLetter_63 (by decide) ?_
    refine lv_icmp_le (tgt := 72) hx hb d_Grammar_isNameLetter_65 (by decide) (fun h65 => ?_) (fun h65 => ?_)
    · refine lv_iconst (v := 0) hx hb d_Grammar_isNameLetter_72 (by decide) ?_
      exact tw_zsret E (by decide) (by decide) d_Grammar_isNameLetter_73
    · refine lv_iconst (v := 1) hx hb d_Grammar_isNameLetter_68 (by decide) ?_
      refine lv_goto (tgt := 73) hx hb d_Grammar_isNameLetter_69 (by decide) ?_
      exact tw_zsret E (by decide) (by decide) d_Grammar_isNameLetter_73
set_option maxHeartbeats 4000000 in
set_option maxRecDepth 100000 in
theorem s_Grammar_kindOf (l : Launch) (g : tw_G) (sz : Nat) (a : Int32) : Met l y_Grammar_kindOf [.code y_Grammar_kindOf b_Grammar_kindOf 1 (some .int)] ({ frames := 0, cells := 0, slots := 0, locals := 0 }) (tw_P g [.int a] [] sz) (vp_Si (fun r => r = 0 ∨ r = 1 ∨ r = 2 ∨ r = 4)) 0 0 (fun _ => False) := by
  refine tw_met (l := l) (g := g) (y := y_Grammar_kindOf) (cc := b_Grammar_kindOf) (maxL := 1) (ret := (some .int)) (rm := { frames := 0, cells := 0, slots := 0, locals := 0 }) (mc := 0) (ms := 0) (av := [.int a]) (ws := []) (sz := sz) (Qc := fun _ => (vp_Si (fun r => r = 0 ∨ r = 1 ∨ r = 2 ∨ r = 4))) (free := fun _ _ => False) (by decide) (Nat.le_of_ble_eq_true rfl) ?_
  intro p e s m below meth c ls A E hB hK hZ hP hD hS hA hl
  obtain ⟨hx, hb, hml, hr, hown, hts, hlocks, hin⟩ := id E
  have hl : lv_has ls 1 [(0, .int a)] := hl
  refine lv_iload_n hx hb d_Grammar_kindOf_0 rfl (lv_at hl 0 rfl) ?_
  by_cases hsw : (a : Int32).toInt < 66 ∨ 91 < (a : Int32).toInt
  · refine lv_tableOut (tgt := 126) hx hb d_Grammar_kindOf_1 hsw (by decide) ?_
    refine lv_iconst (v := 0) hx hb d_Grammar_kindOf_126 (by decide) ?_
    exact tw_isret E (by decide) d_Grammar_kindOf_127
  · obtain ⟨off, hof, hsx⟩ := sw_tb [119, 121, 123, 125] #[119, 119, 125, 125, 125, 125, 125, 119, 121, 125, 123, 125, 125, 125, 125, 125, 125, 119, 125, 125, 125, 125, 125, 125, 119, 123] 66 91 (a : Int32).toInt (fun h => hsw (Or.inl h)) (fun h => hsw (Or.inr h)) (by decide) (by decide)
    simp only [List.mem_cons, List.not_mem_nil, or_false] at hof
    rcases hof with rfl | rfl | rfl | rfl
    · refine lv_tableIn (tgt := 120) (off := 119) hx hb d_Grammar_kindOf_1 (fun h => hsw (Or.inl h)) (fun h => hsw (Or.inr h)) hsx (by decide) ?_
      refine lv_iconst (v := 1) hx hb d_Grammar_kindOf_120 (by decide) ?_
      exact tw_isret E (by decide) d_Grammar_kindOf_121
    · refine lv_tableIn (tgt := 122) (off := 121) hx hb d_Grammar_kindOf_1 (fun h => hsw (Or.inl h)) (fun h => hsw (Or.inr h)) hsx (by decide) ?_
      refine lv_iconst (v := 2) hx hb d_Grammar_kindOf_122 (by decide) ?_
      exact tw_isret E (by decide) d_Grammar_kindOf_123
    · refine lv_tableIn (tgt := 124) (off := 123) hx hb d_Grammar_kindOf_1 (fun h => hsw (Or.inl h)) (fun h => hsw (Or.inr h)) hsx (by decide) ?_
      refine lv_iconst (v := 4) hx hb d_Grammar_kindOf_124 (by decide) ?_
      exact tw_isret E (by decide) d_Grammar_kindOf_125
    · refine lv_tableIn (tgt := 126) (off := 125) hx hb d_Grammar_kindOf_1 (fun h => hsw (Or.inl h)) (fun h => hsw (Or.inr h)) hsx (by decide) ?_
      refine lv_iconst (v := 0) hx hb d_Grammar_kindOf_126 (by decide) ?_
      exact tw_isret E (by decide) d_Grammar_kindOf_127
set_option maxHeartbeats 4000000 in
set_option maxRecDepth 100000 in
theorem s_Grammar_isName (l : Launch) (g : tw_G) (sz : Nat) (h0 r n : Nat) (f : Nat → Int32) (a : Int32) (b : Int32) (hn : n ≤ 600) : Met l y_Grammar_isName [.code y_Grammar_isName b_Grammar_isName 4 (some .boolean)] ({ frames := 1, cells := 0, slots := 0, locals := 21 }) (tw_P g [.ref h0, .int a, .int b] [(h0, .inr (2, [.ref r, .int (nI n)])), (r, aB g 600 f)] sz) (vp_Si (fun r => r = 0 ∨ r = 1)) 0 0 (fun _ => False) := by
  refine tw_met (l := l) (g := g) (y := y_Grammar_isName) (cc := b_Grammar_isName) (maxL := 4) (ret := (some .boolean)) (rm := { frames := 1, cells := 0, slots := 0, locals := 21 }) (mc := 0) (ms := 0) (av := [.ref h0, .int a, .int b]) (ws := [(h0, .inr (2, [.ref r, .int (nI n)])), (r, aB g 600 f)]) (sz := sz) (Qc := fun _ => (vp_Si (fun r => r = 0 ∨ r = 1))) (free := fun _ _ => False) (by decide) (Nat.le_of_ble_eq_true rfl) ?_
  intro p e s m below meth c ls A E hB hK hZ hP hD hS hA hl
  obtain ⟨hx, hb, hml, hr, hown, hts, hlocks, hin⟩ := id E
  have hl : lv_has ls 4 [(0, .ref h0), (1, .int a), (2, .int b)] := hl
  refine lv_iload_n hx hb d_Grammar_isName_0 rfl (lv_at hl 1 rfl) ?_
  refine lv_istore_n hx hb d_Grammar_isName_1 rfl hl (by decide) rfl (fun ls hl => ?_)
  have hl : lv_has ls 4 [(3, .int a), (0, .ref h0), (1, .int a), (2, .int b)] := hl
  have loop2 : ∀ (kq : Nat) (k : Int32) (ls : Array Slot) , ims k b = kq → lv_has ls 4 [(3, .int k), (0, .ref h0), (1, .int a), (2, .int b)] → W p l e ({ frames := 1, cells := 0, slots := 0, locals := 21 }) s m [.ref h0, .int a, .int b].toArray below meth c s.heap [] 0 0 (MQ below (vp_Si (fun r => r = 0 ∨ r = 1)) [.ref h0, .int a, .int b].toArray s 0 0 (fun _ => False)) (F0 m 2 ls []) := by
    intro kq
    induction kq using Nat.strongRecOn with
    | _ kq ih =>
      intro k ls hk  hl 
      refine lv_iload_n hx hb d_Grammar_isName_2 rfl (lv_at hl 0 rfl) ?_
      refine lv_iload_n hx hb d_Grammar_isName_3 rfl (lv_at hl 3 rfl) ?_
      refine lv_icmp_ge (tgt := 26) hx hb d_Grammar_isName_4 (by decide) (fun h4 => ?_) (fun h4 => ?_)
      · refine lv_iload_n hx hb d_Grammar_isName_26 rfl (lv_at hl 3 rfl) ?_
        refine lv_iload_n hx hb d_Grammar_isName_27 rfl (lv_at hl 2 rfl) ?_
        refine lv_icmp_le (tgt := 35) hx hb d_Grammar_isName_28 (by decide) (fun h28 => ?_) (fun h28 => ?_)
        · refine lv_iconst (v := 0) hx hb d_Grammar_isName_35 (by decide) ?_
          exact tw_zsret E (by decide) (by decide) d_Grammar_isName_36
        · refine lv_iconst (v := 1) hx hb d_Grammar_isName_31 (by decide) ?_
          refine lv_goto (tgt := 36) hx hb d_Grammar_isName_32 (by decide) ?_
          exact tw_zsret E (by decide) (by decide) d_Grammar_isName_36
      · refine lv_aload_n hx hb d_Grammar_isName_7 rfl (lv_at hl 1 rfl) ?_
        refine lv_iload_n hx hb d_Grammar_isName_8 rfl (lv_at hl 0 rfl) ?_
        refine tw_si (tw_runV (ws := [(h0, .inr (2, [.ref r, .int (nI n)])), (r, aB g 600 f)]) (wc := [(h0, .inr (2, [.ref r, .int (nI n)])), (r, aB g 600 f)]) (As := [.int k]) (rest := []) E hB hK hZ (c_Image_oneAt l g s.heap.size h0 r n f k hn) mc_Image_oneAt mi_Image_oneAt me_Image_oneAt wd_553 hP hD hS hA [0, 1] rfl (by decide) 0 rfl rfl rfl rfl rfl (by decide) rfl hl.1 rfl (Nat.le_of_ble_eq_true rfl) (by decide) d_Grammar_isName_9) (fun r1 hr1 => ?_)
        refine tw_si (tw_runS (ws := [(h0, .inr (2, [.ref r, .int (nI n)])), (r, aB g 600 f)]) (wc := []) (As := [.int r1]) (rest := []) E hB hK hZ (s_Grammar_isNameLetter l g s.heap.size r1) mc_Grammar_isNameLetter ms_Grammar_isNameLetter wd_554 hP hD hS hA [] rfl (by decide) rfl rfl (by decide) rfl hl.1 rfl (Nat.le_of_ble_eq_true rfl) (by decide) d_Grammar_isName_12) (fun r2 hr2 => ?_)
        refine lv_if_ne (tgt := 20) hx hb d_Grammar_isName_15 (by decide) (fun h15 => ?_) (fun h15 => ?_)
        · refine lv_iinc (k := 0) (v := k + 1) hx hb d_Grammar_isName_20 hl rfl rfl (by decide) rfl (fun ls hl => ?_)
          have hl : lv_has ls 4 [(3, .int (k + 1)), (0, .ref h0), (1, .int a), (2, .int b)] := hl
          refine lv_goto (tgt := 2) hx hb d_Grammar_isName_23 (by decide) ?_
          exact ih _ (hk ▸ ims_dec h4) (k + 1) ls rfl  (lv_sub hl [0, 1, 2, 3] rfl)
        · refine lv_iconst (v := 0) hx hb d_Grammar_isName_18 (by decide) ?_
          exact tw_zsret E (by decide) (by decide) d_Grammar_isName_19
  exact loop2 _ a ls rfl  (hl)
set_option maxHeartbeats 4000000 in
set_option maxRecDepth 100000 in
theorem s_Grammar_behindNames (l : Launch) (g : tw_G) (sz : Nat) (h0 r n : Nat) (f : Nat → Int32) (a : Int32) (b : Int32) (hn : n ≤ 600) : Met l y_Grammar_behindNames [.code y_Grammar_behindNames b_Grammar_behindNames 6 (some .int)] ({ frames := 1, cells := 0, slots := 0, locals := 21 }) (tw_P g [.ref h0, .int a, .int b] [(h0, .inr (2, [.ref r, .int (nI n)])), (r, aB g 600 f)] sz) (vp_Si (fun _ => True)) 0 0 (fun _ => False) := by
  refine tw_met (l := l) (g := g) (y := y_Grammar_behindNames) (cc := b_Grammar_behindNames) (maxL := 6) (ret := (some .int)) (rm := { frames := 1, cells := 0, slots := 0, locals := 21 }) (mc := 0) (ms := 0) (av := [.ref h0, .int a, .int b]) (ws := [(h0, .inr (2, [.ref r, .int (nI n)])), (r, aB g 600 f)]) (sz := sz) (Qc := fun _ => (vp_Si (fun _ => True))) (free := fun _ _ => False) (by decide) (Nat.le_of_ble_eq_true rfl) ?_
  intro p e s m below meth c ls A E hB hK hZ hP hD hS hA hl
  obtain ⟨hx, hb, hml, hr, hown, hts, hlocks, hin⟩ := id E
  have hl : lv_has ls 6 [(0, .ref h0), (1, .int a), (2, .int b)] := hl
  refine lv_iload_n hx hb d_Grammar_behindNames_0 rfl (lv_at hl 1 rfl) ?_
  refine lv_istore_n hx hb d_Grammar_behindNames_1 rfl hl (by decide) rfl (fun ls hl => ?_)
  have hl : lv_has ls 6 [(3, .int a), (0, .ref h0), (1, .int a), (2, .int b)] := hl
  refine lv_iload_n hx hb d_Grammar_behindNames_2 rfl (lv_at hl 2 rfl) ?_
  refine lv_istore hx hb d_Grammar_behindNames_3 hl (by decide) rfl (fun ls hl => ?_)
  have hl : lv_has ls 6 [(4, .int a), (3, .int a), (0, .ref h0), (1, .int a), (2, .int b)] := hl
  have loop5 : ∀ (kq : Nat) (bg : Int32) (k : Int32) (ls : Array Slot) , ims k b = kq → lv_has ls 6 [(4, .int k), (3, .int bg), (0, .ref h0), (1, .int a), (2, .int b)] → W p l e ({ frames := 1, cells := 0, slots := 0, locals := 21 }) s m [.ref h0, .int a, .int b].toArray below meth c s.heap [] 0 0 (MQ below (vp_Si (fun _ => True)) [.ref h0, .int a, .int b].toArray s 0 0 (fun _ => False)) (F0 m 5 ls []) := by
    intro kq
    induction kq using Nat.strongRecOn with
    | _ kq ih =>
      intro bg k ls hk  hl 
      refine lv_iload hx hb d_Grammar_behindNames_5 (lv_at hl 0 rfl) ?_
      refine lv_iload_n hx hb d_Grammar_behindNames_7 rfl (lv_at hl 4 rfl) ?_
      refine lv_icmp_ge (tgt := 57) hx hb d_Grammar_behindNames_8 (by decide) (fun h8 => ?_) (fun h8 => ?_)
      · refine lv_iload hx hb d_Grammar_behindNames_57 (lv_at hl 0 rfl) ?_
        refine lv_iload_n hx hb d_Grammar_behindNames_59 rfl (lv_at hl 1 rfl) ?_
        refine lv_icmp_le (tgt := 68) hx hb d_Grammar_behindNames_60 (by decide) (fun h60 => ?_) (fun h60 => ?_)
        · refine lv_iconst (v := (-1)) hx hb d_Grammar_behindNames_68 (by decide) ?_
          exact tw_isret E trivial d_Grammar_behindNames_69
        · refine lv_iload hx hb d_Grammar_behindNames_63 (lv_at hl 0 rfl) ?_
          refine lv_goto (tgt := 69) hx hb d_Grammar_behindNames_65 (by decide) ?_
          exact tw_isret E trivial d_Grammar_behindNames_69
      · refine lv_aload_n hx hb d_Grammar_behindNames_11 rfl (lv_at hl 2 rfl) ?_
        refine lv_iload hx hb d_Grammar_behindNames_12 (lv_at hl 0 rfl) ?_
        refine tw_si (tw_runV (ws := [(h0, .inr (2, [.ref r, .int (nI n)])), (r, aB g 600 f)]) (wc := [(h0, .inr (2, [.ref r, .int (nI n)])), (r, aB g 600 f)]) (As := [.int k]) (rest := []) E hB hK hZ (c_Image_oneAt l g s.heap.size h0 r n f k hn) mc_Image_oneAt mi_Image_oneAt me_Image_oneAt wd_553 hP hD hS hA [0, 1] rfl (by decide) 0 rfl rfl rfl rfl rfl (by decide) rfl hl.1 rfl (Nat.le_of_ble_eq_true rfl) (by decide) d_Grammar_behindNames_14) (fun r1 hr1 => ?_)
        refine lv_istore hx hb d_Grammar_behindNames_17 hl (by decide) rfl (fun ls hl => ?_)
        have hl : lv_has ls 6 [(5, .int r1), (4, .int k), (3, .int bg), (0, .ref h0), (1, .int a), (2, .int b)] := hl
        refine lv_iload hx hb d_Grammar_behindNames_19 (lv_at hl 0 rfl) ?_
        refine lv_bipush (v := 47) hx hb d_Grammar_behindNames_21 (by decide) ?_
        refine lv_icmp_ne (tgt := 40) hx hb d_Grammar_behindNames_23 (by decide) (fun h23 => ?_) (fun h23 => ?_)
        · refine lv_iload hx hb d_Grammar_behindNames_40 (lv_at hl 0 rfl) ?_
          refine tw_si (tw_runS (ws := [(h0, .inr (2, [.ref r, .int (nI n)])), (r, aB g 600 f)]) (wc := []) (As := [.int r1]) (rest := []) E hB hK hZ (s_Grammar_isNameLetter l g s.heap.size r1) mc_Grammar_isNameLetter ms_Grammar_isNameLetter wd_554 hP hD hS hA [] rfl (by decide) rfl rfl (by decide) rfl hl.1 rfl (Nat.le_of_ble_eq_true rfl) (by decide) d_Grammar_behindNames_42) (fun r2 hr2 => ?_)
          refine lv_if_ne (tgt := 51) hx hb d_Grammar_behindNames_45 (by decide) (fun h45 => ?_) (fun h45 => ?_)
          · refine lv_iinc (k := 1) (v := k + 1) hx hb d_Grammar_behindNames_51 hl rfl rfl (by decide) rfl (fun ls hl => ?_)
            have hl : lv_has ls 6 [(4, .int (k + 1)), (5, .int r1), (3, .int bg), (0, .ref h0), (1, .int a), (2, .int b)] := hl
            refine lv_goto (tgt := 5) hx hb d_Grammar_behindNames_54 (by decide) ?_
            exact ih _ (hk ▸ ims_dec h8) bg (k + 1) ls rfl  (lv_sub hl [0, 2, 3, 4, 5] rfl)
          · refine lv_goto (tgt := 57) hx hb d_Grammar_behindNames_48 (by decide) ?_
            refine lv_iload hx hb d_Grammar_behindNames_57 (lv_at hl 1 rfl) ?_
            refine lv_iload_n hx hb d_Grammar_behindNames_59 rfl (lv_at hl 2 rfl) ?_
            refine lv_icmp_le (tgt := 68) hx hb d_Grammar_behindNames_60 (by decide) (fun h60 => ?_) (fun h60 => ?_)
            · refine lv_iconst (v := (-1)) hx hb d_Grammar_behindNames_68 (by decide) ?_
              exact tw_isret E trivial d_Grammar_behindNames_69
            · refine lv_iload hx hb d_Grammar_behindNames_63 (lv_at hl 1 rfl) ?_
              refine lv_goto (tgt := 69) hx hb d_Grammar_behindNames_65 (by decide) ?_
              exact tw_isret E trivial d_Grammar_behindNames_69
        · refine lv_iload hx hb d_Grammar_behindNames_26 (lv_at hl 1 rfl) ?_
          refine lv_iload_n hx hb d_Grammar_behindNames_28 rfl (lv_at hl 2 rfl) ?_
          refine lv_icmp_le (tgt := 40) hx hb d_Grammar_behindNames_29 (by decide) (fun h29 => ?_) (fun h29 => ?_)
          · refine lv_iload hx hb d_Grammar_behindNames_40 (lv_at hl 0 rfl) ?_
            refine tw_si (tw_runS (ws := [(h0, .inr (2, [.ref r, .int (nI n)])), (r, aB g 600 f)]) (wc := []) (As := [.int r1]) (rest := []) E hB hK hZ (s_Grammar_isNameLetter l g s.heap.size r1) mc_Grammar_isNameLetter ms_Grammar_isNameLetter wd_554 hP hD hS hA [] rfl (by decide) rfl rfl (by decide) rfl hl.1 rfl (Nat.le_of_ble_eq_true rfl) (by decide) d_Grammar_behindNames_42) (fun r3 hr3 => ?_)
            refine lv_if_ne (tgt := 51) hx hb d_Grammar_behindNames_45 (by decide) (fun h45 => ?_) (fun h45 => ?_)
            · refine lv_iinc (k := 1) (v := k + 1) hx hb d_Grammar_behindNames_51 hl rfl rfl (by decide) rfl (fun ls hl => ?_)
              have hl : lv_has ls 6 [(4, .int (k + 1)), (5, .int r1), (3, .int bg), (0, .ref h0), (1, .int a), (2, .int b)] := hl
              refine lv_goto (tgt := 5) hx hb d_Grammar_behindNames_54 (by decide) ?_
              exact ih _ (hk ▸ ims_dec h8) bg (k + 1) ls rfl  (lv_sub hl [0, 2, 3, 4, 5] rfl)
            · refine lv_goto (tgt := 57) hx hb d_Grammar_behindNames_48 (by decide) ?_
              refine lv_iload hx hb d_Grammar_behindNames_57 (lv_at hl 1 rfl) ?_
              refine lv_iload_n hx hb d_Grammar_behindNames_59 rfl (lv_at hl 2 rfl) ?_
              refine lv_icmp_le (tgt := 68) hx hb d_Grammar_behindNames_60 (by decide) (fun h60 => ?_) (fun h60 => ?_)
              · refine lv_iconst (v := (-1)) hx hb d_Grammar_behindNames_68 (by decide) ?_
                exact tw_isret E trivial d_Grammar_behindNames_69
              · refine lv_iload hx hb d_Grammar_behindNames_63 (lv_at hl 1 rfl) ?_
                refine lv_goto (tgt := 69) hx hb d_Grammar_behindNames_65 (by decide) ?_
                exact tw_isret E trivial d_Grammar_behindNames_69
          · refine lv_iload hx hb d_Grammar_behindNames_32 (lv_at hl 1 rfl) ?_
            refine lv_iconst (v := 1) hx hb d_Grammar_behindNames_34 (by decide) ?_
            refine lv_iadd hx hb d_Grammar_behindNames_35 ?_
            obtain ⟨x4, ex4⟩ : ∃ z : Int32, k + 1 = z := ⟨_, rfl⟩
            refine tw_ri (e2 := x4) ex4 ?_
            refine lv_istore_n hx hb d_Grammar_behindNames_36 rfl hl (by decide) rfl (fun ls hl => ?_)
            have hl : lv_has ls 6 [(3, .int x4), (5, .int r1), (4, .int k), (0, .ref h0), (1, .int a), (2, .int b)] := hl
            refine lv_goto (tgt := 51) hx hb d_Grammar_behindNames_37 (by decide) ?_
            refine lv_iinc (k := 2) (v := k + 1) hx hb d_Grammar_behindNames_51 hl rfl rfl (by decide) rfl (fun ls hl => ?_)
            have hl : lv_has ls 6 [(4, .int (k + 1)), (3, .int x4), (5, .int r1), (0, .ref h0), (1, .int a), (2, .int b)] := hl
            refine lv_goto (tgt := 5) hx hb d_Grammar_behindNames_54 (by decide) ?_
            exact ih _ (hk ▸ ims_dec h8) x4 (k + 1) ls rfl  (lv_sub hl [0, 1, 3, 4, 5] rfl)
  exact loop5 _ a a ls rfl  (hl)
set_option maxHeartbeats 4000000 in
set_option maxRecDepth 100000 in
theorem s_Grammar_behindType (l : Launch) (g : tw_G) (sz : Nat) (h0 r n : Nat) (f : Nat → Int32) (a : Int32) (b : Int32) (hn : n ≤ 600) : Met l y_Grammar_behindType [.code y_Grammar_behindType b_Grammar_behindType 7 (some .int)] ({ frames := 2, cells := 0, slots := 0, locals := 46 }) (tw_P g [.ref h0, .int a, .int b] [(h0, .inr (2, [.ref r, .int (nI n)])), (r, aB g 600 f)] sz) (vp_Si (fun _ => True)) 0 0 (fun _ => False) := by
  refine tw_met (l := l) (g := g) (y := y_Grammar_behindType) (cc := b_Grammar_behindType) (maxL := 7) (ret := (some .int)) (rm := { frames := 2, cells := 0, slots := 0, locals := 46 }) (mc := 0) (ms := 0) (av := [.ref h0, .int a, .int b]) (ws := [(h0, .inr (2, [.ref r, .int (nI n)])), (r, aB g 600 f)]) (sz := sz) (Qc := fun _ => (vp_Si (fun _ => True))) (free := fun _ _ => False) (by decide) (Nat.le_of_ble_eq_true rfl) ?_
  intro p e s m below meth c ls A E hB hK hZ hP hD hS hA hl
  obtain ⟨hx, hb, hml, hr, hown, hts, hlocks, hin⟩ := id E
  have hl : lv_has ls 7 [(0, .ref h0), (1, .int a), (2, .int b)] := hl
  refine lv_iload_n hx hb d_Grammar_behindType_0 rfl (lv_at hl 1 rfl) ?_
  refine lv_istore_n hx hb d_Grammar_behindType_1 rfl hl (by decide) rfl (fun ls hl => ?_)
  have hl : lv_has ls 7 [(3, .int a), (0, .ref h0), (1, .int a), (2, .int b)] := hl
  have loop2 : ∀ (kq : Nat) (k : Int32) (ls : Array Slot) , ims k b = kq → lv_has ls 7 [(3, .int k), (0, .ref h0), (1, .int a), (2, .int b)] → W p l e ({ frames := 2, cells := 0, slots := 0, locals := 46 }) s m [.ref h0, .int a, .int b].toArray below meth c s.heap [] 0 0 (MQ below (vp_Si (fun _ => True)) [.ref h0, .int a, .int b].toArray s 0 0 (fun _ => False)) (F0 m 2 ls []) := by
    intro kq
    induction kq using Nat.strongRecOn with
    | _ kq ih =>
      intro k ls hk  hl 
      refine lv_iload_n hx hb d_Grammar_behindType_2 rfl (lv_at hl 0 rfl) ?_
      refine lv_iload_n hx hb d_Grammar_behindType_3 rfl (lv_at hl 3 rfl) ?_
      refine lv_icmp_ge (tgt := 23) hx hb d_Grammar_behindType_4 (by decide) (fun h4 => ?_) (fun h4 => ?_)
      · refine lv_iload_n hx hb d_Grammar_behindType_23 rfl (lv_at hl 0 rfl) ?_
        refine lv_iload_n hx hb d_Grammar_behindType_24 rfl (lv_at hl 3 rfl) ?_
        refine lv_icmp_lt (tgt := 30) hx hb d_Grammar_behindType_25 (by decide) (fun h25 => ?_) (fun h25 => ?_)
        · refine lv_aload_n hx hb d_Grammar_behindType_30 rfl (lv_at hl 1 rfl) ?_
          refine lv_iload_n hx hb d_Grammar_behindType_31 rfl (lv_at hl 0 rfl) ?_
          refine tw_si (tw_runV (ws := [(h0, .inr (2, [.ref r, .int (nI n)])), (r, aB g 600 f)]) (wc := [(h0, .inr (2, [.ref r, .int (nI n)])), (r, aB g 600 f)]) (As := [.int k]) (rest := []) E hB hK hZ (c_Image_oneAt l g s.heap.size h0 r n f k hn) mc_Image_oneAt mi_Image_oneAt me_Image_oneAt wd_553 hP hD hS hA [0, 1] rfl (by decide) 0 rfl rfl rfl rfl rfl (by decide) rfl hl.1 rfl (Nat.le_of_ble_eq_true rfl) (by decide) d_Grammar_behindType_32) (fun r1 hr1 => ?_)
          refine lv_istore hx hb d_Grammar_behindType_35 hl (by decide) rfl (fun ls hl => ?_)
          have hl : lv_has ls 7 [(4, .int r1), (3, .int k), (0, .ref h0), (1, .int a), (2, .int b)] := hl
          refine lv_iload hx hb d_Grammar_behindType_37 (lv_at hl 0 rfl) ?_
          refine lv_bipush (v := 76) hx hb d_Grammar_behindType_39 (by decide) ?_
          refine lv_icmp_ne (tgt := 98) hx hb d_Grammar_behindType_41 (by decide) (fun h41 => ?_) (fun h41 => ?_)
          · refine lv_iload hx hb d_Grammar_behindType_98 (lv_at hl 0 rfl) ?_
            refine lv_bipush (v := 68) hx hb d_Grammar_behindType_100 (by decide) ?_
            refine lv_icmp_eq (tgt := 128) hx hb d_Grammar_behindType_102 (by decide) (fun h102 => ?_) (fun h102 => ?_)
            · refine lv_iload_n hx hb d_Grammar_behindType_128 rfl (lv_at hl 1 rfl) ?_
              refine lv_iconst (v := 1) hx hb d_Grammar_behindType_129 (by decide) ?_
              refine lv_iadd hx hb d_Grammar_behindType_130 ?_
              obtain ⟨x2, ex2⟩ : ∃ z : Int32, k + 1 = z := ⟨_, rfl⟩
              refine tw_ri (e2 := x2) ex2 ?_
              refine lv_goto (tgt := 135) hx hb d_Grammar_behindType_131 (by decide) ?_
              exact tw_isret E trivial d_Grammar_behindType_135
            · refine lv_iload hx hb d_Grammar_behindType_105 (lv_at hl 0 rfl) ?_
              refine lv_bipush (v := 70) hx hb d_Grammar_behindType_107 (by decide) ?_
              refine lv_icmp_eq (tgt := 128) hx hb d_Grammar_behindType_109 (by decide) (fun h109 => ?_) (fun h109 => ?_)
              · refine lv_iload_n hx hb d_Grammar_behindType_128 rfl (lv_at hl 1 rfl) ?_
                refine lv_iconst (v := 1) hx hb d_Grammar_behindType_129 (by decide) ?_
                refine lv_iadd hx hb d_Grammar_behindType_130 ?_
                obtain ⟨x3, ex3⟩ : ∃ z : Int32, k + 1 = z := ⟨_, rfl⟩
                refine tw_ri (e2 := x3) ex3 ?_
                refine lv_goto (tgt := 135) hx hb d_Grammar_behindType_131 (by decide) ?_
                exact tw_isret E trivial d_Grammar_behindType_135
              · refine lv_iload hx hb d_Grammar_behindType_112 (lv_at hl 0 rfl) ?_
                refine tw_si (tw_runS (ws := [(h0, .inr (2, [.ref r, .int (nI n)])), (r, aB g 600 f)]) (wc := []) (As := [.int r1]) (rest := []) E hB hK hZ (s_Grammar_kindOf l g s.heap.size r1) mc_Grammar_kindOf ms_Grammar_kindOf wd_583 hP hD hS hA [] rfl (by decide) rfl rfl (by decide) rfl hl.1 rfl (Nat.le_of_ble_eq_true rfl) (by decide) d_Grammar_behindType_114) (fun r4 hr4 => ?_)
                refine lv_iconst (v := 1) hx hb d_Grammar_behindType_117 (by decide) ?_
                refine lv_icmp_eq (tgt := 128) hx hb d_Grammar_behindType_118 (by decide) (fun h118 => ?_) (fun h118 => ?_)
                · refine lv_iload_n hx hb d_Grammar_behindType_128 rfl (lv_at hl 1 rfl) ?_
                  refine lv_iconst (v := 1) hx hb d_Grammar_behindType_129 (by decide) ?_
                  refine lv_iadd hx hb d_Grammar_behindType_130 ?_
                  obtain ⟨x5, ex5⟩ : ∃ z : Int32, k + 1 = z := ⟨_, rfl⟩
                  refine tw_ri (e2 := x5) ex5 ?_
                  refine lv_goto (tgt := 135) hx hb d_Grammar_behindType_131 (by decide) ?_
                  exact tw_isret E trivial d_Grammar_behindType_135
                · refine lv_iload hx hb d_Grammar_behindType_121 (lv_at hl 0 rfl) ?_
                  refine lv_bipush (v := 74) hx hb d_Grammar_behindType_123 (by decide) ?_
                  refine lv_icmp_ne (tgt := 134) hx hb d_Grammar_behindType_125 (by decide) (fun h125 => ?_) (fun h125 => ?_)
                  · refine lv_iconst (v := (-1)) hx hb d_Grammar_behindType_134 (by decide) ?_
                    exact tw_isret E trivial d_Grammar_behindType_135
                  · refine lv_iload_n hx hb d_Grammar_behindType_128 rfl (lv_at hl 1 rfl) ?_
                    refine lv_iconst (v := 1) hx hb d_Grammar_behindType_129 (by decide) ?_
                    refine lv_iadd hx hb d_Grammar_behindType_130 ?_
                    obtain ⟨x6, ex6⟩ : ∃ z : Int32, k + 1 = z := ⟨_, rfl⟩
                    refine tw_ri (e2 := x6) ex6 ?_
                    refine lv_goto (tgt := 135) hx hb d_Grammar_behindType_131 (by decide) ?_
                    exact tw_isret E trivial d_Grammar_behindType_135
          · refine lv_aload_n hx hb d_Grammar_behindType_44 rfl (lv_at hl 2 rfl) ?_
            refine lv_iload_n hx hb d_Grammar_behindType_45 rfl (lv_at hl 1 rfl) ?_
            refine lv_iconst (v := 1) hx hb d_Grammar_behindType_46 (by decide) ?_
            refine lv_iadd hx hb d_Grammar_behindType_47 ?_
            obtain ⟨x7, ex7⟩ : ∃ z : Int32, k + 1 = z := ⟨_, rfl⟩
            refine tw_ri (e2 := x7) ex7 ?_
            refine lv_iload_n hx hb d_Grammar_behindType_48 rfl (lv_at hl 4 rfl) ?_
            refine tw_si (tw_runS (ws := [(h0, .inr (2, [.ref r, .int (nI n)])), (r, aB g 600 f)]) (wc := [(h0, .inr (2, [.ref r, .int (nI n)])), (r, aB g 600 f)]) (As := [.ref h0, .int x7, .int b]) (rest := []) E hB hK hZ (s_Grammar_behindNames l g s.heap.size h0 r n f x7 b hn) mc_Grammar_behindNames ms_Grammar_behindNames wd_582 hP hD hS hA [0, 1] rfl (by decide) rfl rfl (by decide) rfl hl.1 rfl (Nat.le_of_ble_eq_true rfl) (by decide) d_Grammar_behindType_49) (fun r8 hr8 => ?_)
            refine lv_istore hx hb d_Grammar_behindType_52 hl (by decide) rfl (fun ls hl => ?_)
            have hl : lv_has ls 7 [(5, .int r8), (4, .int r1), (3, .int k), (0, .ref h0), (1, .int a), (2, .int b)] := hl
            refine lv_iload hx hb d_Grammar_behindType_54 (lv_at hl 0 rfl) ?_
            refine lv_iconst (v := (-1)) hx hb d_Grammar_behindType_56 (by decide) ?_
            refine lv_icmp_eq (tgt := 81) hx hb d_Grammar_behindType_57 (by decide) (fun h57 => ?_) (fun h57 => ?_)
            · refine lv_iconst (v := 0) hx hb d_Grammar_behindType_81 (by decide) ?_
              refine lv_istore hx hb d_Grammar_behindType_82 hl (by decide) rfl (fun ls hl => ?_)
              have hl : lv_has ls 7 [(6, .int 0), (5, .int r8), (4, .int r1), (3, .int k), (0, .ref h0), (1, .int a), (2, .int b)] := hl
              refine lv_iload hx hb d_Grammar_behindType_84 (lv_at hl 0 rfl) ?_
              refine lv_if_eq (tgt := 96) hx hb d_Grammar_behindType_86 (by decide) (fun h86 => ?_) (fun h86 => ?_)
              · refine lv_iconst (v := (-1)) hx hb d_Grammar_behindType_96 (by decide) ?_
                exact tw_isret E trivial d_Grammar_behindType_97
              · refine lv_iload hx hb d_Grammar_behindType_89 (lv_at hl 1 rfl) ?_
                refine lv_iconst (v := 1) hx hb d_Grammar_behindType_91 (by decide) ?_
                refine lv_iadd hx hb d_Grammar_behindType_92 ?_
                obtain ⟨x9, ex9⟩ : ∃ z : Int32, r8 + 1 = z := ⟨_, rfl⟩
                refine tw_ri (e2 := x9) ex9 ?_
                refine lv_goto (tgt := 97) hx hb d_Grammar_behindType_93 (by decide) ?_
                exact tw_isret E trivial d_Grammar_behindType_97
            · refine lv_iload hx hb d_Grammar_behindType_60 (lv_at hl 0 rfl) ?_
              refine lv_iload_n hx hb d_Grammar_behindType_62 rfl (lv_at hl 5 rfl) ?_
              refine lv_icmp_ge (tgt := 81) hx hb d_Grammar_behindType_63 (by decide) (fun h63 => ?_) (fun h63 => ?_)
              · refine lv_iconst (v := 0) hx hb d_Grammar_behindType_81 (by decide) ?_
                refine lv_istore hx hb d_Grammar_behindType_82 hl (by decide) rfl (fun ls hl => ?_)
                have hl : lv_has ls 7 [(6, .int 0), (5, .int r8), (4, .int r1), (3, .int k), (0, .ref h0), (1, .int a), (2, .int b)] := hl
                refine lv_iload hx hb d_Grammar_behindType_84 (lv_at hl 0 rfl) ?_
                refine lv_if_eq (tgt := 96) hx hb d_Grammar_behindType_86 (by decide) (fun h86 => ?_) (fun h86 => ?_)
                · refine lv_iconst (v := (-1)) hx hb d_Grammar_behindType_96 (by decide) ?_
                  exact tw_isret E trivial d_Grammar_behindType_97
                · refine lv_iload hx hb d_Grammar_behindType_89 (lv_at hl 1 rfl) ?_
                  refine lv_iconst (v := 1) hx hb d_Grammar_behindType_91 (by decide) ?_
                  refine lv_iadd hx hb d_Grammar_behindType_92 ?_
                  obtain ⟨x10, ex10⟩ : ∃ z : Int32, r8 + 1 = z := ⟨_, rfl⟩
                  refine tw_ri (e2 := x10) ex10 ?_
                  refine lv_goto (tgt := 97) hx hb d_Grammar_behindType_93 (by decide) ?_
                  exact tw_isret E trivial d_Grammar_behindType_97
              · refine lv_aload_n hx hb d_Grammar_behindType_66 rfl (lv_at hl 3 rfl) ?_
                refine lv_iload hx hb d_Grammar_behindType_67 (lv_at hl 0 rfl) ?_
                refine tw_si (tw_runV (ws := [(h0, .inr (2, [.ref r, .int (nI n)])), (r, aB g 600 f)]) (wc := [(h0, .inr (2, [.ref r, .int (nI n)])), (r, aB g 600 f)]) (As := [.int r8]) (rest := []) E hB hK hZ (c_Image_oneAt l g s.heap.size h0 r n f r8 hn) mc_Image_oneAt mi_Image_oneAt me_Image_oneAt wd_553 hP hD hS hA [0, 1] rfl (by decide) 0 rfl rfl rfl rfl rfl (by decide) rfl hl.1 rfl (Nat.le_of_ble_eq_true rfl) (by decide) d_Grammar_behindType_69) (fun r11 hr11 => ?_)
                refine lv_bipush (v := 59) hx hb d_Grammar_behindType_72 (by decide) ?_
                refine lv_icmp_ne (tgt := 81) hx hb d_Grammar_behindType_74 (by decide) (fun h74 => ?_) (fun h74 => ?_)
                · refine lv_iconst (v := 0) hx hb d_Grammar_behindType_81 (by decide) ?_
                  refine lv_istore hx hb d_Grammar_behindType_82 hl (by decide) rfl (fun ls hl => ?_)
                  have hl : lv_has ls 7 [(6, .int 0), (5, .int r8), (4, .int r1), (3, .int k), (0, .ref h0), (1, .int a), (2, .int b)] := hl
                  refine lv_iload hx hb d_Grammar_behindType_84 (lv_at hl 0 rfl) ?_
                  refine lv_if_eq (tgt := 96) hx hb d_Grammar_behindType_86 (by decide) (fun h86 => ?_) (fun h86 => ?_)
                  · refine lv_iconst (v := (-1)) hx hb d_Grammar_behindType_96 (by decide) ?_
                    exact tw_isret E trivial d_Grammar_behindType_97
                  · refine lv_iload hx hb d_Grammar_behindType_89 (lv_at hl 1 rfl) ?_
                    refine lv_iconst (v := 1) hx hb d_Grammar_behindType_91 (by decide) ?_
                    refine lv_iadd hx hb d_Grammar_behindType_92 ?_
                    obtain ⟨x12, ex12⟩ : ∃ z : Int32, r8 + 1 = z := ⟨_, rfl⟩
                    refine tw_ri (e2 := x12) ex12 ?_
                    refine lv_goto (tgt := 97) hx hb d_Grammar_behindType_93 (by decide) ?_
                    exact tw_isret E trivial d_Grammar_behindType_97
                · refine lv_iconst (v := 1) hx hb d_Grammar_behindType_77 (by decide) ?_
                  refine lv_goto (tgt := 82) hx hb d_Grammar_behindType_78 (by decide) ?_
                  refine lv_istore hx hb d_Grammar_behindType_82 hl (by decide) rfl (fun ls hl => ?_)
                  have hl : lv_has ls 7 [(6, .int 1), (5, .int r8), (4, .int r1), (3, .int k), (0, .ref h0), (1, .int a), (2, .int b)] := hl
                  refine lv_iload hx hb d_Grammar_behindType_84 (lv_at hl 0 rfl) ?_
                  refine lv_if_eq (tgt := 96) hx hb d_Grammar_behindType_86 (by decide) (fun h86 => ?_) (fun h86 => ?_)
                  · refine lv_iconst (v := (-1)) hx hb d_Grammar_behindType_96 (by decide) ?_
                    exact tw_isret E trivial d_Grammar_behindType_97
                  · refine lv_iload hx hb d_Grammar_behindType_89 (lv_at hl 1 rfl) ?_
                    refine lv_iconst (v := 1) hx hb d_Grammar_behindType_91 (by decide) ?_
                    refine lv_iadd hx hb d_Grammar_behindType_92 ?_
                    obtain ⟨x13, ex13⟩ : ∃ z : Int32, r8 + 1 = z := ⟨_, rfl⟩
                    refine tw_ri (e2 := x13) ex13 ?_
                    refine lv_goto (tgt := 97) hx hb d_Grammar_behindType_93 (by decide) ?_
                    exact tw_isret E trivial d_Grammar_behindType_97
        · refine lv_iconst (v := (-1)) hx hb d_Grammar_behindType_28 (by decide) ?_
          exact tw_isret E trivial d_Grammar_behindType_29
      · refine lv_aload_n hx hb d_Grammar_behindType_7 rfl (lv_at hl 1 rfl) ?_
        refine lv_iload_n hx hb d_Grammar_behindType_8 rfl (lv_at hl 0 rfl) ?_
        refine tw_si (tw_runV (ws := [(h0, .inr (2, [.ref r, .int (nI n)])), (r, aB g 600 f)]) (wc := [(h0, .inr (2, [.ref r, .int (nI n)])), (r, aB g 600 f)]) (As := [.int k]) (rest := []) E hB hK hZ (c_Image_oneAt l g s.heap.size h0 r n f k hn) mc_Image_oneAt mi_Image_oneAt me_Image_oneAt wd_553 hP hD hS hA [0, 1] rfl (by decide) 0 rfl rfl rfl rfl rfl (by decide) rfl hl.1 rfl (Nat.le_of_ble_eq_true rfl) (by decide) d_Grammar_behindType_9) (fun r14 hr14 => ?_)
        refine lv_bipush (v := 91) hx hb d_Grammar_behindType_12 (by decide) ?_
        refine lv_icmp_ne (tgt := 23) hx hb d_Grammar_behindType_14 (by decide) (fun h14 => ?_) (fun h14 => ?_)
        · refine lv_iload_n hx hb d_Grammar_behindType_23 rfl (lv_at hl 0 rfl) ?_
          refine lv_iload_n hx hb d_Grammar_behindType_24 rfl (lv_at hl 3 rfl) ?_
          refine lv_icmp_lt (tgt := 30) hx hb d_Grammar_behindType_25 (by decide) (fun h25 => ?_) (fun h25 => ?_)
          · refine lv_aload_n hx hb d_Grammar_behindType_30 rfl (lv_at hl 1 rfl) ?_
            refine lv_iload_n hx hb d_Grammar_behindType_31 rfl (lv_at hl 0 rfl) ?_
            refine tw_si (tw_runV (ws := [(h0, .inr (2, [.ref r, .int (nI n)])), (r, aB g 600 f)]) (wc := [(h0, .inr (2, [.ref r, .int (nI n)])), (r, aB g 600 f)]) (As := [.int k]) (rest := []) E hB hK hZ (c_Image_oneAt l g s.heap.size h0 r n f k hn) mc_Image_oneAt mi_Image_oneAt me_Image_oneAt wd_553 hP hD hS hA [0, 1] rfl (by decide) 0 rfl rfl rfl rfl rfl (by decide) rfl hl.1 rfl (Nat.le_of_ble_eq_true rfl) (by decide) d_Grammar_behindType_32) (fun r15 hr15 => ?_)
            refine lv_istore hx hb d_Grammar_behindType_35 hl (by decide) rfl (fun ls hl => ?_)
            have hl : lv_has ls 7 [(4, .int r15), (3, .int k), (0, .ref h0), (1, .int a), (2, .int b)] := hl
            refine lv_iload hx hb d_Grammar_behindType_37 (lv_at hl 0 rfl) ?_
            refine lv_bipush (v := 76) hx hb d_Grammar_behindType_39 (by decide) ?_
            refine lv_icmp_ne (tgt := 98) hx hb d_Grammar_behindType_41 (by decide) (fun h41 => ?_) (fun h41 => ?_)
            · refine lv_iload hx hb d_Grammar_behindType_98 (lv_at hl 0 rfl) ?_
              refine lv_bipush (v := 68) hx hb d_Grammar_behindType_100 (by decide) ?_
              refine lv_icmp_eq (tgt := 128) hx hb d_Grammar_behindType_102 (by decide) (fun h102 => ?_) (fun h102 => ?_)
              · refine lv_iload_n hx hb d_Grammar_behindType_128 rfl (lv_at hl 1 rfl) ?_
                refine lv_iconst (v := 1) hx hb d_Grammar_behindType_129 (by decide) ?_
                refine lv_iadd hx hb d_Grammar_behindType_130 ?_
                obtain ⟨x16, ex16⟩ : ∃ z : Int32, k + 1 = z := ⟨_, rfl⟩
                refine tw_ri (e2 := x16) ex16 ?_
                refine lv_goto (tgt := 135) hx hb d_Grammar_behindType_131 (by decide) ?_
                exact tw_isret E trivial d_Grammar_behindType_135
              · refine lv_iload hx hb d_Grammar_behindType_105 (lv_at hl 0 rfl) ?_
                refine lv_bipush (v := 70) hx hb d_Grammar_behindType_107 (by decide) ?_
                refine lv_icmp_eq (tgt := 128) hx hb d_Grammar_behindType_109 (by decide) (fun h109 => ?_) (fun h109 => ?_)
                · refine lv_iload_n hx hb d_Grammar_behindType_128 rfl (lv_at hl 1 rfl) ?_
                  refine lv_iconst (v := 1) hx hb d_Grammar_behindType_129 (by decide) ?_
                  refine lv_iadd hx hb d_Grammar_behindType_130 ?_
                  obtain ⟨x17, ex17⟩ : ∃ z : Int32, k + 1 = z := ⟨_, rfl⟩
                  refine tw_ri (e2 := x17) ex17 ?_
                  refine lv_goto (tgt := 135) hx hb d_Grammar_behindType_131 (by decide) ?_
                  exact tw_isret E trivial d_Grammar_behindType_135
                · refine lv_iload hx hb d_Grammar_behindType_112 (lv_at hl 0 rfl) ?_
                  refine tw_si (tw_runS (ws := [(h0, .inr (2, [.ref r, .int (nI n)])), (r, aB g 600 f)]) (wc := []) (As := [.int r15]) (rest := []) E hB hK hZ (s_Grammar_kindOf l g s.heap.size r15) mc_Grammar_kindOf ms_Grammar_kindOf wd_583 hP hD hS hA [] rfl (by decide) rfl rfl (by decide) rfl hl.1 rfl (Nat.le_of_ble_eq_true rfl) (by decide) d_Grammar_behindType_114) (fun r18 hr18 => ?_)
                  refine lv_iconst (v := 1) hx hb d_Grammar_behindType_117 (by decide) ?_
                  refine lv_icmp_eq (tgt := 128) hx hb d_Grammar_behindType_118 (by decide) (fun h118 => ?_) (fun h118 => ?_)
                  · refine lv_iload_n hx hb d_Grammar_behindType_128 rfl (lv_at hl 1 rfl) ?_
                    refine lv_iconst (v := 1) hx hb d_Grammar_behindType_129 (by decide) ?_
                    refine lv_iadd hx hb d_Grammar_behindType_130 ?_
                    obtain ⟨x19, ex19⟩ : ∃ z : Int32, k + 1 = z := ⟨_, rfl⟩
                    refine tw_ri (e2 := x19) ex19 ?_
                    refine lv_goto (tgt := 135) hx hb d_Grammar_behindType_131 (by decide) ?_
                    exact tw_isret E trivial d_Grammar_behindType_135
                  · refine lv_iload hx hb d_Grammar_behindType_121 (lv_at hl 0 rfl) ?_
                    refine lv_bipush (v := 74) hx hb d_Grammar_behindType_123 (by decide) ?_
                    refine lv_icmp_ne (tgt := 134) hx hb d_Grammar_behindType_125 (by decide) (fun h125 => ?_) (fun h125 => ?_)
                    · refine lv_iconst (v := (-1)) hx hb d_Grammar_behindType_134 (by decide) ?_
                      exact tw_isret E trivial d_Grammar_behindType_135
                    · refine lv_iload_n hx hb d_Grammar_behindType_128 rfl (lv_at hl 1 rfl) ?_
                      refine lv_iconst (v := 1) hx hb d_Grammar_behindType_129 (by decide) ?_
                      refine lv_iadd hx hb d_Grammar_behindType_130 ?_
                      obtain ⟨x20, ex20⟩ : ∃ z : Int32, k + 1 = z := ⟨_, rfl⟩
                      refine tw_ri (e2 := x20) ex20 ?_
                      refine lv_goto (tgt := 135) hx hb d_Grammar_behindType_131 (by decide) ?_
                      exact tw_isret E trivial d_Grammar_behindType_135
            · refine lv_aload_n hx hb d_Grammar_behindType_44 rfl (lv_at hl 2 rfl) ?_
              refine lv_iload_n hx hb d_Grammar_behindType_45 rfl (lv_at hl 1 rfl) ?_
              refine lv_iconst (v := 1) hx hb d_Grammar_behindType_46 (by decide) ?_
              refine lv_iadd hx hb d_Grammar_behindType_47 ?_
              obtain ⟨x21, ex21⟩ : ∃ z : Int32, k + 1 = z := ⟨_, rfl⟩
              refine tw_ri (e2 := x21) ex21 ?_
              refine lv_iload_n hx hb d_Grammar_behindType_48 rfl (lv_at hl 4 rfl) ?_
              refine tw_si (tw_runS (ws := [(h0, .inr (2, [.ref r, .int (nI n)])), (r, aB g 600 f)]) (wc := [(h0, .inr (2, [.ref r, .int (nI n)])), (r, aB g 600 f)]) (As := [.ref h0, .int x21, .int b]) (rest := []) E hB hK hZ (s_Grammar_behindNames l g s.heap.size h0 r n f x21 b hn) mc_Grammar_behindNames ms_Grammar_behindNames wd_582 hP hD hS hA [0, 1] rfl (by decide) rfl rfl (by decide) rfl hl.1 rfl (Nat.le_of_ble_eq_true rfl) (by decide) d_Grammar_behindType_49) (fun r22 hr22 => ?_)
              refine lv_istore hx hb d_Grammar_behindType_52 hl (by decide) rfl (fun ls hl => ?_)
              have hl : lv_has ls 7 [(5, .int r22), (4, .int r15), (3, .int k), (0, .ref h0), (1, .int a), (2, .int b)] := hl
              refine lv_iload hx hb d_Grammar_behindType_54 (lv_at hl 0 rfl) ?_
              refine lv_iconst (v := (-1)) hx hb d_Grammar_behindType_56 (by decide) ?_
              refine lv_icmp_eq (tgt := 81) hx hb d_Grammar_behindType_57 (by decide) (fun h57 => ?_) (fun h57 => ?_)
              · refine lv_iconst (v := 0) hx hb d_Grammar_behindType_81 (by decide) ?_
                refine lv_istore hx hb d_Grammar_behindType_82 hl (by decide) rfl (fun ls hl => ?_)
                have hl : lv_has ls 7 [(6, .int 0), (5, .int r22), (4, .int r15), (3, .int k), (0, .ref h0), (1, .int a), (2, .int b)] := hl
                refine lv_iload hx hb d_Grammar_behindType_84 (lv_at hl 0 rfl) ?_
                refine lv_if_eq (tgt := 96) hx hb d_Grammar_behindType_86 (by decide) (fun h86 => ?_) (fun h86 => ?_)
                · refine lv_iconst (v := (-1)) hx hb d_Grammar_behindType_96 (by decide) ?_
                  exact tw_isret E trivial d_Grammar_behindType_97
                · refine lv_iload hx hb d_Grammar_behindType_89 (lv_at hl 1 rfl) ?_
                  refine lv_iconst (v := 1) hx hb d_Grammar_behindType_91 (by decide) ?_
                  refine lv_iadd hx hb d_Grammar_behindType_92 ?_
                  obtain ⟨x23, ex23⟩ : ∃ z : Int32, r22 + 1 = z := ⟨_, rfl⟩
                  refine tw_ri (e2 := x23) ex23 ?_
                  refine lv_goto (tgt := 97) hx hb d_Grammar_behindType_93 (by decide) ?_
                  exact tw_isret E trivial d_Grammar_behindType_97
              · refine lv_iload hx hb d_Grammar_behindType_60 (lv_at hl 0 rfl) ?_
                refine lv_iload_n hx hb d_Grammar_behindType_62 rfl (lv_at hl 5 rfl) ?_
                refine lv_icmp_ge (tgt := 81) hx hb d_Grammar_behindType_63 (by decide) (fun h63 => ?_) (fun h63 => ?_)
                · refine lv_iconst (v := 0) hx hb d_Grammar_behindType_81 (by decide) ?_
                  refine lv_istore hx hb d_Grammar_behindType_82 hl (by decide) rfl (fun ls hl => ?_)
                  have hl : lv_has ls 7 [(6, .int 0), (5, .int r22), (4, .int r15), (3, .int k), (0, .ref h0), (1, .int a), (2, .int b)] := hl
                  refine lv_iload hx hb d_Grammar_behindType_84 (lv_at hl 0 rfl) ?_
                  refine lv_if_eq (tgt := 96) hx hb d_Grammar_behindType_86 (by decide) (fun h86 => ?_) (fun h86 => ?_)
                  · refine lv_iconst (v := (-1)) hx hb d_Grammar_behindType_96 (by decide) ?_
                    exact tw_isret E trivial d_Grammar_behindType_97
                  · refine lv_iload hx hb d_Grammar_behindType_89 (lv_at hl 1 rfl) ?_
                    refine lv_iconst (v := 1) hx hb d_Grammar_behindType_91 (by decide) ?_
                    refine lv_iadd hx hb d_Grammar_behindType_92 ?_
                    obtain ⟨x24, ex24⟩ : ∃ z : Int32, r22 + 1 = z := ⟨_, rfl⟩
                    refine tw_ri (e2 := x24) ex24 ?_
                    refine lv_goto (tgt := 97) hx hb d_Grammar_behindType_93 (by decide) ?_
                    exact tw_isret E trivial d_Grammar_behindType_97
                · refine lv_aload_n hx hb d_Grammar_behindType_66 rfl (lv_at hl 3 rfl) ?_
                  refine lv_iload hx hb d_Grammar_behindType_67 (lv_at hl 0 rfl) ?_
                  refine tw_si (tw_runV (ws := [(h0, .inr (2, [.ref r, .int (nI n)])), (r, aB g 600 f)]) (wc := [(h0, .inr (2, [.ref r, .int (nI n)])), (r, aB g 600 f)]) (As := [.int r22]) (rest := []) E hB hK hZ (c_Image_oneAt l g s.heap.size h0 r n f r22 hn) mc_Image_oneAt mi_Image_oneAt me_Image_oneAt wd_553 hP hD hS hA [0, 1] rfl (by decide) 0 rfl rfl rfl rfl rfl (by decide) rfl hl.1 rfl (Nat.le_of_ble_eq_true rfl) (by decide) d_Grammar_behindType_69) (fun r25 hr25 => ?_)
                  refine lv_bipush (v := 59) hx hb d_Grammar_behindType_72 (by decide) ?_
                  refine lv_icmp_ne (tgt := 81) hx hb d_Grammar_behindType_74 (by decide) (fun h74 => ?_) (fun h74 => ?_)
                  · refine lv_iconst (v := 0) hx hb d_Grammar_behindType_81 (by decide) ?_
                    refine lv_istore hx hb d_Grammar_behindType_82 hl (by decide) rfl (fun ls hl => ?_)
                    have hl : lv_has ls 7 [(6, .int 0), (5, .int r22), (4, .int r15), (3, .int k), (0, .ref h0), (1, .int a), (2, .int b)] := hl
                    refine lv_iload hx hb d_Grammar_behindType_84 (lv_at hl 0 rfl) ?_
                    refine lv_if_eq (tgt := 96) hx hb d_Grammar_behindType_86 (by decide) (fun h86 => ?_) (fun h86 => ?_)
                    · refine lv_iconst (v := (-1)) hx hb d_Grammar_behindType_96 (by decide) ?_
                      exact tw_isret E trivial d_Grammar_behindType_97
                    · refine lv_iload hx hb d_Grammar_behindType_89 (lv_at hl 1 rfl) ?_
                      refine lv_iconst (v := 1) hx hb d_Grammar_behindType_91 (by decide) ?_
                      refine lv_iadd hx hb d_Grammar_behindType_92 ?_
                      obtain ⟨x26, ex26⟩ : ∃ z : Int32, r22 + 1 = z := ⟨_, rfl⟩
                      refine tw_ri (e2 := x26) ex26 ?_
                      refine lv_goto (tgt := 97) hx hb d_Grammar_behindType_93 (by decide) ?_
                      exact tw_isret E trivial d_Grammar_behindType_97
                  · refine lv_iconst (v := 1) hx hb d_Grammar_behindType_77 (by decide) ?_
                    refine lv_goto (tgt := 82) hx hb d_Grammar_behindType_78 (by decide) ?_
                    refine lv_istore hx hb d_Grammar_behindType_82 hl (by decide) rfl (fun ls hl => ?_)
                    have hl : lv_has ls 7 [(6, .int 1), (5, .int r22), (4, .int r15), (3, .int k), (0, .ref h0), (1, .int a), (2, .int b)] := hl
                    refine lv_iload hx hb d_Grammar_behindType_84 (lv_at hl 0 rfl) ?_
                    refine lv_if_eq (tgt := 96) hx hb d_Grammar_behindType_86 (by decide) (fun h86 => ?_) (fun h86 => ?_)
                    · refine lv_iconst (v := (-1)) hx hb d_Grammar_behindType_96 (by decide) ?_
                      exact tw_isret E trivial d_Grammar_behindType_97
                    · refine lv_iload hx hb d_Grammar_behindType_89 (lv_at hl 1 rfl) ?_
                      refine lv_iconst (v := 1) hx hb d_Grammar_behindType_91 (by decide) ?_
                      refine lv_iadd hx hb d_Grammar_behindType_92 ?_
                      obtain ⟨x27, ex27⟩ : ∃ z : Int32, r22 + 1 = z := ⟨_, rfl⟩
                      refine tw_ri (e2 := x27) ex27 ?_
                      refine lv_goto (tgt := 97) hx hb d_Grammar_behindType_93 (by decide) ?_
                      exact tw_isret E trivial d_Grammar_behindType_97
          · refine lv_iconst (v := (-1)) hx hb d_Grammar_behindType_28 (by decide) ?_
            exact tw_isret E trivial d_Grammar_behindType_29
        · refine lv_iinc (k := 0) (v := k + 1) hx hb d_Grammar_behindType_17 hl rfl rfl (by decide) rfl (fun ls hl => ?_)
          have hl : lv_has ls 7 [(3, .int (k + 1)), (0, .ref h0), (1, .int a), (2, .int b)] := hl
          refine lv_goto (tgt := 2) hx hb d_Grammar_behindType_20 (by decide) ?_
          exact ih _ (hk ▸ ims_dec h4) (k + 1) ls rfl  (lv_sub hl [0, 1, 2, 3] rfl)
  exact loop2 _ a ls rfl  (hl)
set_option maxHeartbeats 4000000 in
set_option maxRecDepth 100000 in
theorem s_Grammar_isType (l : Launch) (g : tw_G) (sz : Nat) (h0 : Nat) (w : Nat → Nat) (v : LY) (a : Int32) (hI : LI v) : Met l y_Grammar_isType [.code y_Grammar_isType b_Grammar_isType 3 (some .boolean)] ({ frames := 3, cells := 0, slots := 0, locals := 72 }) (tw_P g [.ref h0, .int a] [(h0, .inr (3, [.ref (w 0), .ref (w 2), .ref (w 7), .ref (w 8), .ref (w 9), .ref (w 10), .ref (w 11), .ref (w 12), .ref (w 13), .int v.nu, .int v.th, .int v.it, .int (nI v.fi), .int (nI v.me), .int v.mp])), ((w 0), .inr (2, [.ref (w 1), .int (nI v.n)])), ((w 1), aB g 600 v.b), ((w 2), .inr (1, [.ref (w 3), .ref (w 4), .ref (w 5), .ref (w 6), .int (nI v.lo)])), ((w 3), aJ g 4800 v.rw), ((w 4), aB g 600 v.bg), ((w 5), aB g 600 v.wt), ((w 6), aB g 600 v.dp), ((w 7), aI g 200 v.tg), ((w 8), aI g 200 v.ca), ((w 9), aI g 200 v.fs), ((w 10), aI g 200 v.sc), ((w 11), aI g 75 v.fa), ((w 12), aI g 75 v.ma), ((w 13), aI g 75 v.co)] sz) (vp_Si (fun r => r = 0 ∨ r = 1)) 0 0 (fun _ => False) := by
  refine tw_met (l := l) (g := g) (y := y_Grammar_isType) (cc := b_Grammar_isType) (maxL := 3) (ret := (some .boolean)) (rm := { frames := 3, cells := 0, slots := 0, locals := 72 }) (mc := 0) (ms := 0) (av := [.ref h0, .int a]) (ws := [(h0, .inr (3, [.ref (w 0), .ref (w 2), .ref (w 7), .ref (w 8), .ref (w 9), .ref (w 10), .ref (w 11), .ref (w 12), .ref (w 13), .int v.nu, .int v.th, .int v.it, .int (nI v.fi), .int (nI v.me), .int v.mp])), ((w 0), .inr (2, [.ref (w 1), .int (nI v.n)])), ((w 1), aB g 600 v.b), ((w 2), .inr (1, [.ref (w 3), .ref (w 4), .ref (w 5), .ref (w 6), .int (nI v.lo)])), ((w 3), aJ g 4800 v.rw), ((w 4), aB g 600 v.bg), ((w 5), aB g 600 v.wt), ((w 6), aB g 600 v.dp), ((w 7), aI g 200 v.tg), ((w 8), aI g 200 v.ca), ((w 9), aI g 200 v.fs), ((w 10), aI g 200 v.sc), ((w 11), aI g 75 v.fa), ((w 12), aI g 75 v.ma), ((w 13), aI g 75 v.co)]) (sz := sz) (Qc := fun _ => (vp_Si (fun r => r = 0 ∨ r = 1))) (free := fun _ _ => False) (by decide) (Nat.le_of_ble_eq_true rfl) ?_
  intro p e s m below meth c ls A E hB hK hZ hP hD hS hA hl
  obtain ⟨hx, hb, hml, hr, hown, hts, hlocks, hin⟩ := id E
  have hl : lv_has ls 3 [(0, .ref h0), (1, .int a)] := hl
  refine lv_aload_n hx hb d_Grammar_isType_0 rfl (lv_at hl 0 rfl) ?_
  refine lv_iload_n hx hb d_Grammar_isType_1 rfl (lv_at hl 1 rfl) ?_
  refine tw_si (tw_runV (ws := [(h0, .inr (3, [.ref (w 0), .ref (w 2), .ref (w 7), .ref (w 8), .ref (w 9), .ref (w 10), .ref (w 11), .ref (w 12), .ref (w 13), .int v.nu, .int v.th, .int v.it, .int (nI v.fi), .int (nI v.me), .int v.mp])), ((w 0), .inr (2, [.ref (w 1), .int (nI v.n)])), ((w 1), aB g 600 v.b), ((w 2), .inr (1, [.ref (w 3), .ref (w 4), .ref (w 5), .ref (w 6), .int (nI v.lo)])), ((w 3), aJ g 4800 v.rw), ((w 4), aB g 600 v.bg), ((w 5), aB g 600 v.wt), ((w 6), aB g 600 v.dp), ((w 7), aI g 200 v.tg), ((w 8), aI g 200 v.ca), ((w 9), aI g 200 v.fs), ((w 10), aI g 200 v.sc), ((w 11), aI g 75 v.fa), ((w 12), aI g 75 v.ma), ((w 13), aI g 75 v.co)]) (wc := [(h0, .inr (3, [.ref (w 0), .ref (w 2), .ref (w 7), .ref (w 8), .ref (w 9), .ref (w 10), .ref (w 11), .ref (w 12), .ref (w 13), .int v.nu, .int v.th, .int v.it, .int (nI v.fi), .int (nI v.me), .int v.mp])), ((w 0), .inr (2, [.ref (w 1), .int (nI v.n)])), ((w 1), aB g 600 v.b), ((w 2), .inr (1, [.ref (w 3), .ref (w 4), .ref (w 5), .ref (w 6), .int (nI v.lo)])), ((w 3), aJ g 4800 v.rw), ((w 4), aB g 600 v.bg), ((w 5), aB g 600 v.wt), ((w 6), aB g 600 v.dp), ((w 7), aI g 200 v.tg), ((w 8), aI g 200 v.ca), ((w 9), aI g 200 v.fs), ((w 10), aI g 200 v.sc), ((w 11), aI g 75 v.fa), ((w 12), aI g 75 v.ma), ((w 13), aI g 75 v.co)]) (As := [.int a]) (rest := []) E hB hK hZ (s_Layout_textEnd l g s.heap.size h0 w v a hI) mc_Layout_textEnd mi_Layout_textEnd me_Layout_textEnd wd_577 hP hD hS hA [0, 1, 2, 3, 4, 5, 6, 7, 8, 9, 10, 11, 12, 13, 14] rfl (by decide) 0 rfl rfl rfl rfl rfl (by decide) rfl hl.1 rfl (Nat.le_of_ble_eq_true rfl) (by decide) d_Grammar_isType_2) (fun r1 hr1 => ?_)
  refine lv_istore_n hx hb d_Grammar_isType_5 rfl hl (by decide) rfl (fun ls hl => ?_)
  have hl : lv_has ls 3 [(2, .int r1), (0, .ref h0), (1, .int a)] := hl
  refine lv_aload_n hx hb d_Grammar_isType_6 rfl (lv_at hl 1 rfl) ?_
  refine va_getN (D := g.1) (ci := 3) (v := .ref (w 0)) (C := R_Layout) (T := F_Layout) (N := 15) hx hb hts in_Layout hown hK hP 0 rfl rfl 0 (by decide) (hts _ wd_247) (fun _ h9 => h9) rfl d_Grammar_isType_7 ?_
  refine lv_aload_n hx hb d_Grammar_isType_10 rfl (lv_at hl 1 rfl) ?_
  refine lv_iload_n hx hb d_Grammar_isType_11 rfl (lv_at hl 2 rfl) ?_
  refine tw_si (tw_runV (ws := [(h0, .inr (3, [.ref (w 0), .ref (w 2), .ref (w 7), .ref (w 8), .ref (w 9), .ref (w 10), .ref (w 11), .ref (w 12), .ref (w 13), .int v.nu, .int v.th, .int v.it, .int (nI v.fi), .int (nI v.me), .int v.mp])), ((w 0), .inr (2, [.ref (w 1), .int (nI v.n)])), ((w 1), aB g 600 v.b), ((w 2), .inr (1, [.ref (w 3), .ref (w 4), .ref (w 5), .ref (w 6), .int (nI v.lo)])), ((w 3), aJ g 4800 v.rw), ((w 4), aB g 600 v.bg), ((w 5), aB g 600 v.wt), ((w 6), aB g 600 v.dp), ((w 7), aI g 200 v.tg), ((w 8), aI g 200 v.ca), ((w 9), aI g 200 v.fs), ((w 10), aI g 200 v.sc), ((w 11), aI g 75 v.fa), ((w 12), aI g 75 v.ma), ((w 13), aI g 75 v.co)]) (wc := [(h0, .inr (3, [.ref (w 0), .ref (w 2), .ref (w 7), .ref (w 8), .ref (w 9), .ref (w 10), .ref (w 11), .ref (w 12), .ref (w 13), .int v.nu, .int v.th, .int v.it, .int (nI v.fi), .int (nI v.me), .int v.mp])), ((w 0), .inr (2, [.ref (w 1), .int (nI v.n)])), ((w 1), aB g 600 v.b), ((w 2), .inr (1, [.ref (w 3), .ref (w 4), .ref (w 5), .ref (w 6), .int (nI v.lo)])), ((w 3), aJ g 4800 v.rw), ((w 4), aB g 600 v.bg), ((w 5), aB g 600 v.wt), ((w 6), aB g 600 v.dp), ((w 7), aI g 200 v.tg), ((w 8), aI g 200 v.ca), ((w 9), aI g 200 v.fs), ((w 10), aI g 200 v.sc), ((w 11), aI g 75 v.fa), ((w 12), aI g 75 v.ma), ((w 13), aI g 75 v.co)]) (As := [.int a]) (rest := [.ref (w 0)]) E hB hK hZ (s_Layout_textFrom l g s.heap.size h0 w v a hI) mc_Layout_textFrom mi_Layout_textFrom me_Layout_textFrom wd_578 hP hD hS hA [0, 1, 2, 3, 4, 5, 6, 7, 8, 9, 10, 11, 12, 13, 14] rfl (by decide) 0 rfl rfl rfl rfl rfl (by decide) rfl hl.1 rfl (Nat.le_of_ble_eq_true rfl) (by decide) d_Grammar_isType_12) (fun r2 hr2 => ?_)
  refine lv_iload_n hx hb d_Grammar_isType_15 rfl (lv_at hl 0 rfl) ?_
  refine tw_si (tw_runS (ws := [(h0, .inr (3, [.ref (w 0), .ref (w 2), .ref (w 7), .ref (w 8), .ref (w 9), .ref (w 10), .ref (w 11), .ref (w 12), .ref (w 13), .int v.nu, .int v.th, .int v.it, .int (nI v.fi), .int (nI v.me), .int v.mp])), ((w 0), .inr (2, [.ref (w 1), .int (nI v.n)])), ((w 1), aB g 600 v.b), ((w 2), .inr (1, [.ref (w 3), .ref (w 4), .ref (w 5), .ref (w 6), .int (nI v.lo)])), ((w 3), aJ g 4800 v.rw), ((w 4), aB g 600 v.bg), ((w 5), aB g 600 v.wt), ((w 6), aB g 600 v.dp), ((w 7), aI g 200 v.tg), ((w 8), aI g 200 v.ca), ((w 9), aI g 200 v.fs), ((w 10), aI g 200 v.sc), ((w 11), aI g 75 v.fa), ((w 12), aI g 75 v.ma), ((w 13), aI g 75 v.co)]) (wc := [((w 0), .inr (2, [.ref (w 1), .int (nI v.n)])), ((w 1), aB g 600 v.b)]) (As := [.ref (w 0), .int r2, .int r1]) (rest := []) E hB hK hZ (s_Grammar_behindType l g s.heap.size (w 0) (w 1) v.n v.b r2 r1 hI.n) mc_Grammar_behindType ms_Grammar_behindType wd_579 hP hD hS hA [1, 2] rfl (by decide) rfl rfl (by decide) rfl hl.1 rfl (Nat.le_of_ble_eq_true rfl) (by decide) d_Grammar_isType_16) (fun r3 hr3 => ?_)
  refine lv_iload_n hx hb d_Grammar_isType_19 rfl (lv_at hl 0 rfl) ?_
  refine lv_icmp_ne (tgt := 27) hx hb d_Grammar_isType_20 (by decide) (fun h20 => ?_) (fun h20 => ?_)
  · refine lv_iconst (v := 0) hx hb d_Grammar_isType_27 (by decide) ?_
    exact tw_zsret E (by decide) (by decide) d_Grammar_isType_28
  · refine lv_iconst (v := 1) hx hb d_Grammar_isType_23 (by decide) ?_
    refine lv_goto (tgt := 28) hx hb d_Grammar_isType_24 (by decide) ?_
    exact tw_zsret E (by decide) (by decide) d_Grammar_isType_28
set_option maxHeartbeats 4000000 in
set_option maxRecDepth 100000 in
theorem s_Grammar_isMethodType (l : Launch) (g : tw_G) (sz : Nat) (h0 : Nat) (w : Nat → Nat) (v : LY) (a : Int32) (hI : LI v) : Met l y_Grammar_isMethodType [.code y_Grammar_isMethodType b_Grammar_isMethodType 6 (some .boolean)] ({ frames := 3, cells := 0, slots := 0, locals := 72 }) (tw_P g [.ref h0, .int a] [(h0, .inr (3, [.ref (w 0), .ref (w 2), .ref (w 7), .ref (w 8), .ref (w 9), .ref (w 10), .ref (w 11), .ref (w 12), .ref (w 13), .int v.nu, .int v.th, .int v.it, .int (nI v.fi), .int (nI v.me), .int v.mp])), ((w 0), .inr (2, [.ref (w 1), .int (nI v.n)])), ((w 1), aB g 600 v.b), ((w 2), .inr (1, [.ref (w 3), .ref (w 4), .ref (w 5), .ref (w 6), .int (nI v.lo)])), ((w 3), aJ g 4800 v.rw), ((w 4), aB g 600 v.bg), ((w 5), aB g 600 v.wt), ((w 6), aB g 600 v.dp), ((w 7), aI g 200 v.tg), ((w 8), aI g 200 v.ca), ((w 9), aI g 200 v.fs), ((w 10), aI g 200 v.sc), ((w 11), aI g 75 v.fa), ((w 12), aI g 75 v.ma), ((w 13), aI g 75 v.co)] sz) (vp_Si (fun r => r = 0 ∨ r = 1)) 0 0 (fun _ => False) := by
  refine tw_met (l := l) (g := g) (y := y_Grammar_isMethodType) (cc := b_Grammar_isMethodType) (maxL := 6) (ret := (some .boolean)) (rm := { frames := 3, cells := 0, slots := 0, locals := 72 }) (mc := 0) (ms := 0) (av := [.ref h0, .int a]) (ws := [(h0, .inr (3, [.ref (w 0), .ref (w 2), .ref (w 7), .ref (w 8), .ref (w 9), .ref (w 10), .ref (w 11), .ref (w 12), .ref (w 13), .int v.nu, .int v.th, .int v.it, .int (nI v.fi), .int (nI v.me), .int v.mp])), ((w 0), .inr (2, [.ref (w 1), .int (nI v.n)])), ((w 1), aB g 600 v.b), ((w 2), .inr (1, [.ref (w 3), .ref (w 4), .ref (w 5), .ref (w 6), .int (nI v.lo)])), ((w 3), aJ g 4800 v.rw), ((w 4), aB g 600 v.bg), ((w 5), aB g 600 v.wt), ((w 6), aB g 600 v.dp), ((w 7), aI g 200 v.tg), ((w 8), aI g 200 v.ca), ((w 9), aI g 200 v.fs), ((w 10), aI g 200 v.sc), ((w 11), aI g 75 v.fa), ((w 12), aI g 75 v.ma), ((w 13), aI g 75 v.co)]) (sz := sz) (Qc := fun _ => (vp_Si (fun r => r = 0 ∨ r = 1))) (free := fun _ _ => False) (by decide) (Nat.le_of_ble_eq_true rfl) ?_
  intro p e s m below meth c ls A E hB hK hZ hP hD hS hA hl
  obtain ⟨hx, hb, hml, hr, hown, hts, hlocks, hin⟩ := id E
  have hl : lv_has ls 6 [(0, .ref h0), (1, .int a)] := hl
  refine lv_aload_n hx hb d_Grammar_isMethodType_0 rfl (lv_at hl 0 rfl) ?_
  refine va_getN (D := g.1) (ci := 3) (v := .ref (w 0)) (C := R_Layout) (T := F_Layout) (N := 15) hx hb hts in_Layout hown hK hP 0 rfl rfl 0 (by decide) (hts _ wd_247) (fun _ h9 => h9) rfl d_Grammar_isMethodType_1 ?_
  refine lv_astore_n hx hb d_Grammar_isMethodType_4 rfl hl (by decide) rfl (fun ls hl => ?_)
  have hl : lv_has ls 6 [(2, .ref (w 0)), (0, .ref h0), (1, .int a)] := hl
  refine lv_aload_n hx hb d_Grammar_isMethodType_5 rfl (lv_at hl 1 rfl) ?_
  refine lv_iload_n hx hb d_Grammar_isMethodType_6 rfl (lv_at hl 2 rfl) ?_
  refine tw_si (tw_runV (ws := [(h0, .inr (3, [.ref (w 0), .ref (w 2), .ref (w 7), .ref (w 8), .ref (w 9), .ref (w 10), .ref (w 11), .ref (w 12), .ref (w 13), .int v.nu, .int v.th, .int v.it, .int (nI v.fi), .int (nI v.me), .int v.mp])), ((w 0), .inr (2, [.ref (w 1), .int (nI v.n)])), ((w 1), aB g 600 v.b), ((w 2), .inr (1, [.ref (w 3), .ref (w 4), .ref (w 5), .ref (w 6), .int (nI v.lo)])), ((w 3), aJ g 4800 v.rw), ((w 4), aB g 600 v.bg), ((w 5), aB g 600 v.wt), ((w 6), aB g 600 v.dp), ((w 7), aI g 200 v.tg), ((w 8), aI g 200 v.ca), ((w 9), aI g 200 v.fs), ((w 10), aI g 200 v.sc), ((w 11), aI g 75 v.fa), ((w 12), aI g 75 v.ma), ((w 13), aI g 75 v.co)]) (wc := [(h0, .inr (3, [.ref (w 0), .ref (w 2), .ref (w 7), .ref (w 8), .ref (w 9), .ref (w 10), .ref (w 11), .ref (w 12), .ref (w 13), .int v.nu, .int v.th, .int v.it, .int (nI v.fi), .int (nI v.me), .int v.mp])), ((w 0), .inr (2, [.ref (w 1), .int (nI v.n)])), ((w 1), aB g 600 v.b), ((w 2), .inr (1, [.ref (w 3), .ref (w 4), .ref (w 5), .ref (w 6), .int (nI v.lo)])), ((w 3), aJ g 4800 v.rw), ((w 4), aB g 600 v.bg), ((w 5), aB g 600 v.wt), ((w 6), aB g 600 v.dp), ((w 7), aI g 200 v.tg), ((w 8), aI g 200 v.ca), ((w 9), aI g 200 v.fs), ((w 10), aI g 200 v.sc), ((w 11), aI g 75 v.fa), ((w 12), aI g 75 v.ma), ((w 13), aI g 75 v.co)]) (As := [.int a]) (rest := []) E hB hK hZ (s_Layout_textEnd l g s.heap.size h0 w v a hI) mc_Layout_textEnd mi_Layout_textEnd me_Layout_textEnd wd_577 hP hD hS hA [0, 1, 2, 3, 4, 5, 6, 7, 8, 9, 10, 11, 12, 13, 14] rfl (by decide) 0 rfl rfl rfl rfl rfl (by decide) rfl hl.1 rfl (Nat.le_of_ble_eq_true rfl) (by decide) d_Grammar_isMethodType_7) (fun r1 hr1 => ?_)
  refine lv_istore_n hx hb d_Grammar_isMethodType_10 rfl hl (by decide) rfl (fun ls hl => ?_)
  have hl : lv_has ls 6 [(3, .int r1), (2, .ref (w 0)), (0, .ref h0), (1, .int a)] := hl
  refine lv_aload_n hx hb d_Grammar_isMethodType_11 rfl (lv_at hl 2 rfl) ?_
  refine lv_iload_n hx hb d_Grammar_isMethodType_12 rfl (lv_at hl 3 rfl) ?_
  refine tw_si (tw_runV (ws := [(h0, .inr (3, [.ref (w 0), .ref (w 2), .ref (w 7), .ref (w 8), .ref (w 9), .ref (w 10), .ref (w 11), .ref (w 12), .ref (w 13), .int v.nu, .int v.th, .int v.it, .int (nI v.fi), .int (nI v.me), .int v.mp])), ((w 0), .inr (2, [.ref (w 1), .int (nI v.n)])), ((w 1), aB g 600 v.b), ((w 2), .inr (1, [.ref (w 3), .ref (w 4), .ref (w 5), .ref (w 6), .int (nI v.lo)])), ((w 3), aJ g 4800 v.rw), ((w 4), aB g 600 v.bg), ((w 5), aB g 600 v.wt), ((w 6), aB g 600 v.dp), ((w 7), aI g 200 v.tg), ((w 8), aI g 200 v.ca), ((w 9), aI g 200 v.fs), ((w 10), aI g 200 v.sc), ((w 11), aI g 75 v.fa), ((w 12), aI g 75 v.ma), ((w 13), aI g 75 v.co)]) (wc := [(h0, .inr (3, [.ref (w 0), .ref (w 2), .ref (w 7), .ref (w 8), .ref (w 9), .ref (w 10), .ref (w 11), .ref (w 12), .ref (w 13), .int v.nu, .int v.th, .int v.it, .int (nI v.fi), .int (nI v.me), .int v.mp])), ((w 0), .inr (2, [.ref (w 1), .int (nI v.n)])), ((w 1), aB g 600 v.b), ((w 2), .inr (1, [.ref (w 3), .ref (w 4), .ref (w 5), .ref (w 6), .int (nI v.lo)])), ((w 3), aJ g 4800 v.rw), ((w 4), aB g 600 v.bg), ((w 5), aB g 600 v.wt), ((w 6), aB g 600 v.dp), ((w 7), aI g 200 v.tg), ((w 8), aI g 200 v.ca), ((w 9), aI g 200 v.fs), ((w 10), aI g 200 v.sc), ((w 11), aI g 75 v.fa), ((w 12), aI g 75 v.ma), ((w 13), aI g 75 v.co)]) (As := [.int a]) (rest := []) E hB hK hZ (s_Layout_textFrom l g s.heap.size h0 w v a hI) mc_Layout_textFrom mi_Layout_textFrom me_Layout_textFrom wd_578 hP hD hS hA [0, 1, 2, 3, 4, 5, 6, 7, 8, 9, 10, 11, 12, 13, 14] rfl (by decide) 0 rfl rfl rfl rfl rfl (by decide) rfl hl.1 rfl (Nat.le_of_ble_eq_true rfl) (by decide) d_Grammar_isMethodType_13) (fun r2 hr2 => ?_)
  refine lv_istore hx hb d_Grammar_isMethodType_16 hl (by decide) rfl (fun ls hl => ?_)
  have hl : lv_has ls 6 [(4, .int r2), (3, .int r1), (2, .ref (w 0)), (0, .ref h0), (1, .int a)] := hl
  refine lv_iload hx hb d_Grammar_isMethodType_18 (lv_at hl 0 rfl) ?_
  refine lv_iload_n hx hb d_Grammar_isMethodType_20 rfl (lv_at hl 1 rfl) ?_
  refine lv_icmp_ge (tgt := 35) hx hb d_Grammar_isMethodType_21 (by decide) (fun h21 => ?_) (fun h21 => ?_)
  · refine lv_iconst (v := 0) hx hb d_Grammar_isMethodType_35 (by decide) ?_
    exact tw_zsret E (by decide) (by decide) d_Grammar_isMethodType_36
  · refine lv_aload_n hx hb d_Grammar_isMethodType_24 rfl (lv_at hl 2 rfl) ?_
    refine lv_iload hx hb d_Grammar_isMethodType_25 (lv_at hl 0 rfl) ?_
    refine tw_si (tw_runV (ws := [(h0, .inr (3, [.ref (w 0), .ref (w 2), .ref (w 7), .ref (w 8), .ref (w 9), .ref (w 10), .ref (w 11), .ref (w 12), .ref (w 13), .int v.nu, .int v.th, .int v.it, .int (nI v.fi), .int (nI v.me), .int v.mp])), ((w 0), .inr (2, [.ref (w 1), .int (nI v.n)])), ((w 1), aB g 600 v.b), ((w 2), .inr (1, [.ref (w 3), .ref (w 4), .ref (w 5), .ref (w 6), .int (nI v.lo)])), ((w 3), aJ g 4800 v.rw), ((w 4), aB g 600 v.bg), ((w 5), aB g 600 v.wt), ((w 6), aB g 600 v.dp), ((w 7), aI g 200 v.tg), ((w 8), aI g 200 v.ca), ((w 9), aI g 200 v.fs), ((w 10), aI g 200 v.sc), ((w 11), aI g 75 v.fa), ((w 12), aI g 75 v.ma), ((w 13), aI g 75 v.co)]) (wc := [((w 0), .inr (2, [.ref (w 1), .int (nI v.n)])), ((w 1), aB g 600 v.b)]) (As := [.int r2]) (rest := []) E hB hK hZ (c_Image_oneAt l g s.heap.size (w 0) (w 1) v.n v.b r2 hI.n) mc_Image_oneAt mi_Image_oneAt me_Image_oneAt wd_553 hP hD hS hA [1, 2] rfl (by decide) 0 rfl rfl rfl rfl rfl (by decide) rfl hl.1 rfl (Nat.le_of_ble_eq_true rfl) (by decide) d_Grammar_isMethodType_27) (fun r3 hr3 => ?_)
    refine lv_bipush (v := 40) hx hb d_Grammar_isMethodType_30 (by decide) ?_
    refine lv_icmp_eq (tgt := 37) hx hb d_Grammar_isMethodType_32 (by decide) (fun h32 => ?_) (fun h32 => ?_)
    · refine lv_iinc (k := 0) (v := r2 + 1) hx hb d_Grammar_isMethodType_37 hl rfl rfl (by decide) rfl (fun ls hl => ?_)
      have hl : lv_has ls 6 [(4, .int (r2 + 1)), (3, .int r1), (2, .ref (w 0)), (0, .ref h0), (1, .int a)] := hl
      refine lv_iconst (v := 0) hx hb d_Grammar_isMethodType_40 (by decide) ?_
      refine lv_istore hx hb d_Grammar_isMethodType_41 hl (by decide) rfl (fun ls hl => ?_)
      have hl : lv_has ls 6 [(5, .int 0), (4, .int (r2 + 1)), (3, .int r1), (2, .ref (w 0)), (0, .ref h0), (1, .int a)] := hl
      have loop43 : ∀ (kq : Nat) (at1 : Int32) (k : Int32) (ls : Array Slot) , ims k 600 = kq → lv_has ls 6 [(5, .int k), (4, .int at1), (3, .int r1), (2, .ref (w 0)), (0, .ref h0), (1, .int a)] → W p l e ({ frames := 3, cells := 0, slots := 0, locals := 72 }) s m [.ref h0, .int a].toArray below meth c s.heap [] 0 0 (MQ below (vp_Si (fun r => r = 0 ∨ r = 1)) [.ref h0, .int a].toArray s 0 0 (fun _ => False)) (F0 m 43 ls []) := by
        intro kq
        induction kq using Nat.strongRecOn with
        | _ kq ih =>
          intro at1 k ls hk  hl 
          refine lv_iload hx hb d_Grammar_isMethodType_43 (lv_at hl 0 rfl) ?_
          refine lv_sipush (v := 600) hx hb d_Grammar_isMethodType_45 (by decide) ?_
          refine lv_icmp_ge (tgt := 89) hx hb d_Grammar_isMethodType_48 (by decide) (fun h48 => ?_) (fun h48 => ?_)
          · refine lv_iload hx hb d_Grammar_isMethodType_89 (lv_at hl 1 rfl) ?_
            refine lv_iconst (v := (-1)) hx hb d_Grammar_isMethodType_91 (by decide) ?_
            refine lv_icmp_eq (tgt := 103) hx hb d_Grammar_isMethodType_92 (by decide) (fun h92 => ?_) (fun h92 => ?_)
            · refine lv_iconst (v := 0) hx hb d_Grammar_isMethodType_103 (by decide) ?_
              exact tw_zsret E (by decide) (by decide) d_Grammar_isMethodType_104
            · refine lv_iload hx hb d_Grammar_isMethodType_95 (lv_at hl 1 rfl) ?_
              refine lv_iconst (v := 1) hx hb d_Grammar_isMethodType_97 (by decide) ?_
              refine lv_iadd hx hb d_Grammar_isMethodType_98 ?_
              obtain ⟨x4, ex4⟩ : ∃ z : Int32, at1 + 1 = z := ⟨_, rfl⟩
              refine tw_ri (e2 := x4) ex4 ?_
              refine lv_iload_n hx hb d_Grammar_isMethodType_99 rfl (lv_at hl 2 rfl) ?_
              refine lv_icmp_lt (tgt := 105) hx hb d_Grammar_isMethodType_100 (by decide) (fun h100 => ?_) (fun h100 => ?_)
              · refine lv_aload_n hx hb d_Grammar_isMethodType_105 rfl (lv_at hl 3 rfl) ?_
                refine lv_iload hx hb d_Grammar_isMethodType_106 (lv_at hl 1 rfl) ?_
                refine lv_iconst (v := 1) hx hb d_Grammar_isMethodType_108 (by decide) ?_
                refine lv_iadd hx hb d_Grammar_isMethodType_109 ?_
                obtain ⟨x5, ex5⟩ : ∃ z : Int32, at1 + 1 = z := ⟨_, rfl⟩
                refine tw_ri (e2 := x5) ex5 ?_
                refine tw_si (tw_runV (ws := [(h0, .inr (3, [.ref (w 0), .ref (w 2), .ref (w 7), .ref (w 8), .ref (w 9), .ref (w 10), .ref (w 11), .ref (w 12), .ref (w 13), .int v.nu, .int v.th, .int v.it, .int (nI v.fi), .int (nI v.me), .int v.mp])), ((w 0), .inr (2, [.ref (w 1), .int (nI v.n)])), ((w 1), aB g 600 v.b), ((w 2), .inr (1, [.ref (w 3), .ref (w 4), .ref (w 5), .ref (w 6), .int (nI v.lo)])), ((w 3), aJ g 4800 v.rw), ((w 4), aB g 600 v.bg), ((w 5), aB g 600 v.wt), ((w 6), aB g 600 v.dp), ((w 7), aI g 200 v.tg), ((w 8), aI g 200 v.ca), ((w 9), aI g 200 v.fs), ((w 10), aI g 200 v.sc), ((w 11), aI g 75 v.fa), ((w 12), aI g 75 v.ma), ((w 13), aI g 75 v.co)]) (wc := [((w 0), .inr (2, [.ref (w 1), .int (nI v.n)])), ((w 1), aB g 600 v.b)]) (As := [.int x5]) (rest := []) E hB hK hZ (c_Image_oneAt l g s.heap.size (w 0) (w 1) v.n v.b x5 hI.n) mc_Image_oneAt mi_Image_oneAt me_Image_oneAt wd_553 hP hD hS hA [1, 2] rfl (by decide) 0 rfl rfl rfl rfl rfl (by decide) rfl hl.1 rfl (Nat.le_of_ble_eq_true rfl) (by decide) d_Grammar_isMethodType_110) (fun r6 hr6 => ?_)
                refine lv_bipush (v := 86) hx hb d_Grammar_isMethodType_113 (by decide) ?_
                refine lv_icmp_ne (tgt := 130) hx hb d_Grammar_isMethodType_115 (by decide) (fun h115 => ?_) (fun h115 => ?_)
                · refine lv_iconst (v := 0) hx hb d_Grammar_isMethodType_130 (by decide) ?_
                  refine lv_istore hx hb d_Grammar_isMethodType_131 hl (by decide) rfl (fun ls hl => ?_)
                  have hl : lv_has ls 6 [(5, .int 0), (4, .int at1), (3, .int r1), (2, .ref (w 0)), (0, .ref h0), (1, .int a)] := hl
                  refine lv_iload hx hb d_Grammar_isMethodType_133 (lv_at hl 0 rfl) ?_
                  refine lv_if_ne (tgt := 151) hx hb d_Grammar_isMethodType_135 (by decide) (fun h135 => ?_) (fun h135 => ?_)
                  · refine lv_iconst (v := 1) hx hb d_Grammar_isMethodType_151 (by decide) ?_
                    refine lv_goto (tgt := 156) hx hb d_Grammar_isMethodType_152 (by decide) ?_
                    exact tw_zsret E (by decide) (by decide) d_Grammar_isMethodType_156
                  · refine lv_aload_n hx hb d_Grammar_isMethodType_138 rfl (lv_at hl 3 rfl) ?_
                    refine lv_iload hx hb d_Grammar_isMethodType_139 (lv_at hl 1 rfl) ?_
                    refine lv_iconst (v := 1) hx hb d_Grammar_isMethodType_141 (by decide) ?_
                    refine lv_iadd hx hb d_Grammar_isMethodType_142 ?_
                    obtain ⟨x7, ex7⟩ : ∃ z : Int32, at1 + 1 = z := ⟨_, rfl⟩
                    refine tw_ri (e2 := x7) ex7 ?_
                    refine lv_iload_n hx hb d_Grammar_isMethodType_143 rfl (lv_at hl 2 rfl) ?_
                    refine tw_si (tw_runS (ws := [(h0, .inr (3, [.ref (w 0), .ref (w 2), .ref (w 7), .ref (w 8), .ref (w 9), .ref (w 10), .ref (w 11), .ref (w 12), .ref (w 13), .int v.nu, .int v.th, .int v.it, .int (nI v.fi), .int (nI v.me), .int v.mp])), ((w 0), .inr (2, [.ref (w 1), .int (nI v.n)])), ((w 1), aB g 600 v.b), ((w 2), .inr (1, [.ref (w 3), .ref (w 4), .ref (w 5), .ref (w 6), .int (nI v.lo)])), ((w 3), aJ g 4800 v.rw), ((w 4), aB g 600 v.bg), ((w 5), aB g 600 v.wt), ((w 6), aB g 600 v.dp), ((w 7), aI g 200 v.tg), ((w 8), aI g 200 v.ca), ((w 9), aI g 200 v.fs), ((w 10), aI g 200 v.sc), ((w 11), aI g 75 v.fa), ((w 12), aI g 75 v.ma), ((w 13), aI g 75 v.co)]) (wc := [((w 0), .inr (2, [.ref (w 1), .int (nI v.n)])), ((w 1), aB g 600 v.b)]) (As := [.ref (w 0), .int x7, .int r1]) (rest := []) E hB hK hZ (s_Grammar_behindType l g s.heap.size (w 0) (w 1) v.n v.b x7 r1 hI.n) mc_Grammar_behindType ms_Grammar_behindType wd_579 hP hD hS hA [1, 2] rfl (by decide) rfl rfl (by decide) rfl hl.1 rfl (Nat.le_of_ble_eq_true rfl) (by decide) d_Grammar_isMethodType_144) (fun r8 hr8 => ?_)
                    refine lv_iload_n hx hb d_Grammar_isMethodType_147 rfl (lv_at hl 2 rfl) ?_
                    refine lv_icmp_ne (tgt := 155) hx hb d_Grammar_isMethodType_148 (by decide) (fun h148 => ?_) (fun h148 => ?_)
                    · refine lv_iconst (v := 0) hx hb d_Grammar_isMethodType_155 (by decide) ?_
                      exact tw_zsret E (by decide) (by decide) d_Grammar_isMethodType_156
                    · refine lv_iconst (v := 1) hx hb d_Grammar_isMethodType_151 (by decide) ?_
                      refine lv_goto (tgt := 156) hx hb d_Grammar_isMethodType_152 (by decide) ?_
                      exact tw_zsret E (by decide) (by decide) d_Grammar_isMethodType_156
                · refine lv_iload hx hb d_Grammar_isMethodType_118 (lv_at hl 1 rfl) ?_
                  refine lv_iconst (v := 2) hx hb d_Grammar_isMethodType_120 (by decide) ?_
                  refine lv_iadd hx hb d_Grammar_isMethodType_121 ?_
                  obtain ⟨x9, ex9⟩ : ∃ z : Int32, at1 + 2 = z := ⟨_, rfl⟩
                  refine tw_ri (e2 := x9) ex9 ?_
                  refine lv_iload_n hx hb d_Grammar_isMethodType_122 rfl (lv_at hl 2 rfl) ?_
                  refine lv_icmp_ne (tgt := 130) hx hb d_Grammar_isMethodType_123 (by decide) (fun h123 => ?_) (fun h123 => ?_)
                  · refine lv_iconst (v := 0) hx hb d_Grammar_isMethodType_130 (by decide) ?_
                    refine lv_istore hx hb d_Grammar_isMethodType_131 hl (by decide) rfl (fun ls hl => ?_)
                    have hl : lv_has ls 6 [(5, .int 0), (4, .int at1), (3, .int r1), (2, .ref (w 0)), (0, .ref h0), (1, .int a)] := hl
                    refine lv_iload hx hb d_Grammar_isMethodType_133 (lv_at hl 0 rfl) ?_
                    refine lv_if_ne (tgt := 151) hx hb d_Grammar_isMethodType_135 (by decide) (fun h135 => ?_) (fun h135 => ?_)
                    · refine lv_iconst (v := 1) hx hb d_Grammar_isMethodType_151 (by decide) ?_
                      refine lv_goto (tgt := 156) hx hb d_Grammar_isMethodType_152 (by decide) ?_
                      exact tw_zsret E (by decide) (by decide) d_Grammar_isMethodType_156
                    · refine lv_aload_n hx hb d_Grammar_isMethodType_138 rfl (lv_at hl 3 rfl) ?_
                      refine lv_iload hx hb d_Grammar_isMethodType_139 (lv_at hl 1 rfl) ?_
                      refine lv_iconst (v := 1) hx hb d_Grammar_isMethodType_141 (by decide) ?_
                      refine lv_iadd hx hb d_Grammar_isMethodType_142 ?_
                      obtain ⟨x10, ex10⟩ : ∃ z : Int32, at1 + 1 = z := ⟨_, rfl⟩
                      refine tw_ri (e2 := x10) ex10 ?_
                      refine lv_iload_n hx hb d_Grammar_isMethodType_143 rfl (lv_at hl 2 rfl) ?_
                      refine tw_si (tw_runS (ws := [(h0, .inr (3, [.ref (w 0), .ref (w 2), .ref (w 7), .ref (w 8), .ref (w 9), .ref (w 10), .ref (w 11), .ref (w 12), .ref (w 13), .int v.nu, .int v.th, .int v.it, .int (nI v.fi), .int (nI v.me), .int v.mp])), ((w 0), .inr (2, [.ref (w 1), .int (nI v.n)])), ((w 1), aB g 600 v.b), ((w 2), .inr (1, [.ref (w 3), .ref (w 4), .ref (w 5), .ref (w 6), .int (nI v.lo)])), ((w 3), aJ g 4800 v.rw), ((w 4), aB g 600 v.bg), ((w 5), aB g 600 v.wt), ((w 6), aB g 600 v.dp), ((w 7), aI g 200 v.tg), ((w 8), aI g 200 v.ca), ((w 9), aI g 200 v.fs), ((w 10), aI g 200 v.sc), ((w 11), aI g 75 v.fa), ((w 12), aI g 75 v.ma), ((w 13), aI g 75 v.co)]) (wc := [((w 0), .inr (2, [.ref (w 1), .int (nI v.n)])), ((w 1), aB g 600 v.b)]) (As := [.ref (w 0), .int x10, .int r1]) (rest := []) E hB hK hZ (s_Grammar_behindType l g s.heap.size (w 0) (w 1) v.n v.b x10 r1 hI.n) mc_Grammar_behindType ms_Grammar_behindType wd_579 hP hD hS hA [1, 2] rfl (by decide) rfl rfl (by decide) rfl hl.1 rfl (Nat.le_of_ble_eq_true rfl) (by decide) d_Grammar_isMethodType_144) (fun r11 hr11 => ?_)
                      refine lv_iload_n hx hb d_Grammar_isMethodType_147 rfl (lv_at hl 2 rfl) ?_
                      refine lv_icmp_ne (tgt := 155) hx hb d_Grammar_isMethodType_148 (by decide) (fun h148 => ?_) (fun h148 => ?_)
                      · refine lv_iconst (v := 0) hx hb d_Grammar_isMethodType_155 (by decide) ?_
                        exact tw_zsret E (by decide) (by decide) d_Grammar_isMethodType_156
                      · refine lv_iconst (v := 1) hx hb d_Grammar_isMethodType_151 (by decide) ?_
                        refine lv_goto (tgt := 156) hx hb d_Grammar_isMethodType_152 (by decide) ?_
                        exact tw_zsret E (by decide) (by decide) d_Grammar_isMethodType_156
                  · refine lv_iconst (v := 1) hx hb d_Grammar_isMethodType_126 (by decide) ?_
                    refine lv_goto (tgt := 131) hx hb d_Grammar_isMethodType_127 (by decide) ?_
                    refine lv_istore hx hb d_Grammar_isMethodType_131 hl (by decide) rfl (fun ls hl => ?_)
                    have hl : lv_has ls 6 [(5, .int 1), (4, .int at1), (3, .int r1), (2, .ref (w 0)), (0, .ref h0), (1, .int a)] := hl
                    refine lv_iload hx hb d_Grammar_isMethodType_133 (lv_at hl 0 rfl) ?_
                    refine lv_if_ne (tgt := 151) hx hb d_Grammar_isMethodType_135 (by decide) (fun h135 => ?_) (fun h135 => ?_)
                    · refine lv_iconst (v := 1) hx hb d_Grammar_isMethodType_151 (by decide) ?_
                      refine lv_goto (tgt := 156) hx hb d_Grammar_isMethodType_152 (by decide) ?_
                      exact tw_zsret E (by decide) (by decide) d_Grammar_isMethodType_156
                    · refine lv_aload_n hx hb d_Grammar_isMethodType_138 rfl (lv_at hl 3 rfl) ?_
                      refine lv_iload hx hb d_Grammar_isMethodType_139 (lv_at hl 1 rfl) ?_
                      refine lv_iconst (v := 1) hx hb d_Grammar_isMethodType_141 (by decide) ?_
                      refine lv_iadd hx hb d_Grammar_isMethodType_142 ?_
                      obtain ⟨x12, ex12⟩ : ∃ z : Int32, at1 + 1 = z := ⟨_, rfl⟩
                      refine tw_ri (e2 := x12) ex12 ?_
                      refine lv_iload_n hx hb d_Grammar_isMethodType_143 rfl (lv_at hl 2 rfl) ?_
                      refine tw_si (tw_runS (ws := [(h0, .inr (3, [.ref (w 0), .ref (w 2), .ref (w 7), .ref (w 8), .ref (w 9), .ref (w 10), .ref (w 11), .ref (w 12), .ref (w 13), .int v.nu, .int v.th, .int v.it, .int (nI v.fi), .int (nI v.me), .int v.mp])), ((w 0), .inr (2, [.ref (w 1), .int (nI v.n)])), ((w 1), aB g 600 v.b), ((w 2), .inr (1, [.ref (w 3), .ref (w 4), .ref (w 5), .ref (w 6), .int (nI v.lo)])), ((w 3), aJ g 4800 v.rw), ((w 4), aB g 600 v.bg), ((w 5), aB g 600 v.wt), ((w 6), aB g 600 v.dp), ((w 7), aI g 200 v.tg), ((w 8), aI g 200 v.ca), ((w 9), aI g 200 v.fs), ((w 10), aI g 200 v.sc), ((w 11), aI g 75 v.fa), ((w 12), aI g 75 v.ma), ((w 13), aI g 75 v.co)]) (wc := [((w 0), .inr (2, [.ref (w 1), .int (nI v.n)])), ((w 1), aB g 600 v.b)]) (As := [.ref (w 0), .int x12, .int r1]) (rest := []) E hB hK hZ (s_Grammar_behindType l g s.heap.size (w 0) (w 1) v.n v.b x12 r1 hI.n) mc_Grammar_behindType ms_Grammar_behindType wd_579 hP hD hS hA [1, 2] rfl (by decide) rfl rfl (by decide) rfl hl.1 rfl (Nat.le_of_ble_eq_true rfl) (by decide) d_Grammar_isMethodType_144) (fun r13 hr13 => ?_)
                      refine lv_iload_n hx hb d_Grammar_isMethodType_147 rfl (lv_at hl 2 rfl) ?_
                      refine lv_icmp_ne (tgt := 155) hx hb d_Grammar_isMethodType_148 (by decide) (fun h148 => ?_) (fun h148 => ?_)
                      · refine lv_iconst (v := 0) hx hb d_Grammar_isMethodType_155 (by decide) ?_
                        exact tw_zsret E (by decide) (by decide) d_Grammar_isMethodType_156
                      · refine lv_iconst (v := 1) hx hb d_Grammar_isMethodType_151 (by decide) ?_
                        refine lv_goto (tgt := 156) hx hb d_Grammar_isMethodType_152 (by decide) ?_
                        exact tw_zsret E (by decide) (by decide) d_Grammar_isMethodType_156
              · refine lv_iconst (v := 0) hx hb d_Grammar_isMethodType_103 (by decide) ?_
                exact tw_zsret E (by decide) (by decide) d_Grammar_isMethodType_104
          · refine lv_iload hx hb d_Grammar_isMethodType_51 (lv_at hl 1 rfl) ?_
            refine lv_iconst (v := (-1)) hx hb d_Grammar_isMethodType_53 (by decide) ?_
            refine lv_icmp_eq (tgt := 89) hx hb d_Grammar_isMethodType_54 (by decide) (fun h54 => ?_) (fun h54 => ?_)
            · refine lv_iload hx hb d_Grammar_isMethodType_89 (lv_at hl 1 rfl) ?_
              refine lv_iconst (v := (-1)) hx hb d_Grammar_isMethodType_91 (by decide) ?_
              refine lv_icmp_eq (tgt := 103) hx hb d_Grammar_isMethodType_92 (by decide) (fun h92 => ?_) (fun h92 => ?_)
              · refine lv_iconst (v := 0) hx hb d_Grammar_isMethodType_103 (by decide) ?_
                exact tw_zsret E (by decide) (by decide) d_Grammar_isMethodType_104
              · refine lv_iload hx hb d_Grammar_isMethodType_95 (lv_at hl 1 rfl) ?_
                refine lv_iconst (v := 1) hx hb d_Grammar_isMethodType_97 (by decide) ?_
                refine lv_iadd hx hb d_Grammar_isMethodType_98 ?_
                obtain ⟨x14, ex14⟩ : ∃ z : Int32, at1 + 1 = z := ⟨_, rfl⟩
                refine tw_ri (e2 := x14) ex14 ?_
                refine lv_iload_n hx hb d_Grammar_isMethodType_99 rfl (lv_at hl 2 rfl) ?_
                refine lv_icmp_lt (tgt := 105) hx hb d_Grammar_isMethodType_100 (by decide) (fun h100 => ?_) (fun h100 => ?_)
                · refine lv_aload_n hx hb d_Grammar_isMethodType_105 rfl (lv_at hl 3 rfl) ?_
                  refine lv_iload hx hb d_Grammar_isMethodType_106 (lv_at hl 1 rfl) ?_
                  refine lv_iconst (v := 1) hx hb d_Grammar_isMethodType_108 (by decide) ?_
                  refine lv_iadd hx hb d_Grammar_isMethodType_109 ?_
                  obtain ⟨x15, ex15⟩ : ∃ z : Int32, at1 + 1 = z := ⟨_, rfl⟩
                  refine tw_ri (e2 := x15) ex15 ?_
                  refine tw_si (tw_runV (ws := [(h0, .inr (3, [.ref (w 0), .ref (w 2), .ref (w 7), .ref (w 8), .ref (w 9), .ref (w 10), .ref (w 11), .ref (w 12), .ref (w 13), .int v.nu, .int v.th, .int v.it, .int (nI v.fi), .int (nI v.me), .int v.mp])), ((w 0), .inr (2, [.ref (w 1), .int (nI v.n)])), ((w 1), aB g 600 v.b), ((w 2), .inr (1, [.ref (w 3), .ref (w 4), .ref (w 5), .ref (w 6), .int (nI v.lo)])), ((w 3), aJ g 4800 v.rw), ((w 4), aB g 600 v.bg), ((w 5), aB g 600 v.wt), ((w 6), aB g 600 v.dp), ((w 7), aI g 200 v.tg), ((w 8), aI g 200 v.ca), ((w 9), aI g 200 v.fs), ((w 10), aI g 200 v.sc), ((w 11), aI g 75 v.fa), ((w 12), aI g 75 v.ma), ((w 13), aI g 75 v.co)]) (wc := [((w 0), .inr (2, [.ref (w 1), .int (nI v.n)])), ((w 1), aB g 600 v.b)]) (As := [.int x15]) (rest := []) E hB hK hZ (c_Image_oneAt l g s.heap.size (w 0) (w 1) v.n v.b x15 hI.n) mc_Image_oneAt mi_Image_oneAt me_Image_oneAt wd_553 hP hD hS hA [1, 2] rfl (by decide) 0 rfl rfl rfl rfl rfl (by decide) rfl hl.1 rfl (Nat.le_of_ble_eq_true rfl) (by decide) d_Grammar_isMethodType_110) (fun r16 hr16 => ?_)
                  refine lv_bipush (v := 86) hx hb d_Grammar_isMethodType_113 (by decide) ?_
                  refine lv_icmp_ne (tgt := 130) hx hb d_Grammar_isMethodType_115 (by decide) (fun h115 => ?_) (fun h115 => ?_)
                  · refine lv_iconst (v := 0) hx hb d_Grammar_isMethodType_130 (by decide) ?_
                    refine lv_istore hx hb d_Grammar_isMethodType_131 hl (by decide) rfl (fun ls hl => ?_)
                    have hl : lv_has ls 6 [(5, .int 0), (4, .int at1), (3, .int r1), (2, .ref (w 0)), (0, .ref h0), (1, .int a)] := hl
                    refine lv_iload hx hb d_Grammar_isMethodType_133 (lv_at hl 0 rfl) ?_
                    refine lv_if_ne (tgt := 151) hx hb d_Grammar_isMethodType_135 (by decide) (fun h135 => ?_) (fun h135 => ?_)
                    · refine lv_iconst (v := 1) hx hb d_Grammar_isMethodType_151 (by decide) ?_
                      refine lv_goto (tgt := 156) hx hb d_Grammar_isMethodType_152 (by decide) ?_
                      exact tw_zsret E (by decide) (by decide) d_Grammar_isMethodType_156
                    · refine lv_aload_n hx hb d_Grammar_isMethodType_138 rfl (lv_at hl 3 rfl) ?_
                      refine lv_iload hx hb d_Grammar_isMethodType_139 (lv_at hl 1 rfl) ?_
                      refine lv_iconst (v := 1) hx hb d_Grammar_isMethodType_141 (by decide) ?_
                      refine lv_iadd hx hb d_Grammar_isMethodType_142 ?_
                      obtain ⟨x17, ex17⟩ : ∃ z : Int32, at1 + 1 = z := ⟨_, rfl⟩
                      refine tw_ri (e2 := x17) ex17 ?_
                      refine lv_iload_n hx hb d_Grammar_isMethodType_143 rfl (lv_at hl 2 rfl) ?_
                      refine tw_si (tw_runS (ws := [(h0, .inr (3, [.ref (w 0), .ref (w 2), .ref (w 7), .ref (w 8), .ref (w 9), .ref (w 10), .ref (w 11), .ref (w 12), .ref (w 13), .int v.nu, .int v.th, .int v.it, .int (nI v.fi), .int (nI v.me), .int v.mp])), ((w 0), .inr (2, [.ref (w 1), .int (nI v.n)])), ((w 1), aB g 600 v.b), ((w 2), .inr (1, [.ref (w 3), .ref (w 4), .ref (w 5), .ref (w 6), .int (nI v.lo)])), ((w 3), aJ g 4800 v.rw), ((w 4), aB g 600 v.bg), ((w 5), aB g 600 v.wt), ((w 6), aB g 600 v.dp), ((w 7), aI g 200 v.tg), ((w 8), aI g 200 v.ca), ((w 9), aI g 200 v.fs), ((w 10), aI g 200 v.sc), ((w 11), aI g 75 v.fa), ((w 12), aI g 75 v.ma), ((w 13), aI g 75 v.co)]) (wc := [((w 0), .inr (2, [.ref (w 1), .int (nI v.n)])), ((w 1), aB g 600 v.b)]) (As := [.ref (w 0), .int x17, .int r1]) (rest := []) E hB hK hZ (s_Grammar_behindType l g s.heap.size (w 0) (w 1) v.n v.b x17 r1 hI.n) mc_Grammar_behindType ms_Grammar_behindType wd_579 hP hD hS hA [1, 2] rfl (by decide) rfl rfl (by decide) rfl hl.1 rfl (Nat.le_of_ble_eq_true rfl) (by decide) d_Grammar_isMethodType_144) (fun r18 hr18 => ?_)
                      refine lv_iload_n hx hb d_Grammar_isMethodType_147 rfl (lv_at hl 2 rfl) ?_
                      refine lv_icmp_ne (tgt := 155) hx hb d_Grammar_isMethodType_148 (by decide) (fun h148 => ?_) (fun h148 => ?_)
                      · refine lv_iconst (v := 0) hx hb d_Grammar_isMethodType_155 (by decide) ?_
                        exact tw_zsret E (by decide) (by decide) d_Grammar_isMethodType_156
                      · refine lv_iconst (v := 1) hx hb d_Grammar_isMethodType_151 (by decide) ?_
                        refine lv_goto (tgt := 156) hx hb d_Grammar_isMethodType_152 (by decide) ?_
                        exact tw_zsret E (by decide) (by decide) d_Grammar_isMethodType_156
                  · refine lv_iload hx hb d_Grammar_isMethodType_118 (lv_at hl 1 rfl) ?_
                    refine lv_iconst (v := 2) hx hb d_Grammar_isMethodType_120 (by decide) ?_
                    refine lv_iadd hx hb d_Grammar_isMethodType_121 ?_
                    obtain ⟨x19, ex19⟩ : ∃ z : Int32, at1 + 2 = z := ⟨_, rfl⟩
                    refine tw_ri (e2 := x19) ex19 ?_
                    refine lv_iload_n hx hb d_Grammar_isMethodType_122 rfl (lv_at hl 2 rfl) ?_
                    refine lv_icmp_ne (tgt := 130) hx hb d_Grammar_isMethodType_123 (by decide) (fun h123 => ?_) (fun h123 => ?_)
                    · refine lv_iconst (v := 0) hx hb d_Grammar_isMethodType_130 (by decide) ?_
                      refine lv_istore hx hb d_Grammar_isMethodType_131 hl (by decide) rfl (fun ls hl => ?_)
                      have hl : lv_has ls 6 [(5, .int 0), (4, .int at1), (3, .int r1), (2, .ref (w 0)), (0, .ref h0), (1, .int a)] := hl
                      refine lv_iload hx hb d_Grammar_isMethodType_133 (lv_at hl 0 rfl) ?_
                      refine lv_if_ne (tgt := 151) hx hb d_Grammar_isMethodType_135 (by decide) (fun h135 => ?_) (fun h135 => ?_)
                      · refine lv_iconst (v := 1) hx hb d_Grammar_isMethodType_151 (by decide) ?_
                        refine lv_goto (tgt := 156) hx hb d_Grammar_isMethodType_152 (by decide) ?_
                        exact tw_zsret E (by decide) (by decide) d_Grammar_isMethodType_156
                      · refine lv_aload_n hx hb d_Grammar_isMethodType_138 rfl (lv_at hl 3 rfl) ?_
                        refine lv_iload hx hb d_Grammar_isMethodType_139 (lv_at hl 1 rfl) ?_
                        refine lv_iconst (v := 1) hx hb d_Grammar_isMethodType_141 (by decide) ?_
                        refine lv_iadd hx hb d_Grammar_isMethodType_142 ?_
                        obtain ⟨x20, ex20⟩ : ∃ z : Int32, at1 + 1 = z := ⟨_, rfl⟩
                        refine tw_ri (e2 := x20) ex20 ?_
                        refine lv_iload_n hx hb d_Grammar_isMethodType_143 rfl (lv_at hl 2 rfl) ?_
                        refine tw_si (tw_runS (ws := [(h0, .inr (3, [.ref (w 0), .ref (w 2), .ref (w 7), .ref (w 8), .ref (w 9), .ref (w 10), .ref (w 11), .ref (w 12), .ref (w 13), .int v.nu, .int v.th, .int v.it, .int (nI v.fi), .int (nI v.me), .int v.mp])), ((w 0), .inr (2, [.ref (w 1), .int (nI v.n)])), ((w 1), aB g 600 v.b), ((w 2), .inr (1, [.ref (w 3), .ref (w 4), .ref (w 5), .ref (w 6), .int (nI v.lo)])), ((w 3), aJ g 4800 v.rw), ((w 4), aB g 600 v.bg), ((w 5), aB g 600 v.wt), ((w 6), aB g 600 v.dp), ((w 7), aI g 200 v.tg), ((w 8), aI g 200 v.ca), ((w 9), aI g 200 v.fs), ((w 10), aI g 200 v.sc), ((w 11), aI g 75 v.fa), ((w 12), aI g 75 v.ma), ((w 13), aI g 75 v.co)]) (wc := [((w 0), .inr (2, [.ref (w 1), .int (nI v.n)])), ((w 1), aB g 600 v.b)]) (As := [.ref (w 0), .int x20, .int r1]) (rest := []) E hB hK hZ (s_Grammar_behindType l g s.heap.size (w 0) (w 1) v.n v.b x20 r1 hI.n) mc_Grammar_behindType ms_Grammar_behindType wd_579 hP hD hS hA [1, 2] rfl (by decide) rfl rfl (by decide) rfl hl.1 rfl (Nat.le_of_ble_eq_true rfl) (by decide) d_Grammar_isMethodType_144) (fun r21 hr21 => ?_)
                        refine lv_iload_n hx hb d_Grammar_isMethodType_147 rfl (lv_at hl 2 rfl) ?_
                        refine lv_icmp_ne (tgt := 155) hx hb d_Grammar_isMethodType_148 (by decide) (fun h148 => ?_) (fun h148 => ?_)
                        · refine lv_iconst (v := 0) hx hb d_Grammar_isMethodType_155 (by decide) ?_
                          exact tw_zsret E (by decide) (by decide) d_Grammar_isMethodType_156
                        · refine lv_iconst (v := 1) hx hb d_Grammar_isMethodType_151 (by decide) ?_
                          refine lv_goto (tgt := 156) hx hb d_Grammar_isMethodType_152 (by decide) ?_
                          exact tw_zsret E (by decide) (by decide) d_Grammar_isMethodType_156
                    · refine lv_iconst (v := 1) hx hb d_Grammar_isMethodType_126 (by decide) ?_
                      refine lv_goto (tgt := 131) hx hb d_Grammar_isMethodType_127 (by decide) ?_
                      refine lv_istore hx hb d_Grammar_isMethodType_131 hl (by decide) rfl (fun ls hl => ?_)
                      have hl : lv_has ls 6 [(5, .int 1), (4, .int at1), (3, .int r1), (2, .ref (w 0)), (0, .ref h0), (1, .int a)] := hl
                      refine lv_iload hx hb d_Grammar_isMethodType_133 (lv_at hl 0 rfl) ?_
                      refine lv_if_ne (tgt := 151) hx hb d_Grammar_isMethodType_135 (by decide) (fun h135 => ?_) (fun h135 => ?_)
                      · refine lv_iconst (v := 1) hx hb d_Grammar_isMethodType_151 (by decide) ?_
                        refine lv_goto (tgt := 156) hx hb d_Grammar_isMethodType_152 (by decide) ?_
                        exact tw_zsret E (by decide) (by decide) d_Grammar_isMethodType_156
                      · refine lv_aload_n hx hb d_Grammar_isMethodType_138 rfl (lv_at hl 3 rfl) ?_
                        refine lv_iload hx hb d_Grammar_isMethodType_139 (lv_at hl 1 rfl) ?_
                        refine lv_iconst (v := 1) hx hb d_Grammar_isMethodType_141 (by decide) ?_
                        refine lv_iadd hx hb d_Grammar_isMethodType_142 ?_
                        obtain ⟨x22, ex22⟩ : ∃ z : Int32, at1 + 1 = z := ⟨_, rfl⟩
                        refine tw_ri (e2 := x22) ex22 ?_
                        refine lv_iload_n hx hb d_Grammar_isMethodType_143 rfl (lv_at hl 2 rfl) ?_
                        refine tw_si (tw_runS (ws := [(h0, .inr (3, [.ref (w 0), .ref (w 2), .ref (w 7), .ref (w 8), .ref (w 9), .ref (w 10), .ref (w 11), .ref (w 12), .ref (w 13), .int v.nu, .int v.th, .int v.it, .int (nI v.fi), .int (nI v.me), .int v.mp])), ((w 0), .inr (2, [.ref (w 1), .int (nI v.n)])), ((w 1), aB g 600 v.b), ((w 2), .inr (1, [.ref (w 3), .ref (w 4), .ref (w 5), .ref (w 6), .int (nI v.lo)])), ((w 3), aJ g 4800 v.rw), ((w 4), aB g 600 v.bg), ((w 5), aB g 600 v.wt), ((w 6), aB g 600 v.dp), ((w 7), aI g 200 v.tg), ((w 8), aI g 200 v.ca), ((w 9), aI g 200 v.fs), ((w 10), aI g 200 v.sc), ((w 11), aI g 75 v.fa), ((w 12), aI g 75 v.ma), ((w 13), aI g 75 v.co)]) (wc := [((w 0), .inr (2, [.ref (w 1), .int (nI v.n)])), ((w 1), aB g 600 v.b)]) (As := [.ref (w 0), .int x22, .int r1]) (rest := []) E hB hK hZ (s_Grammar_behindType l g s.heap.size (w 0) (w 1) v.n v.b x22 r1 hI.n) mc_Grammar_behindType ms_Grammar_behindType wd_579 hP hD hS hA [1, 2] rfl (by decide) rfl rfl (by decide) rfl hl.1 rfl (Nat.le_of_ble_eq_true rfl) (by decide) d_Grammar_isMethodType_144) (fun r23 hr23 => ?_)
                        refine lv_iload_n hx hb d_Grammar_isMethodType_147 rfl (lv_at hl 2 rfl) ?_
                        refine lv_icmp_ne (tgt := 155) hx hb d_Grammar_isMethodType_148 (by decide) (fun h148 => ?_) (fun h148 => ?_)
                        · refine lv_iconst (v := 0) hx hb d_Grammar_isMethodType_155 (by decide) ?_
                          exact tw_zsret E (by decide) (by decide) d_Grammar_isMethodType_156
                        · refine lv_iconst (v := 1) hx hb d_Grammar_isMethodType_151 (by decide) ?_
                          refine lv_goto (tgt := 156) hx hb d_Grammar_isMethodType_152 (by decide) ?_
                          exact tw_zsret E (by decide) (by decide) d_Grammar_isMethodType_156
                · refine lv_iconst (v := 0) hx hb d_Grammar_isMethodType_103 (by decide) ?_
                  exact tw_zsret E (by decide) (by decide) d_Grammar_isMethodType_104
            · refine lv_iload hx hb d_Grammar_isMethodType_57 (lv_at hl 1 rfl) ?_
              refine lv_iload_n hx hb d_Grammar_isMethodType_59 rfl (lv_at hl 2 rfl) ?_
              refine lv_icmp_ge (tgt := 89) hx hb d_Grammar_isMethodType_60 (by decide) (fun h60 => ?_) (fun h60 => ?_)
              · refine lv_iload hx hb d_Grammar_isMethodType_89 (lv_at hl 1 rfl) ?_
                refine lv_iconst (v := (-1)) hx hb d_Grammar_isMethodType_91 (by decide) ?_
                refine lv_icmp_eq (tgt := 103) hx hb d_Grammar_isMethodType_92 (by decide) (fun h92 => ?_) (fun h92 => ?_)
                · refine lv_iconst (v := 0) hx hb d_Grammar_isMethodType_103 (by decide) ?_
                  exact tw_zsret E (by decide) (by decide) d_Grammar_isMethodType_104
                · refine lv_iload hx hb d_Grammar_isMethodType_95 (lv_at hl 1 rfl) ?_
                  refine lv_iconst (v := 1) hx hb d_Grammar_isMethodType_97 (by decide) ?_
                  refine lv_iadd hx hb d_Grammar_isMethodType_98 ?_
                  obtain ⟨x24, ex24⟩ : ∃ z : Int32, at1 + 1 = z := ⟨_, rfl⟩
                  refine tw_ri (e2 := x24) ex24 ?_
                  refine lv_iload_n hx hb d_Grammar_isMethodType_99 rfl (lv_at hl 2 rfl) ?_
                  refine lv_icmp_lt (tgt := 105) hx hb d_Grammar_isMethodType_100 (by decide) (fun h100 => ?_) (fun h100 => ?_)
                  · refine lv_aload_n hx hb d_Grammar_isMethodType_105 rfl (lv_at hl 3 rfl) ?_
                    refine lv_iload hx hb d_Grammar_isMethodType_106 (lv_at hl 1 rfl) ?_
                    refine lv_iconst (v := 1) hx hb d_Grammar_isMethodType_108 (by decide) ?_
                    refine lv_iadd hx hb d_Grammar_isMethodType_109 ?_
                    obtain ⟨x25, ex25⟩ : ∃ z : Int32, at1 + 1 = z := ⟨_, rfl⟩
                    refine tw_ri (e2 := x25) ex25 ?_
                    refine tw_si (tw_runV (ws := [(h0, .inr (3, [.ref (w 0), .ref (w 2), .ref (w 7), .ref (w 8), .ref (w 9), .ref (w 10), .ref (w 11), .ref (w 12), .ref (w 13), .int v.nu, .int v.th, .int v.it, .int (nI v.fi), .int (nI v.me), .int v.mp])), ((w 0), .inr (2, [.ref (w 1), .int (nI v.n)])), ((w 1), aB g 600 v.b), ((w 2), .inr (1, [.ref (w 3), .ref (w 4), .ref (w 5), .ref (w 6), .int (nI v.lo)])), ((w 3), aJ g 4800 v.rw), ((w 4), aB g 600 v.bg), ((w 5), aB g 600 v.wt), ((w 6), aB g 600 v.dp), ((w 7), aI g 200 v.tg), ((w 8), aI g 200 v.ca), ((w 9), aI g 200 v.fs), ((w 10), aI g 200 v.sc), ((w 11), aI g 75 v.fa), ((w 12), aI g 75 v.ma), ((w 13), aI g 75 v.co)]) (wc := [((w 0), .inr (2, [.ref (w 1), .int (nI v.n)])), ((w 1), aB g 600 v.b)]) (As := [.int x25]) (rest := []) E hB hK hZ (c_Image_oneAt l g s.heap.size (w 0) (w 1) v.n v.b x25 hI.n) mc_Image_oneAt mi_Image_oneAt me_Image_oneAt wd_553 hP hD hS hA [1, 2] rfl (by decide) 0 rfl rfl rfl rfl rfl (by decide) rfl hl.1 rfl (Nat.le_of_ble_eq_true rfl) (by decide) d_Grammar_isMethodType_110) (fun r26 hr26 => ?_)
                    refine lv_bipush (v := 86) hx hb d_Grammar_isMethodType_113 (by decide) ?_
                    refine lv_icmp_ne (tgt := 130) hx hb d_Grammar_isMethodType_115 (by decide) (fun h115 => ?_) (fun h115 => ?_)
                    · refine lv_iconst (v := 0) hx hb d_Grammar_isMethodType_130 (by decide) ?_
                      refine lv_istore hx hb d_Grammar_isMethodType_131 hl (by decide) rfl (fun ls hl => ?_)
                      have hl : lv_has ls 6 [(5, .int 0), (4, .int at1), (3, .int r1), (2, .ref (w 0)), (0, .ref h0), (1, .int a)] := hl
                      refine lv_iload hx hb d_Grammar_isMethodType_133 (lv_at hl 0 rfl) ?_
                      refine lv_if_ne (tgt := 151) hx hb d_Grammar_isMethodType_135 (by decide) (fun h135 => ?_) (fun h135 => ?_)
                      · refine lv_iconst (v := 1) hx hb d_Grammar_isMethodType_151 (by decide) ?_
                        refine lv_goto (tgt := 156) hx hb d_Grammar_isMethodType_152 (by decide) ?_
                        exact tw_zsret E (by decide) (by decide) d_Grammar_isMethodType_156
                      · refine lv_aload_n hx hb d_Grammar_isMethodType_138 rfl (lv_at hl 3 rfl) ?_
                        refine lv_iload hx hb d_Grammar_isMethodType_139 (lv_at hl 1 rfl) ?_
                        refine lv_iconst (v := 1) hx hb d_Grammar_isMethodType_141 (by decide) ?_
                        refine lv_iadd hx hb d_Grammar_isMethodType_142 ?_
                        obtain ⟨x27, ex27⟩ : ∃ z : Int32, at1 + 1 = z := ⟨_, rfl⟩
                        refine tw_ri (e2 := x27) ex27 ?_
                        refine lv_iload_n hx hb d_Grammar_isMethodType_143 rfl (lv_at hl 2 rfl) ?_
                        refine tw_si (tw_runS (ws := [(h0, .inr (3, [.ref (w 0), .ref (w 2), .ref (w 7), .ref (w 8), .ref (w 9), .ref (w 10), .ref (w 11), .ref (w 12), .ref (w 13), .int v.nu, .int v.th, .int v.it, .int (nI v.fi), .int (nI v.me), .int v.mp])), ((w 0), .inr (2, [.ref (w 1), .int (nI v.n)])), ((w 1), aB g 600 v.b), ((w 2), .inr (1, [.ref (w 3), .ref (w 4), .ref (w 5), .ref (w 6), .int (nI v.lo)])), ((w 3), aJ g 4800 v.rw), ((w 4), aB g 600 v.bg), ((w 5), aB g 600 v.wt), ((w 6), aB g 600 v.dp), ((w 7), aI g 200 v.tg), ((w 8), aI g 200 v.ca), ((w 9), aI g 200 v.fs), ((w 10), aI g 200 v.sc), ((w 11), aI g 75 v.fa), ((w 12), aI g 75 v.ma), ((w 13), aI g 75 v.co)]) (wc := [((w 0), .inr (2, [.ref (w 1), .int (nI v.n)])), ((w 1), aB g 600 v.b)]) (As := [.ref (w 0), .int x27, .int r1]) (rest := []) E hB hK hZ (s_Grammar_behindType l g s.heap.size (w 0) (w 1) v.n v.b x27 r1 hI.n) mc_Grammar_behindType ms_Grammar_behindType wd_579 hP hD hS hA [1, 2] rfl (by decide) rfl rfl (by decide) rfl hl.1 rfl (Nat.le_of_ble_eq_true rfl) (by decide) d_Grammar_isMethodType_144) (fun r28 hr28 => ?_)
                        refine lv_iload_n hx hb d_Grammar_isMethodType_147 rfl (lv_at hl 2 rfl) ?_
                        refine lv_icmp_ne (tgt := 155) hx hb d_Grammar_isMethodType_148 (by decide) (fun h148 => ?_) (fun h148 => ?_)
                        · refine lv_iconst (v := 0) hx hb d_Grammar_isMethodType_155 (by decide) ?_
                          exact tw_zsret E (by decide) (by decide) d_Grammar_isMethodType_156
                        · refine lv_iconst (v := 1) hx hb d_Grammar_isMethodType_151 (by decide) ?_
                          refine lv_goto (tgt := 156) hx hb d_Grammar_isMethodType_152 (by decide) ?_
                          exact tw_zsret E (by decide) (by decide) d_Grammar_isMethodType_156
                    · refine lv_iload hx hb d_Grammar_isMethodType_118 (lv_at hl 1 rfl) ?_
                      refine lv_iconst (v := 2) hx hb d_Grammar_isMethodType_120 (by decide) ?_
                      refine lv_iadd hx hb d_Grammar_isMethodType_121 ?_
                      obtain ⟨x29, ex29⟩ : ∃ z : Int32, at1 + 2 = z := ⟨_, rfl⟩
                      refine tw_ri (e2 := x29) ex29 ?_
                      refine lv_iload_n hx hb d_Grammar_isMethodType_122 rfl (lv_at hl 2 rfl) ?_
                      refine lv_icmp_ne (tgt := 130) hx hb d_Grammar_isMethodType_123 (by decide) (fun h123 => ?_) (fun h123 => ?_)
                      · refine lv_iconst (v := 0) hx hb d_Grammar_isMethodType_130 (by decide) ?_
                        refine lv_istore hx hb d_Grammar_isMethodType_131 hl (by decide) rfl (fun ls hl => ?_)
                        have hl : lv_has ls 6 [(5, .int 0), (4, .int at1), (3, .int r1), (2, .ref (w 0)), (0, .ref h0), (1, .int a)] := hl
                        refine lv_iload hx hb d_Grammar_isMethodType_133 (lv_at hl 0 rfl) ?_
                        refine lv_if_ne (tgt := 151) hx hb d_Grammar_isMethodType_135 (by decide) (fun h135 => ?_) (fun h135 => ?_)
                        · refine lv_iconst (v := 1) hx hb d_Grammar_isMethodType_151 (by decide) ?_
                          refine lv_goto (tgt := 156) hx hb d_Grammar_isMethodType_152 (by decide) ?_
                          exact tw_zsret E (by decide) (by decide) d_Grammar_isMethodType_156
                        · refine lv_aload_n hx hb d_Grammar_isMethodType_138 rfl (lv_at hl 3 rfl) ?_
                          refine lv_iload hx hb d_Grammar_isMethodType_139 (lv_at hl 1 rfl) ?_
                          refine lv_iconst (v := 1) hx hb d_Grammar_isMethodType_141 (by decide) ?_
                          refine lv_iadd hx hb d_Grammar_isMethodType_142 ?_
                          obtain ⟨x30, ex30⟩ : ∃ z : Int32, at1 + 1 = z := ⟨_, rfl⟩
                          refine tw_ri (e2 := x30) ex30 ?_
                          refine lv_iload_n hx hb d_Grammar_isMethodType_143 rfl (lv_at hl 2 rfl) ?_
                          refine tw_si (tw_runS (ws := [(h0, .inr (3, [.ref (w 0), .ref (w 2), .ref (w 7), .ref (w 8), .ref (w 9), .ref (w 10), .ref (w 11), .ref (w 12), .ref (w 13), .int v.nu, .int v.th, .int v.it, .int (nI v.fi), .int (nI v.me), .int v.mp])), ((w 0), .inr (2, [.ref (w 1), .int (nI v.n)])), ((w 1), aB g 600 v.b), ((w 2), .inr (1, [.ref (w 3), .ref (w 4), .ref (w 5), .ref (w 6), .int (nI v.lo)])), ((w 3), aJ g 4800 v.rw), ((w 4), aB g 600 v.bg), ((w 5), aB g 600 v.wt), ((w 6), aB g 600 v.dp), ((w 7), aI g 200 v.tg), ((w 8), aI g 200 v.ca), ((w 9), aI g 200 v.fs), ((w 10), aI g 200 v.sc), ((w 11), aI g 75 v.fa), ((w 12), aI g 75 v.ma), ((w 13), aI g 75 v.co)]) (wc := [((w 0), .inr (2, [.ref (w 1), .int (nI v.n)])), ((w 1), aB g 600 v.b)]) (As := [.ref (w 0), .int x30, .int r1]) (rest := []) E hB hK hZ (s_Grammar_behindType l g s.heap.size (w 0) (w 1) v.n v.b x30 r1 hI.n) mc_Grammar_behindType ms_Grammar_behindType wd_579 hP hD hS hA [1, 2] rfl (by decide) rfl rfl (by decide) rfl hl.1 rfl (Nat.le_of_ble_eq_true rfl) (by decide) d_Grammar_isMethodType_144) (fun r31 hr31 => ?_)
                          refine lv_iload_n hx hb d_Grammar_isMethodType_147 rfl (lv_at hl 2 rfl) ?_
                          refine lv_icmp_ne (tgt := 155) hx hb d_Grammar_isMethodType_148 (by decide) (fun h148 => ?_) (fun h148 => ?_)
                          · refine lv_iconst (v := 0) hx hb d_Grammar_isMethodType_155 (by decide) ?_
                            exact tw_zsret E (by decide) (by decide) d_Grammar_isMethodType_156
                          · refine lv_iconst (v := 1) hx hb d_Grammar_isMethodType_151 (by decide) ?_
                            refine lv_goto (tgt := 156) hx hb d_Grammar_isMethodType_152 (by decide) ?_
                            exact tw_zsret E (by decide) (by decide) d_Grammar_isMethodType_156
                      · refine lv_iconst (v := 1) hx hb d_Grammar_isMethodType_126 (by decide) ?_
                        refine lv_goto (tgt := 131) hx hb d_Grammar_isMethodType_127 (by decide) ?_
                        refine lv_istore hx hb d_Grammar_isMethodType_131 hl (by decide) rfl (fun ls hl => ?_)
                        have hl : lv_has ls 6 [(5, .int 1), (4, .int at1), (3, .int r1), (2, .ref (w 0)), (0, .ref h0), (1, .int a)] := hl
                        refine lv_iload hx hb d_Grammar_isMethodType_133 (lv_at hl 0 rfl) ?_
                        refine lv_if_ne (tgt := 151) hx hb d_Grammar_isMethodType_135 (by decide) (fun h135 => ?_) (fun h135 => ?_)
                        · refine lv_iconst (v := 1) hx hb d_Grammar_isMethodType_151 (by decide) ?_
                          refine lv_goto (tgt := 156) hx hb d_Grammar_isMethodType_152 (by decide) ?_
                          exact tw_zsret E (by decide) (by decide) d_Grammar_isMethodType_156
                        · refine lv_aload_n hx hb d_Grammar_isMethodType_138 rfl (lv_at hl 3 rfl) ?_
                          refine lv_iload hx hb d_Grammar_isMethodType_139 (lv_at hl 1 rfl) ?_
                          refine lv_iconst (v := 1) hx hb d_Grammar_isMethodType_141 (by decide) ?_
                          refine lv_iadd hx hb d_Grammar_isMethodType_142 ?_
                          obtain ⟨x32, ex32⟩ : ∃ z : Int32, at1 + 1 = z := ⟨_, rfl⟩
                          refine tw_ri (e2 := x32) ex32 ?_
                          refine lv_iload_n hx hb d_Grammar_isMethodType_143 rfl (lv_at hl 2 rfl) ?_
                          refine tw_si (tw_runS (ws := [(h0, .inr (3, [.ref (w 0), .ref (w 2), .ref (w 7), .ref (w 8), .ref (w 9), .ref (w 10), .ref (w 11), .ref (w 12), .ref (w 13), .int v.nu, .int v.th, .int v.it, .int (nI v.fi), .int (nI v.me), .int v.mp])), ((w 0), .inr (2, [.ref (w 1), .int (nI v.n)])), ((w 1), aB g 600 v.b), ((w 2), .inr (1, [.ref (w 3), .ref (w 4), .ref (w 5), .ref (w 6), .int (nI v.lo)])), ((w 3), aJ g 4800 v.rw), ((w 4), aB g 600 v.bg), ((w 5), aB g 600 v.wt), ((w 6), aB g 600 v.dp), ((w 7), aI g 200 v.tg), ((w 8), aI g 200 v.ca), ((w 9), aI g 200 v.fs), ((w 10), aI g 200 v.sc), ((w 11), aI g 75 v.fa), ((w 12), aI g 75 v.ma), ((w 13), aI g 75 v.co)]) (wc := [((w 0), .inr (2, [.ref (w 1), .int (nI v.n)])), ((w 1), aB g 600 v.b)]) (As := [.ref (w 0), .int x32, .int r1]) (rest := []) E hB hK hZ (s_Grammar_behindType l g s.heap.size (w 0) (w 1) v.n v.b x32 r1 hI.n) mc_Grammar_behindType ms_Grammar_behindType wd_579 hP hD hS hA [1, 2] rfl (by decide) rfl rfl (by decide) rfl hl.1 rfl (Nat.le_of_ble_eq_true rfl) (by decide) d_Grammar_isMethodType_144) (fun r33 hr33 => ?_)
                          refine lv_iload_n hx hb d_Grammar_isMethodType_147 rfl (lv_at hl 2 rfl) ?_
                          refine lv_icmp_ne (tgt := 155) hx hb d_Grammar_isMethodType_148 (by decide) (fun h148 => ?_) (fun h148 => ?_)
                          · refine lv_iconst (v := 0) hx hb d_Grammar_isMethodType_155 (by decide) ?_
                            exact tw_zsret E (by decide) (by decide) d_Grammar_isMethodType_156
                          · refine lv_iconst (v := 1) hx hb d_Grammar_isMethodType_151 (by decide) ?_
                            refine lv_goto (tgt := 156) hx hb d_Grammar_isMethodType_152 (by decide) ?_
                            exact tw_zsret E (by decide) (by decide) d_Grammar_isMethodType_156
                  · refine lv_iconst (v := 0) hx hb d_Grammar_isMethodType_103 (by decide) ?_
                    exact tw_zsret E (by decide) (by decide) d_Grammar_isMethodType_104
              · refine lv_aload_n hx hb d_Grammar_isMethodType_63 rfl (lv_at hl 3 rfl) ?_
                refine lv_iload hx hb d_Grammar_isMethodType_64 (lv_at hl 1 rfl) ?_
                refine tw_si (tw_runV (ws := [(h0, .inr (3, [.ref (w 0), .ref (w 2), .ref (w 7), .ref (w 8), .ref (w 9), .ref (w 10), .ref (w 11), .ref (w 12), .ref (w 13), .int v.nu, .int v.th, .int v.it, .int (nI v.fi), .int (nI v.me), .int v.mp])), ((w 0), .inr (2, [.ref (w 1), .int (nI v.n)])), ((w 1), aB g 600 v.b), ((w 2), .inr (1, [.ref (w 3), .ref (w 4), .ref (w 5), .ref (w 6), .int (nI v.lo)])), ((w 3), aJ g 4800 v.rw), ((w 4), aB g 600 v.bg), ((w 5), aB g 600 v.wt), ((w 6), aB g 600 v.dp), ((w 7), aI g 200 v.tg), ((w 8), aI g 200 v.ca), ((w 9), aI g 200 v.fs), ((w 10), aI g 200 v.sc), ((w 11), aI g 75 v.fa), ((w 12), aI g 75 v.ma), ((w 13), aI g 75 v.co)]) (wc := [((w 0), .inr (2, [.ref (w 1), .int (nI v.n)])), ((w 1), aB g 600 v.b)]) (As := [.int at1]) (rest := []) E hB hK hZ (c_Image_oneAt l g s.heap.size (w 0) (w 1) v.n v.b at1 hI.n) mc_Image_oneAt mi_Image_oneAt me_Image_oneAt wd_553 hP hD hS hA [1, 2] rfl (by decide) 0 rfl rfl rfl rfl rfl (by decide) rfl hl.1 rfl (Nat.le_of_ble_eq_true rfl) (by decide) d_Grammar_isMethodType_66) (fun r34 hr34 => ?_)
                refine lv_bipush (v := 41) hx hb d_Grammar_isMethodType_69 (by decide) ?_
                refine lv_icmp_eq (tgt := 89) hx hb d_Grammar_isMethodType_71 (by decide) (fun h71 => ?_) (fun h71 => ?_)
                · refine lv_iload hx hb d_Grammar_isMethodType_89 (lv_at hl 1 rfl) ?_
                  refine lv_iconst (v := (-1)) hx hb d_Grammar_isMethodType_91 (by decide) ?_
                  refine lv_icmp_eq (tgt := 103) hx hb d_Grammar_isMethodType_92 (by decide) (fun h92 => ?_) (fun h92 => ?_)
                  · refine lv_iconst (v := 0) hx hb d_Grammar_isMethodType_103 (by decide) ?_
                    exact tw_zsret E (by decide) (by decide) d_Grammar_isMethodType_104
                  · refine lv_iload hx hb d_Grammar_isMethodType_95 (lv_at hl 1 rfl) ?_
                    refine lv_iconst (v := 1) hx hb d_Grammar_isMethodType_97 (by decide) ?_
                    refine lv_iadd hx hb d_Grammar_isMethodType_98 ?_
                    obtain ⟨x35, ex35⟩ : ∃ z : Int32, at1 + 1 = z := ⟨_, rfl⟩
                    refine tw_ri (e2 := x35) ex35 ?_
                    refine lv_iload_n hx hb d_Grammar_isMethodType_99 rfl (lv_at hl 2 rfl) ?_
                    refine lv_icmp_lt (tgt := 105) hx hb d_Grammar_isMethodType_100 (by decide) (fun h100 => ?_) (fun h100 => ?_)
                    · refine lv_aload_n hx hb d_Grammar_isMethodType_105 rfl (lv_at hl 3 rfl) ?_
                      refine lv_iload hx hb d_Grammar_isMethodType_106 (lv_at hl 1 rfl) ?_
                      refine lv_iconst (v := 1) hx hb d_Grammar_isMethodType_108 (by decide) ?_
                      refine lv_iadd hx hb d_Grammar_isMethodType_109 ?_
                      obtain ⟨x36, ex36⟩ : ∃ z : Int32, at1 + 1 = z := ⟨_, rfl⟩
                      refine tw_ri (e2 := x36) ex36 ?_
                      refine tw_si (tw_runV (ws := [(h0, .inr (3, [.ref (w 0), .ref (w 2), .ref (w 7), .ref (w 8), .ref (w 9), .ref (w 10), .ref (w 11), .ref (w 12), .ref (w 13), .int v.nu, .int v.th, .int v.it, .int (nI v.fi), .int (nI v.me), .int v.mp])), ((w 0), .inr (2, [.ref (w 1), .int (nI v.n)])), ((w 1), aB g 600 v.b), ((w 2), .inr (1, [.ref (w 3), .ref (w 4), .ref (w 5), .ref (w 6), .int (nI v.lo)])), ((w 3), aJ g 4800 v.rw), ((w 4), aB g 600 v.bg), ((w 5), aB g 600 v.wt), ((w 6), aB g 600 v.dp), ((w 7), aI g 200 v.tg), ((w 8), aI g 200 v.ca), ((w 9), aI g 200 v.fs), ((w 10), aI g 200 v.sc), ((w 11), aI g 75 v.fa), ((w 12), aI g 75 v.ma), ((w 13), aI g 75 v.co)]) (wc := [((w 0), .inr (2, [.ref (w 1), .int (nI v.n)])), ((w 1), aB g 600 v.b)]) (As := [.int x36]) (rest := []) E hB hK hZ (c_Image_oneAt l g s.heap.size (w 0) (w 1) v.n v.b x36 hI.n) mc_Image_oneAt mi_Image_oneAt me_Image_oneAt wd_553 hP hD hS hA [1, 2] rfl (by decide) 0 rfl rfl rfl rfl rfl (by decide) rfl hl.1 rfl (Nat.le_of_ble_eq_true rfl) (by decide) d_Grammar_isMethodType_110) (fun r37 hr37 => ?_)
                      refine lv_bipush (v := 86) hx hb d_Grammar_isMethodType_113 (by decide) ?_
                      refine lv_icmp_ne (tgt := 130) hx hb d_Grammar_isMethodType_115 (by decide) (fun h115 => ?_) (fun h115 => ?_)
                      · refine lv_iconst (v := 0) hx hb d_Grammar_isMethodType_130 (by decide) ?_
                        refine lv_istore hx hb d_Grammar_isMethodType_131 hl (by decide) rfl (fun ls hl => ?_)
                        have hl : lv_has ls 6 [(5, .int 0), (4, .int at1), (3, .int r1), (2, .ref (w 0)), (0, .ref h0), (1, .int a)] := hl
                        refine lv_iload hx hb d_Grammar_isMethodType_133 (lv_at hl 0 rfl) ?_
                        refine lv_if_ne (tgt := 151) hx hb d_Grammar_isMethodType_135 (by decide) (fun h135 => ?_) (fun h135 => ?_)
                        · refine lv_iconst (v := 1) hx hb d_Grammar_isMethodType_151 (by decide) ?_
                          refine lv_goto (tgt := 156) hx hb d_Grammar_isMethodType_152 (by decide) ?_
                          exact tw_zsret E (by decide) (by decide) d_Grammar_isMethodType_156
                        · refine lv_aload_n hx hb d_Grammar_isMethodType_138 rfl (lv_at hl 3 rfl) ?_
                          refine lv_iload hx hb d_Grammar_isMethodType_139 (lv_at hl 1 rfl) ?_
                          refine lv_iconst (v := 1) hx hb d_Grammar_isMethodType_141 (by decide) ?_
                          refine lv_iadd hx hb d_Grammar_isMethodType_142 ?_
                          obtain ⟨x38, ex38⟩ : ∃ z : Int32, at1 + 1 = z := ⟨_, rfl⟩
                          refine tw_ri (e2 := x38) ex38 ?_
                          refine lv_iload_n hx hb d_Grammar_isMethodType_143 rfl (lv_at hl 2 rfl) ?_
                          refine tw_si (tw_runS (ws := [(h0, .inr (3, [.ref (w 0), .ref (w 2), .ref (w 7), .ref (w 8), .ref (w 9), .ref (w 10), .ref (w 11), .ref (w 12), .ref (w 13), .int v.nu, .int v.th, .int v.it, .int (nI v.fi), .int (nI v.me), .int v.mp])), ((w 0), .inr (2, [.ref (w 1), .int (nI v.n)])), ((w 1), aB g 600 v.b), ((w 2), .inr (1, [.ref (w 3), .ref (w 4), .ref (w 5), .ref (w 6), .int (nI v.lo)])), ((w 3), aJ g 4800 v.rw), ((w 4), aB g 600 v.bg), ((w 5), aB g 600 v.wt), ((w 6), aB g 600 v.dp), ((w 7), aI g 200 v.tg), ((w 8), aI g 200 v.ca), ((w 9), aI g 200 v.fs), ((w 10), aI g 200 v.sc), ((w 11), aI g 75 v.fa), ((w 12), aI g 75 v.ma), ((w 13), aI g 75 v.co)]) (wc := [((w 0), .inr (2, [.ref (w 1), .int (nI v.n)])), ((w 1), aB g 600 v.b)]) (As := [.ref (w 0), .int x38, .int r1]) (rest := []) E hB hK hZ (s_Grammar_behindType l g s.heap.size (w 0) (w 1) v.n v.b x38 r1 hI.n) mc_Grammar_behindType ms_Grammar_behindType wd_579 hP hD hS hA [1, 2] rfl (by decide) rfl rfl (by decide) rfl hl.1 rfl (Nat.le_of_ble_eq_true rfl) (by decide) d_Grammar_isMethodType_144) (fun r39 hr39 => ?_)
                          refine lv_iload_n hx hb d_Grammar_isMethodType_147 rfl (lv_at hl 2 rfl) ?_
                          refine lv_icmp_ne (tgt := 155) hx hb d_Grammar_isMethodType_148 (by decide) (fun h148 => ?_) (fun h148 => ?_)
                          · refine lv_iconst (v := 0) hx hb d_Grammar_isMethodType_155 (by decide) ?_
                            exact tw_zsret E (by decide) (by decide) d_Grammar_isMethodType_156
                          · refine lv_iconst (v := 1) hx hb d_Grammar_isMethodType_151 (by decide) ?_
                            refine lv_goto (tgt := 156) hx hb d_Grammar_isMethodType_152 (by decide) ?_
                            exact tw_zsret E (by decide) (by decide) d_Grammar_isMethodType_156
                      · refine lv_iload hx hb d_Grammar_isMethodType_118 (lv_at hl 1 rfl) ?_
                        refine lv_iconst (v := 2) hx hb d_Grammar_isMethodType_120 (by decide) ?_
                        refine lv_iadd hx hb d_Grammar_isMethodType_121 ?_
                        obtain ⟨x40, ex40⟩ : ∃ z : Int32, at1 + 2 = z := ⟨_, rfl⟩
                        refine tw_ri (e2 := x40) ex40 ?_
                        refine lv_iload_n hx hb d_Grammar_isMethodType_122 rfl (lv_at hl 2 rfl) ?_
                        refine lv_icmp_ne (tgt := 130) hx hb d_Grammar_isMethodType_123 (by decide) (fun h123 => ?_) (fun h123 => ?_)
                        · refine lv_iconst (v := 0) hx hb d_Grammar_isMethodType_130 (by decide) ?_
                          refine lv_istore hx hb d_Grammar_isMethodType_131 hl (by decide) rfl (fun ls hl => ?_)
                          have hl : lv_has ls 6 [(5, .int 0), (4, .int at1), (3, .int r1), (2, .ref (w 0)), (0, .ref h0), (1, .int a)] := hl
                          refine lv_iload hx hb d_Grammar_isMethodType_133 (lv_at hl 0 rfl) ?_
                          refine lv_if_ne (tgt := 151) hx hb d_Grammar_isMethodType_135 (by decide) (fun h135 => ?_) (fun h135 => ?_)
                          · refine lv_iconst (v := 1) hx hb d_Grammar_isMethodType_151 (by decide) ?_
                            refine lv_goto (tgt := 156) hx hb d_Grammar_isMethodType_152 (by decide) ?_
                            exact tw_zsret E (by decide) (by decide) d_Grammar_isMethodType_156
                          · refine lv_aload_n hx hb d_Grammar_isMethodType_138 rfl (lv_at hl 3 rfl) ?_
                            refine lv_iload hx hb d_Grammar_isMethodType_139 (lv_at hl 1 rfl) ?_
                            refine lv_iconst (v := 1) hx hb d_Grammar_isMethodType_141 (by decide) ?_
                            refine lv_iadd hx hb d_Grammar_isMethodType_142 ?_
                            obtain ⟨x41, ex41⟩ : ∃ z : Int32, at1 + 1 = z := ⟨_, rfl⟩
                            refine tw_ri (e2 := x41) ex41 ?_
                            refine lv_iload_n hx hb d_Grammar_isMethodType_143 rfl (lv_at hl 2 rfl) ?_
                            refine tw_si (tw_runS (ws := [(h0, .inr (3, [.ref (w 0), .ref (w 2), .ref (w 7), .ref (w 8), .ref (w 9), .ref (w 10), .ref (w 11), .ref (w 12), .ref (w 13), .int v.nu, .int v.th, .int v.it, .int (nI v.fi), .int (nI v.me), .int v.mp])), ((w 0), .inr (2, [.ref (w 1), .int (nI v.n)])), ((w 1), aB g 600 v.b), ((w 2), .inr (1, [.ref (w 3), .ref (w 4), .ref (w 5), .ref (w 6), .int (nI v.lo)])), ((w 3), aJ g 4800 v.rw), ((w 4), aB g 600 v.bg), ((w 5), aB g 600 v.wt), ((w 6), aB g 600 v.dp), ((w 7), aI g 200 v.tg), ((w 8), aI g 200 v.ca), ((w 9), aI g 200 v.fs), ((w 10), aI g 200 v.sc), ((w 11), aI g 75 v.fa), ((w 12), aI g 75 v.ma), ((w 13), aI g 75 v.co)]) (wc := [((w 0), .inr (2, [.ref (w 1), .int (nI v.n)])), ((w 1), aB g 600 v.b)]) (As := [.ref (w 0), .int x41, .int r1]) (rest := []) E hB hK hZ (s_Grammar_behindType l g s.heap.size (w 0) (w 1) v.n v.b x41 r1 hI.n) mc_Grammar_behindType ms_Grammar_behindType wd_579 hP hD hS hA [1, 2] rfl (by decide) rfl rfl (by decide) rfl hl.1 rfl (Nat.le_of_ble_eq_true rfl) (by decide) d_Grammar_isMethodType_144) (fun r42 hr42 => ?_)
                            refine lv_iload_n hx hb d_Grammar_isMethodType_147 rfl (lv_at hl 2 rfl) ?_
                            refine lv_icmp_ne (tgt := 155) hx hb d_Grammar_isMethodType_148 (by decide) (fun h148 => ?_) (fun h148 => ?_)
                            · refine lv_iconst (v := 0) hx hb d_Grammar_isMethodType_155 (by decide) ?_
                              exact tw_zsret E (by decide) (by decide) d_Grammar_isMethodType_156
                            · refine lv_iconst (v := 1) hx hb d_Grammar_isMethodType_151 (by decide) ?_
                              refine lv_goto (tgt := 156) hx hb d_Grammar_isMethodType_152 (by decide) ?_
                              exact tw_zsret E (by decide) (by decide) d_Grammar_isMethodType_156
                        · refine lv_iconst (v := 1) hx hb d_Grammar_isMethodType_126 (by decide) ?_
                          refine lv_goto (tgt := 131) hx hb d_Grammar_isMethodType_127 (by decide) ?_
                          refine lv_istore hx hb d_Grammar_isMethodType_131 hl (by decide) rfl (fun ls hl => ?_)
                          have hl : lv_has ls 6 [(5, .int 1), (4, .int at1), (3, .int r1), (2, .ref (w 0)), (0, .ref h0), (1, .int a)] := hl
                          refine lv_iload hx hb d_Grammar_isMethodType_133 (lv_at hl 0 rfl) ?_
                          refine lv_if_ne (tgt := 151) hx hb d_Grammar_isMethodType_135 (by decide) (fun h135 => ?_) (fun h135 => ?_)
                          · refine lv_iconst (v := 1) hx hb d_Grammar_isMethodType_151 (by decide) ?_
                            refine lv_goto (tgt := 156) hx hb d_Grammar_isMethodType_152 (by decide) ?_
                            exact tw_zsret E (by decide) (by decide) d_Grammar_isMethodType_156
                          · refine lv_aload_n hx hb d_Grammar_isMethodType_138 rfl (lv_at hl 3 rfl) ?_
                            refine lv_iload hx hb d_Grammar_isMethodType_139 (lv_at hl 1 rfl) ?_
                            refine lv_iconst (v := 1) hx hb d_Grammar_isMethodType_141 (by decide) ?_
                            refine lv_iadd hx hb d_Grammar_isMethodType_142 ?_
                            obtain ⟨x43, ex43⟩ : ∃ z : Int32, at1 + 1 = z := ⟨_, rfl⟩
                            refine tw_ri (e2 := x43) ex43 ?_
                            refine lv_iload_n hx hb d_Grammar_isMethodType_143 rfl (lv_at hl 2 rfl) ?_
                            refine tw_si (tw_runS (ws := [(h0, .inr (3, [.ref (w 0), .ref (w 2), .ref (w 7), .ref (w 8), .ref (w 9), .ref (w 10), .ref (w 11), .ref (w 12), .ref (w 13), .int v.nu, .int v.th, .int v.it, .int (nI v.fi), .int (nI v.me), .int v.mp])), ((w 0), .inr (2, [.ref (w 1), .int (nI v.n)])), ((w 1), aB g 600 v.b), ((w 2), .inr (1, [.ref (w 3), .ref (w 4), .ref (w 5), .ref (w 6), .int (nI v.lo)])), ((w 3), aJ g 4800 v.rw), ((w 4), aB g 600 v.bg), ((w 5), aB g 600 v.wt), ((w 6), aB g 600 v.dp), ((w 7), aI g 200 v.tg), ((w 8), aI g 200 v.ca), ((w 9), aI g 200 v.fs), ((w 10), aI g 200 v.sc), ((w 11), aI g 75 v.fa), ((w 12), aI g 75 v.ma), ((w 13), aI g 75 v.co)]) (wc := [((w 0), .inr (2, [.ref (w 1), .int (nI v.n)])), ((w 1), aB g 600 v.b)]) (As := [.ref (w 0), .int x43, .int r1]) (rest := []) E hB hK hZ (s_Grammar_behindType l g s.heap.size (w 0) (w 1) v.n v.b x43 r1 hI.n) mc_Grammar_behindType ms_Grammar_behindType wd_579 hP hD hS hA [1, 2] rfl (by decide) rfl rfl (by decide) rfl hl.1 rfl (Nat.le_of_ble_eq_true rfl) (by decide) d_Grammar_isMethodType_144) (fun r44 hr44 => ?_)
                            refine lv_iload_n hx hb d_Grammar_isMethodType_147 rfl (lv_at hl 2 rfl) ?_
                            refine lv_icmp_ne (tgt := 155) hx hb d_Grammar_isMethodType_148 (by decide) (fun h148 => ?_) (fun h148 => ?_)
                            · refine lv_iconst (v := 0) hx hb d_Grammar_isMethodType_155 (by decide) ?_
                              exact tw_zsret E (by decide) (by decide) d_Grammar_isMethodType_156
                            · refine lv_iconst (v := 1) hx hb d_Grammar_isMethodType_151 (by decide) ?_
                              refine lv_goto (tgt := 156) hx hb d_Grammar_isMethodType_152 (by decide) ?_
                              exact tw_zsret E (by decide) (by decide) d_Grammar_isMethodType_156
                    · refine lv_iconst (v := 0) hx hb d_Grammar_isMethodType_103 (by decide) ?_
                      exact tw_zsret E (by decide) (by decide) d_Grammar_isMethodType_104
                · refine lv_aload_n hx hb d_Grammar_isMethodType_74 rfl (lv_at hl 3 rfl) ?_
                  refine lv_iload hx hb d_Grammar_isMethodType_75 (lv_at hl 1 rfl) ?_
                  refine lv_iload_n hx hb d_Grammar_isMethodType_77 rfl (lv_at hl 2 rfl) ?_
                  refine tw_si (tw_runS (ws := [(h0, .inr (3, [.ref (w 0), .ref (w 2), .ref (w 7), .ref (w 8), .ref (w 9), .ref (w 10), .ref (w 11), .ref (w 12), .ref (w 13), .int v.nu, .int v.th, .int v.it, .int (nI v.fi), .int (nI v.me), .int v.mp])), ((w 0), .inr (2, [.ref (w 1), .int (nI v.n)])), ((w 1), aB g 600 v.b), ((w 2), .inr (1, [.ref (w 3), .ref (w 4), .ref (w 5), .ref (w 6), .int (nI v.lo)])), ((w 3), aJ g 4800 v.rw), ((w 4), aB g 600 v.bg), ((w 5), aB g 600 v.wt), ((w 6), aB g 600 v.dp), ((w 7), aI g 200 v.tg), ((w 8), aI g 200 v.ca), ((w 9), aI g 200 v.fs), ((w 10), aI g 200 v.sc), ((w 11), aI g 75 v.fa), ((w 12), aI g 75 v.ma), ((w 13), aI g 75 v.co)]) (wc := [((w 0), .inr (2, [.ref (w 1), .int (nI v.n)])), ((w 1), aB g 600 v.b)]) (As := [.ref (w 0), .int at1, .int r1]) (rest := []) E hB hK hZ (s_Grammar_behindType l g s.heap.size (w 0) (w 1) v.n v.b at1 r1 hI.n) mc_Grammar_behindType ms_Grammar_behindType wd_579 hP hD hS hA [1, 2] rfl (by decide) rfl rfl (by decide) rfl hl.1 rfl (Nat.le_of_ble_eq_true rfl) (by decide) d_Grammar_isMethodType_78) (fun r45 hr45 => ?_)
                  refine lv_istore hx hb d_Grammar_isMethodType_81 hl (by decide) rfl (fun ls hl => ?_)
                  have hl : lv_has ls 6 [(4, .int r45), (5, .int k), (3, .int r1), (2, .ref (w 0)), (0, .ref h0), (1, .int a)] := hl
                  refine lv_iinc (k := 1) (v := k + 1) hx hb d_Grammar_isMethodType_83 hl rfl rfl (by decide) rfl (fun ls hl => ?_)
                  have hl : lv_has ls 6 [(5, .int (k + 1)), (4, .int r45), (3, .int r1), (2, .ref (w 0)), (0, .ref h0), (1, .int a)] := hl
                  refine lv_goto (tgt := 43) hx hb d_Grammar_isMethodType_86 (by decide) ?_
                  exact ih _ (hk ▸ ims_dec h48) r45 (k + 1) ls rfl  (lv_sub hl [0, 1, 2, 3, 4, 5] rfl)
      exact loop43 _ (r2 + 1) 0 ls rfl  (hl)
    · refine lv_iconst (v := 0) hx hb d_Grammar_isMethodType_35 (by decide) ?_
      exact tw_zsret E (by decide) (by decide) d_Grammar_isMethodType_36
set_option maxHeartbeats 4000000 in
set_option maxRecDepth 100000 in
theorem s_Opcodes_isWithin (l : Launch) (g : tw_G) (sz : Nat) (a : Int32) (b : Int32) (d : Int32) : Met l y_Opcodes_isWithin [.code y_Opcodes_isWithin b_Opcodes_isWithin 3 (some .boolean)] ({ frames := 0, cells := 0, slots := 0, locals := 0 }) (tw_P g [.int a, .int b, .int d] [] sz) (vp_Si (fun r => r = 0 ∨ r = 1)) 0 0 (fun _ => False) := by
  refine tw_met (l := l) (g := g) (y := y_Opcodes_isWithin) (cc := b_Opcodes_isWithin) (maxL := 3) (ret := (some .boolean)) (rm := { frames := 0, cells := 0, slots := 0, locals := 0 }) (mc := 0) (ms := 0) (av := [.int a, .int b, .int d]) (ws := []) (sz := sz) (Qc := fun _ => (vp_Si (fun r => r = 0 ∨ r = 1))) (free := fun _ _ => False) (by decide) (Nat.le_of_ble_eq_true rfl) ?_
  intro p e s m below meth c ls A E hB hK hZ hP hD hS hA hl
  obtain ⟨hx, hb, hml, hr, hown, hts, hlocks, hin⟩ := id E
  have hl : lv_has ls 3 [(0, .int a), (1, .int b), (2, .int d)] := hl
  refine lv_iload_n hx hb d_Opcodes_isWithin_0 rfl (lv_at hl 0 rfl) ?_
  refine lv_iload_n hx hb d_Opcodes_isWithin_1 rfl (lv_at hl 1 rfl) ?_
  refine lv_icmp_lt (tgt := 14) hx hb d_Opcodes_isWithin_2 (by decide) (fun h2 => ?_) (fun h2 => ?_)
  · refine lv_iconst (v := 0) hx hb d_Opcodes_isWithin_14 (by decide) ?_
    exact tw_zsret E (by decide) (by decide) d_Opcodes_isWithin_15
  · refine lv_iload_n hx hb d_Opcodes_isWithin_5 rfl (lv_at hl 0 rfl) ?_
    refine lv_iload_n hx hb d_Opcodes_isWithin_6 rfl (lv_at hl 2 rfl) ?_
    refine lv_icmp_gt (tgt := 14) hx hb d_Opcodes_isWithin_7 (by decide) (fun h7 => ?_) (fun h7 => ?_)
    · refine lv_iconst (v := 0) hx hb d_Opcodes_isWithin_14 (by decide) ?_
      exact tw_zsret E (by decide) (by decide) d_Opcodes_isWithin_15
    · refine lv_iconst (v := 1) hx hb d_Opcodes_isWithin_10 (by decide) ?_
      refine lv_goto (tgt := 15) hx hb d_Opcodes_isWithin_11 (by decide) ?_
      exact tw_zsret E (by decide) (by decide) d_Opcodes_isWithin_15
set_option maxHeartbeats 4000000 in
set_option maxRecDepth 100000 in
theorem s_Opcodes_isArithmetic (l : Launch) (g : tw_G) (sz : Nat) (a : Int32) : Met l y_Opcodes_isArithmetic [.code y_Opcodes_isArithmetic b_Opcodes_isArithmetic 1 (some .boolean)] ({ frames := 1, cells := 0, slots := 0, locals := 22 }) (tw_P g [.int a] [] sz) (vp_Si (fun r => r = 0 ∨ r = 1)) 0 0 (fun _ => False) := by
  refine tw_met (l := l) (g := g) (y := y_Opcodes_isArithmetic) (cc := b_Opcodes_isArithmetic) (maxL := 1) (ret := (some .boolean)) (rm := { frames := 1, cells := 0, slots := 0, locals := 22 }) (mc := 0) (ms := 0) (av := [.int a]) (ws := []) (sz := sz) (Qc := fun _ => (vp_Si (fun r => r = 0 ∨ r = 1))) (free := fun _ _ => False) (by decide) (Nat.le_of_ble_eq_true rfl) ?_
  intro p e s m below meth c ls A E hB hK hZ hP hD hS hA hl
  obtain ⟨hx, hb, hml, hr, hown, hts, hlocks, hin⟩ := id E
  have hl : lv_has ls 1 [(0, .int a)] := hl
  refine lv_iload_n hx hb d_Opcodes_isArithmetic_0 rfl (lv_at hl 0 rfl) ?_
  refine lv_bipush (v := 96) hx hb d_Opcodes_isArithmetic_1 (by decide) ?_
  refine lv_bipush (v := 117) hx hb d_Opcodes_isArithmetic_3 (by decide) ?_
  refine tw_si (tw_runS (ws := []) (wc := []) (As := [.int a, .int 96, .int 117]) (rest := []) E hB hK hZ (s_Opcodes_isWithin l g s.heap.size a 96 117) mc_Opcodes_isWithin ms_Opcodes_isWithin wd_719 hP hD hS hA [] rfl (by decide) rfl rfl (by decide) rfl hl.1 rfl (Nat.le_of_ble_eq_true rfl) (by decide) d_Opcodes_isArithmetic_5) (fun r1 hr1 => ?_)
  refine lv_if_eq (tgt := 18) hx hb d_Opcodes_isArithmetic_8 (by decide) (fun h8 => ?_) (fun h8 => ?_)
  · refine lv_iload_n hx hb d_Opcodes_isArithmetic_18 rfl (lv_at hl 0 rfl) ?_
    refine lv_bipush (v := 120) hx hb d_Opcodes_isArithmetic_19 (by decide) ?_
    refine lv_sipush (v := 131) hx hb d_Opcodes_isArithmetic_21 (by decide) ?_
    refine tw_si (tw_runS (ws := []) (wc := []) (As := [.int a, .int 120, .int 131]) (rest := []) E hB hK hZ (s_Opcodes_isWithin l g s.heap.size a 120 131) mc_Opcodes_isWithin ms_Opcodes_isWithin wd_719 hP hD hS hA [] rfl (by decide) rfl rfl (by decide) rfl hl.1 rfl (Nat.le_of_ble_eq_true rfl) (by decide) d_Opcodes_isArithmetic_24) (fun r2 hr2 => ?_)
    refine lv_if_eq (tgt := 34) hx hb d_Opcodes_isArithmetic_27 (by decide) (fun h27 => ?_) (fun h27 => ?_)
    · refine lv_iconst (v := 0) hx hb d_Opcodes_isArithmetic_34 (by decide) ?_
      exact tw_zsret E (by decide) (by decide) d_Opcodes_isArithmetic_35
    · refine lv_iconst (v := 1) hx hb d_Opcodes_isArithmetic_30 (by decide) ?_
      refine lv_goto (tgt := 35) hx hb d_Opcodes_isArithmetic_31 (by decide) ?_
      exact tw_zsret E (by decide) (by decide) d_Opcodes_isArithmetic_35
  · refine lv_iload_n hx hb d_Opcodes_isArithmetic_11 rfl (lv_at hl 0 rfl) ?_
    refine lv_iconst (v := 3) hx hb d_Opcodes_isArithmetic_12 (by decide) ?_
    refine lv_iand hx hb d_Opcodes_isArithmetic_13 ?_
    obtain ⟨x3, ex3⟩ : ∃ z : Int32, a &&& 3 = z := ⟨_, rfl⟩
    refine tw_ri (e2 := x3) ex3 ?_
    refine lv_iconst (v := 2) hx hb d_Opcodes_isArithmetic_14 (by decide) ?_
    refine lv_icmp_lt (tgt := 30) hx hb d_Opcodes_isArithmetic_15 (by decide) (fun h15 => ?_) (fun h15 => ?_)
    · refine lv_iconst (v := 1) hx hb d_Opcodes_isArithmetic_30 (by decide) ?_
      refine lv_goto (tgt := 35) hx hb d_Opcodes_isArithmetic_31 (by decide) ?_
      exact tw_zsret E (by decide) (by decide) d_Opcodes_isArithmetic_35
    · refine lv_iload_n hx hb d_Opcodes_isArithmetic_18 rfl (lv_at hl 0 rfl) ?_
      refine lv_bipush (v := 120) hx hb d_Opcodes_isArithmetic_19 (by decide) ?_
      refine lv_sipush (v := 131) hx hb d_Opcodes_isArithmetic_21 (by decide) ?_
      refine tw_si (tw_runS (ws := []) (wc := []) (As := [.int a, .int 120, .int 131]) (rest := []) E hB hK hZ (s_Opcodes_isWithin l g s.heap.size a 120 131) mc_Opcodes_isWithin ms_Opcodes_isWithin wd_719 hP hD hS hA [] rfl (by decide) rfl rfl (by decide) rfl hl.1 rfl (Nat.le_of_ble_eq_true rfl) (by decide) d_Opcodes_isArithmetic_24) (fun r4 hr4 => ?_)
      refine lv_if_eq (tgt := 34) hx hb d_Opcodes_isArithmetic_27 (by decide) (fun h27 => ?_) (fun h27 => ?_)
      · refine lv_iconst (v := 0) hx hb d_Opcodes_isArithmetic_34 (by decide) ?_
        exact tw_zsret E (by decide) (by decide) d_Opcodes_isArithmetic_35
      · refine lv_iconst (v := 1) hx hb d_Opcodes_isArithmetic_30 (by decide) ?_
        refine lv_goto (tgt := 35) hx hb d_Opcodes_isArithmetic_31 (by decide) ?_
        exact tw_zsret E (by decide) (by decide) d_Opcodes_isArithmetic_35
set_option maxHeartbeats 4000000 in
set_option maxRecDepth 100000 in
theorem s_Opcodes_isAlone (l : Launch) (g : tw_G) (sz : Nat) (a : Int32) : Met l y_Opcodes_isAlone [.code y_Opcodes_isAlone b_Opcodes_isAlone 1 (some .boolean)] ({ frames := 2, cells := 0, slots := 0, locals := 42 }) (tw_P g [.int a] [] sz) (vp_Si (fun r => r = 0 ∨ r = 1)) 0 0 (fun _ => False) := by
  refine tw_met (l := l) (g := g) (y := y_Opcodes_isAlone) (cc := b_Opcodes_isAlone) (maxL := 1) (ret := (some .boolean)) (rm := { frames := 2, cells := 0, slots := 0, locals := 42 }) (mc := 0) (ms := 0) (av := [.int a]) (ws := []) (sz := sz) (Qc := fun _ => (vp_Si (fun r => r = 0 ∨ r = 1))) (free := fun _ _ => False) (by decide) (Nat.le_of_ble_eq_true rfl) ?_
  intro p e s m below meth c ls A E hB hK hZ hP hD hS hA hl
  obtain ⟨hx, hb, hml, hr, hown, hts, hlocks, hin⟩ := id E
  have hl : lv_has ls 1 [(0, .int a)] := hl
  refine lv_iload_n hx hb d_Opcodes_isAlone_0 rfl (lv_at hl 0 rfl) ?_
  have hsw : _ ∈ ([91, 93] : List Int) := sw_lk [91, 93] [(92, 91), (95, 91), (133, 91), (136, 91), (172, 91), (173, 91), (176, 91), (177, 91), (190, 91), (191, 91)] 93 (a : Int32).toInt (by decide) (by decide)
  simp only [List.mem_cons, List.not_mem_nil, or_false] at hsw
  rcases hsw with hsw | hsw
  · refine lv_lookup (tgt := 92) (off := 91) hx hb d_Opcodes_isAlone_1 (by decide) hsw (by decide) ?_
    refine lv_iconst (v := 1) hx hb d_Opcodes_isAlone_92 (by decide) ?_
    exact tw_zsret E (by decide) (by decide) d_Opcodes_isAlone_93
  · refine lv_lookup (tgt := 94) (off := 93) hx hb d_Opcodes_isAlone_1 (by decide) hsw (by decide) ?_
    refine lv_iload_n hx hb d_Opcodes_isAlone_94 rfl (lv_at hl 0 rfl) ?_
    refine lv_iconst (v := 0) hx hb d_Opcodes_isAlone_95 (by decide) ?_
    refine lv_bipush (v := 10) hx hb d_Opcodes_isAlone_96 (by decide) ?_
    refine tw_si (tw_runS (ws := []) (wc := []) (As := [.int a, .int 0, .int 10]) (rest := []) E hB hK hZ (s_Opcodes_isWithin l g s.heap.size a 0 10) mc_Opcodes_isWithin ms_Opcodes_isWithin wd_719 hP hD hS hA [] rfl (by decide) rfl rfl (by decide) rfl hl.1 rfl (Nat.le_of_ble_eq_true rfl) (by decide) d_Opcodes_isAlone_98) (fun r1 hr1 => ?_)
    refine lv_if_ne (tgt := 179) hx hb d_Opcodes_isAlone_101 (by decide) (fun h101 => ?_) (fun h101 => ?_)
    · refine lv_iconst (v := 1) hx hb d_Opcodes_isAlone_179 (by decide) ?_
      refine lv_goto (tgt := 184) hx hb d_Opcodes_isAlone_180 (by decide) ?_
      exact tw_zsret E (by decide) (by decide) d_Opcodes_isAlone_184
    · refine lv_iload_n hx hb d_Opcodes_isAlone_104 rfl (lv_at hl 0 rfl) ?_
      refine lv_bipush (v := 26) hx hb d_Opcodes_isAlone_105 (by decide) ?_
      refine lv_bipush (v := 33) hx hb d_Opcodes_isAlone_107 (by decide) ?_
      refine tw_si (tw_runS (ws := []) (wc := []) (As := [.int a, .int 26, .int 33]) (rest := []) E hB hK hZ (s_Opcodes_isWithin l g s.heap.size a 26 33) mc_Opcodes_isWithin ms_Opcodes_isWithin wd_719 hP hD hS hA [] rfl (by decide) rfl rfl (by decide) rfl hl.1 rfl (Nat.le_of_ble_eq_true rfl) (by decide) d_Opcodes_isAlone_109) (fun r2 hr2 => ?_)
      refine lv_if_ne (tgt := 179) hx hb d_Opcodes_isAlone_112 (by decide) (fun h112 => ?_) (fun h112 => ?_)
      · refine lv_iconst (v := 1) hx hb d_Opcodes_isAlone_179 (by decide) ?_
        refine lv_goto (tgt := 184) hx hb d_Opcodes_isAlone_180 (by decide) ?_
        exact tw_zsret E (by decide) (by decide) d_Opcodes_isAlone_184
      · refine lv_iload_n hx hb d_Opcodes_isAlone_115 rfl (lv_at hl 0 rfl) ?_
        refine lv_bipush (v := 42) hx hb d_Opcodes_isAlone_116 (by decide) ?_
        refine lv_bipush (v := 45) hx hb d_Opcodes_isAlone_118 (by decide) ?_
        refine tw_si (tw_runS (ws := []) (wc := []) (As := [.int a, .int 42, .int 45]) (rest := []) E hB hK hZ (s_Opcodes_isWithin l g s.heap.size a 42 45) mc_Opcodes_isWithin ms_Opcodes_isWithin wd_719 hP hD hS hA [] rfl (by decide) rfl rfl (by decide) rfl hl.1 rfl (Nat.le_of_ble_eq_true rfl) (by decide) d_Opcodes_isAlone_120) (fun r3 hr3 => ?_)
        refine lv_if_ne (tgt := 179) hx hb d_Opcodes_isAlone_123 (by decide) (fun h123 => ?_) (fun h123 => ?_)
        · refine lv_iconst (v := 1) hx hb d_Opcodes_isAlone_179 (by decide) ?_
          refine lv_goto (tgt := 184) hx hb d_Opcodes_isAlone_180 (by decide) ?_
          exact tw_zsret E (by decide) (by decide) d_Opcodes_isAlone_184
        · refine lv_iload_n hx hb d_Opcodes_isAlone_126 rfl (lv_at hl 0 rfl) ?_
          refine lv_bipush (v := 59) hx hb d_Opcodes_isAlone_127 (by decide) ?_
          refine lv_bipush (v := 66) hx hb d_Opcodes_isAlone_129 (by decide) ?_
          refine tw_si (tw_runS (ws := []) (wc := []) (As := [.int a, .int 59, .int 66]) (rest := []) E hB hK hZ (s_Opcodes_isWithin l g s.heap.size a 59 66) mc_Opcodes_isWithin ms_Opcodes_isWithin wd_719 hP hD hS hA [] rfl (by decide) rfl rfl (by decide) rfl hl.1 rfl (Nat.le_of_ble_eq_true rfl) (by decide) d_Opcodes_isAlone_131) (fun r4 hr4 => ?_)
          refine lv_if_ne (tgt := 179) hx hb d_Opcodes_isAlone_134 (by decide) (fun h134 => ?_) (fun h134 => ?_)
          · refine lv_iconst (v := 1) hx hb d_Opcodes_isAlone_179 (by decide) ?_
            refine lv_goto (tgt := 184) hx hb d_Opcodes_isAlone_180 (by decide) ?_
            exact tw_zsret E (by decide) (by decide) d_Opcodes_isAlone_184
          · refine lv_iload_n hx hb d_Opcodes_isAlone_137 rfl (lv_at hl 0 rfl) ?_
            refine lv_bipush (v := 75) hx hb d_Opcodes_isAlone_138 (by decide) ?_
            refine lv_bipush (v := 78) hx hb d_Opcodes_isAlone_140 (by decide) ?_
            refine tw_si (tw_runS (ws := []) (wc := []) (As := [.int a, .int 75, .int 78]) (rest := []) E hB hK hZ (s_Opcodes_isWithin l g s.heap.size a 75 78) mc_Opcodes_isWithin ms_Opcodes_isWithin wd_719 hP hD hS hA [] rfl (by decide) rfl rfl (by decide) rfl hl.1 rfl (Nat.le_of_ble_eq_true rfl) (by decide) d_Opcodes_isAlone_142) (fun r5 hr5 => ?_)
            refine lv_if_ne (tgt := 179) hx hb d_Opcodes_isAlone_145 (by decide) (fun h145 => ?_) (fun h145 => ?_)
            · refine lv_iconst (v := 1) hx hb d_Opcodes_isAlone_179 (by decide) ?_
              refine lv_goto (tgt := 184) hx hb d_Opcodes_isAlone_180 (by decide) ?_
              exact tw_zsret E (by decide) (by decide) d_Opcodes_isAlone_184
            · refine lv_iload_n hx hb d_Opcodes_isAlone_148 rfl (lv_at hl 0 rfl) ?_
              refine lv_bipush (v := 87) hx hb d_Opcodes_isAlone_149 (by decide) ?_
              refine lv_bipush (v := 89) hx hb d_Opcodes_isAlone_151 (by decide) ?_
              refine tw_si (tw_runS (ws := []) (wc := []) (As := [.int a, .int 87, .int 89]) (rest := []) E hB hK hZ (s_Opcodes_isWithin l g s.heap.size a 87 89) mc_Opcodes_isWithin ms_Opcodes_isWithin wd_719 hP hD hS hA [] rfl (by decide) rfl rfl (by decide) rfl hl.1 rfl (Nat.le_of_ble_eq_true rfl) (by decide) d_Opcodes_isAlone_153) (fun r6 hr6 => ?_)
              refine lv_if_ne (tgt := 179) hx hb d_Opcodes_isAlone_156 (by decide) (fun h156 => ?_) (fun h156 => ?_)
              · refine lv_iconst (v := 1) hx hb d_Opcodes_isAlone_179 (by decide) ?_
                refine lv_goto (tgt := 184) hx hb d_Opcodes_isAlone_180 (by decide) ?_
                exact tw_zsret E (by decide) (by decide) d_Opcodes_isAlone_184
              · refine lv_iload_n hx hb d_Opcodes_isAlone_159 rfl (lv_at hl 0 rfl) ?_
                refine tw_si (tw_runS (ws := []) (wc := []) (As := [.int a]) (rest := []) E hB hK hZ (s_Opcodes_isArithmetic l g s.heap.size a) mc_Opcodes_isArithmetic ms_Opcodes_isArithmetic wd_725 hP hD hS hA [] rfl (by decide) rfl rfl (by decide) rfl hl.1 rfl (Nat.le_of_ble_eq_true rfl) (by decide) d_Opcodes_isAlone_160) (fun r7 hr7 => ?_)
                refine lv_if_ne (tgt := 179) hx hb d_Opcodes_isAlone_163 (by decide) (fun h163 => ?_) (fun h163 => ?_)
                · refine lv_iconst (v := 1) hx hb d_Opcodes_isAlone_179 (by decide) ?_
                  refine lv_goto (tgt := 184) hx hb d_Opcodes_isAlone_180 (by decide) ?_
                  exact tw_zsret E (by decide) (by decide) d_Opcodes_isAlone_184
                · refine lv_iload_n hx hb d_Opcodes_isAlone_166 rfl (lv_at hl 0 rfl) ?_
                  refine lv_sipush (v := 145) hx hb d_Opcodes_isAlone_167 (by decide) ?_
                  refine lv_sipush (v := 148) hx hb d_Opcodes_isAlone_170 (by decide) ?_
                  refine tw_si (tw_runS (ws := []) (wc := []) (As := [.int a, .int 145, .int 148]) (rest := []) E hB hK hZ (s_Opcodes_isWithin l g s.heap.size a 145 148) mc_Opcodes_isWithin ms_Opcodes_isWithin wd_719 hP hD hS hA [] rfl (by decide) rfl rfl (by decide) rfl hl.1 rfl (Nat.le_of_ble_eq_true rfl) (by decide) d_Opcodes_isAlone_173) (fun r8 hr8 => ?_)
                  refine lv_if_eq (tgt := 183) hx hb d_Opcodes_isAlone_176 (by decide) (fun h176 => ?_) (fun h176 => ?_)
                  · refine lv_iconst (v := 0) hx hb d_Opcodes_isAlone_183 (by decide) ?_
                    exact tw_zsret E (by decide) (by decide) d_Opcodes_isAlone_184
                  · refine lv_iconst (v := 1) hx hb d_Opcodes_isAlone_179 (by decide) ?_
                    refine lv_goto (tgt := 184) hx hb d_Opcodes_isAlone_180 (by decide) ?_
                    exact tw_zsret E (by decide) (by decide) d_Opcodes_isAlone_184
set_option maxHeartbeats 4000000 in
set_option maxRecDepth 100000 in
theorem s_Opcodes_lengthOf (l : Launch) (g : tw_G) (sz : Nat) (a : Int32) : Met l y_Opcodes_lengthOf [.code y_Opcodes_lengthOf b_Opcodes_lengthOf 1 (some .int)] ({ frames := 3, cells := 0, slots := 0, locals := 62 }) (tw_P g [.int a] [] sz) (vp_Si (fun r => r = 0 ∨ r = 1 ∨ r = 2 ∨ r = 3)) 0 0 (fun _ => False) := by
  refine tw_met (l := l) (g := g) (y := y_Opcodes_lengthOf) (cc := b_Opcodes_lengthOf) (maxL := 1) (ret := (some .int)) (rm := { frames := 3, cells := 0, slots := 0, locals := 62 }) (mc := 0) (ms := 0) (av := [.int a]) (ws := []) (sz := sz) (Qc := fun _ => (vp_Si (fun r => r = 0 ∨ r = 1 ∨ r = 2 ∨ r = 3))) (free := fun _ _ => False) (by decide) (Nat.le_of_ble_eq_true rfl) ?_
  intro p e s m below meth c ls A E hB hK hZ hP hD hS hA hl
  obtain ⟨hx, hb, hml, hr, hown, hts, hlocks, hin⟩ := id E
  have hl : lv_has ls 1 [(0, .int a)] := hl
  refine lv_iload_n hx hb d_Opcodes_lengthOf_0 rfl (lv_at hl 0 rfl) ?_
  have hsw : _ ∈ ([139, 141, 143] : List Int) := sw_lk [139, 141, 143] [(16, 139), (17, 141), (18, 139), (20, 141), (21, 139), (22, 139), (25, 139), (54, 139), (55, 139), (58, 139), (132, 141), (187, 141), (192, 141), (193, 141), (198, 141), (199, 141)] 143 (a : Int32).toInt (by decide) (by decide)
  simp only [List.mem_cons, List.not_mem_nil, or_false] at hsw
  rcases hsw with hsw | hsw | hsw
  · refine lv_lookup (tgt := 140) (off := 139) hx hb d_Opcodes_lengthOf_1 (by decide) hsw (by decide) ?_
    refine lv_iconst (v := 2) hx hb d_Opcodes_lengthOf_140 (by decide) ?_
    exact tw_isret E (by decide) d_Opcodes_lengthOf_141
  · refine lv_lookup (tgt := 142) (off := 141) hx hb d_Opcodes_lengthOf_1 (by decide) hsw (by decide) ?_
    refine lv_iconst (v := 3) hx hb d_Opcodes_lengthOf_142 (by decide) ?_
    exact tw_isret E (by decide) d_Opcodes_lengthOf_143
  · refine lv_lookup (tgt := 144) (off := 143) hx hb d_Opcodes_lengthOf_1 (by decide) hsw (by decide) ?_
    refine lv_iload_n hx hb d_Opcodes_lengthOf_144 rfl (lv_at hl 0 rfl) ?_
    refine lv_sipush (v := 153) hx hb d_Opcodes_lengthOf_145 (by decide) ?_
    refine lv_sipush (v := 167) hx hb d_Opcodes_lengthOf_148 (by decide) ?_
    refine tw_si (tw_runS (ws := []) (wc := []) (As := [.int a, .int 153, .int 167]) (rest := []) E hB hK hZ (s_Opcodes_isWithin l g s.heap.size a 153 167) mc_Opcodes_isWithin ms_Opcodes_isWithin wd_719 hP hD hS hA [] rfl (by decide) rfl rfl (by decide) rfl hl.1 rfl (Nat.le_of_ble_eq_true rfl) (by decide) d_Opcodes_lengthOf_151) (fun r1 hr1 => ?_)
    refine lv_if_ne (tgt := 170) hx hb d_Opcodes_lengthOf_154 (by decide) (fun h154 => ?_) (fun h154 => ?_)
    · refine lv_iconst (v := 3) hx hb d_Opcodes_lengthOf_170 (by decide) ?_
      exact tw_isret E (by decide) d_Opcodes_lengthOf_171
    · refine lv_iload_n hx hb d_Opcodes_lengthOf_157 rfl (lv_at hl 0 rfl) ?_
      refine lv_sipush (v := 178) hx hb d_Opcodes_lengthOf_158 (by decide) ?_
      refine lv_sipush (v := 184) hx hb d_Opcodes_lengthOf_161 (by decide) ?_
      refine tw_si (tw_runS (ws := []) (wc := []) (As := [.int a, .int 178, .int 184]) (rest := []) E hB hK hZ (s_Opcodes_isWithin l g s.heap.size a 178 184) mc_Opcodes_isWithin ms_Opcodes_isWithin wd_719 hP hD hS hA [] rfl (by decide) rfl rfl (by decide) rfl hl.1 rfl (Nat.le_of_ble_eq_true rfl) (by decide) d_Opcodes_lengthOf_164) (fun r2 hr2 => ?_)
      refine lv_if_eq (tgt := 172) hx hb d_Opcodes_lengthOf_167 (by decide) (fun h167 => ?_) (fun h167 => ?_)
      · refine lv_iload_n hx hb d_Opcodes_lengthOf_172 rfl (lv_at hl 0 rfl) ?_
        refine tw_si (tw_runS (ws := []) (wc := []) (As := [.int a]) (rest := []) E hB hK hZ (s_Opcodes_isAlone l g s.heap.size a) mc_Opcodes_isAlone ms_Opcodes_isAlone wd_722 hP hD hS hA [] rfl (by decide) rfl rfl (by decide) rfl hl.1 rfl (Nat.le_of_ble_eq_true rfl) (by decide) d_Opcodes_lengthOf_173) (fun r3 hr3 => ?_)
        refine lv_if_eq (tgt := 183) hx hb d_Opcodes_lengthOf_176 (by decide) (fun h176 => ?_) (fun h176 => ?_)
        · refine lv_iconst (v := 0) hx hb d_Opcodes_lengthOf_183 (by decide) ?_
          exact tw_isret E (by decide) d_Opcodes_lengthOf_184
        · refine lv_iconst (v := 1) hx hb d_Opcodes_lengthOf_179 (by decide) ?_
          refine lv_goto (tgt := 184) hx hb d_Opcodes_lengthOf_180 (by decide) ?_
          exact tw_isret E (by decide) d_Opcodes_lengthOf_184
      · refine lv_iconst (v := 3) hx hb d_Opcodes_lengthOf_170 (by decide) ?_
        exact tw_isret E (by decide) d_Opcodes_lengthOf_171
set_option maxHeartbeats 4000000 in
set_option maxRecDepth 100000 in
theorem s_Opcodes_isStore (l : Launch) (g : tw_G) (sz : Nat) (a : Int32) : Met l y_Opcodes_isStore [.code y_Opcodes_isStore b_Opcodes_isStore 1 (some .boolean)] ({ frames := 1, cells := 0, slots := 0, locals := 22 }) (tw_P g [.int a] [] sz) (vp_Si (fun r => r = 0 ∨ r = 1)) 0 0 (fun _ => False) := by
  refine tw_met (l := l) (g := g) (y := y_Opcodes_isStore) (cc := b_Opcodes_isStore) (maxL := 1) (ret := (some .boolean)) (rm := { frames := 1, cells := 0, slots := 0, locals := 22 }) (mc := 0) (ms := 0) (av := [.int a]) (ws := []) (sz := sz) (Qc := fun _ => (vp_Si (fun r => r = 0 ∨ r = 1))) (free := fun _ _ => False) (by decide) (Nat.le_of_ble_eq_true rfl) ?_
  intro p e s m below meth c ls A E hB hK hZ hP hD hS hA hl
  obtain ⟨hx, hb, hml, hr, hown, hts, hlocks, hin⟩ := id E
  have hl : lv_has ls 1 [(0, .int a)] := hl
  refine lv_iload_n hx hb d_Opcodes_isStore_0 rfl (lv_at hl 0 rfl) ?_
  refine lv_bipush (v := 54) hx hb d_Opcodes_isStore_1 (by decide) ?_
  refine lv_bipush (v := 78) hx hb d_Opcodes_isStore_3 (by decide) ?_
  refine tw_si (tw_runS (ws := []) (wc := []) (As := [.int a, .int 54, .int 78]) (rest := []) E hB hK hZ (s_Opcodes_isWithin l g s.heap.size a 54 78) mc_Opcodes_isWithin ms_Opcodes_isWithin wd_719 hP hD hS hA [] rfl (by decide) rfl rfl (by decide) rfl hl.1 rfl (Nat.le_of_ble_eq_true rfl) (by decide) d_Opcodes_isStore_5) (fun r1 hr1 => ?_)
  exact tw_zsret E (tn_z hr1) hr1 d_Opcodes_isStore_8
set_option maxHeartbeats 4000000 in
set_option maxRecDepth 100000 in
theorem s_Opcodes_tellsLocal (l : Launch) (g : tw_G) (sz : Nat) (a : Int32) : Met l y_Opcodes_tellsLocal [.code y_Opcodes_tellsLocal b_Opcodes_tellsLocal 1 (some .boolean)] ({ frames := 2, cells := 0, slots := 0, locals := 42 }) (tw_P g [.int a] [] sz) (vp_Si (fun r => r = 0 ∨ r = 1)) 0 0 (fun _ => False) := by
  refine tw_met (l := l) (g := g) (y := y_Opcodes_tellsLocal) (cc := b_Opcodes_tellsLocal) (maxL := 1) (ret := (some .boolean)) (rm := { frames := 2, cells := 0, slots := 0, locals := 42 }) (mc := 0) (ms := 0) (av := [.int a]) (ws := []) (sz := sz) (Qc := fun _ => (vp_Si (fun r => r = 0 ∨ r = 1))) (free := fun _ _ => False) (by decide) (Nat.le_of_ble_eq_true rfl) ?_
  intro p e s m below meth c ls A E hB hK hZ hP hD hS hA hl
  obtain ⟨hx, hb, hml, hr, hown, hts, hlocks, hin⟩ := id E
  have hl : lv_has ls 1 [(0, .int a)] := hl
  refine lv_iload_n hx hb d_Opcodes_tellsLocal_0 rfl (lv_at hl 0 rfl) ?_
  refine lv_sipush (v := 132) hx hb d_Opcodes_tellsLocal_1 (by decide) ?_
  refine lv_icmp_eq (tgt := 25) hx hb d_Opcodes_tellsLocal_4 (by decide) (fun h4 => ?_) (fun h4 => ?_)
  · refine lv_iconst (v := 1) hx hb d_Opcodes_tellsLocal_25 (by decide) ?_
    refine lv_goto (tgt := 30) hx hb d_Opcodes_tellsLocal_26 (by decide) ?_
    exact tw_zsret E (by decide) (by decide) d_Opcodes_tellsLocal_30
  · refine lv_iload_n hx hb d_Opcodes_tellsLocal_7 rfl (lv_at hl 0 rfl) ?_
    refine lv_bipush (v := 21) hx hb d_Opcodes_tellsLocal_8 (by decide) ?_
    refine lv_bipush (v := 45) hx hb d_Opcodes_tellsLocal_10 (by decide) ?_
    refine tw_si (tw_runS (ws := []) (wc := []) (As := [.int a, .int 21, .int 45]) (rest := []) E hB hK hZ (s_Opcodes_isWithin l g s.heap.size a 21 45) mc_Opcodes_isWithin ms_Opcodes_isWithin wd_719 hP hD hS hA [] rfl (by decide) rfl rfl (by decide) rfl hl.1 rfl (Nat.le_of_ble_eq_true rfl) (by decide) d_Opcodes_tellsLocal_12) (fun r1 hr1 => ?_)
    refine lv_if_ne (tgt := 25) hx hb d_Opcodes_tellsLocal_15 (by decide) (fun h15 => ?_) (fun h15 => ?_)
    · refine lv_iconst (v := 1) hx hb d_Opcodes_tellsLocal_25 (by decide) ?_
      refine lv_goto (tgt := 30) hx hb d_Opcodes_tellsLocal_26 (by decide) ?_
      exact tw_zsret E (by decide) (by decide) d_Opcodes_tellsLocal_30
    · refine lv_iload_n hx hb d_Opcodes_tellsLocal_18 rfl (lv_at hl 0 rfl) ?_
      refine tw_si (tw_runS (ws := []) (wc := []) (As := [.int a]) (rest := []) E hB hK hZ (s_Opcodes_isStore l g s.heap.size a) mc_Opcodes_isStore ms_Opcodes_isStore wd_840 hP hD hS hA [] rfl (by decide) rfl rfl (by decide) rfl hl.1 rfl (Nat.le_of_ble_eq_true rfl) (by decide) d_Opcodes_tellsLocal_19) (fun r2 hr2 => ?_)
      refine lv_if_eq (tgt := 29) hx hb d_Opcodes_tellsLocal_22 (by decide) (fun h22 => ?_) (fun h22 => ?_)
      · refine lv_iconst (v := 0) hx hb d_Opcodes_tellsLocal_29 (by decide) ?_
        exact tw_zsret E (by decide) (by decide) d_Opcodes_tellsLocal_30
      · refine lv_iconst (v := 1) hx hb d_Opcodes_tellsLocal_25 (by decide) ?_
        refine lv_goto (tgt := 30) hx hb d_Opcodes_tellsLocal_26 (by decide) ?_
        exact tw_zsret E (by decide) (by decide) d_Opcodes_tellsLocal_30
set_option maxHeartbeats 4000000 in
set_option maxRecDepth 100000 in
theorem s_Opcodes_isFieldUse (l : Launch) (g : tw_G) (sz : Nat) (a : Int32) : Met l y_Opcodes_isFieldUse [.code y_Opcodes_isFieldUse b_Opcodes_isFieldUse 1 (some .boolean)] ({ frames := 1, cells := 0, slots := 0, locals := 22 }) (tw_P g [.int a] [] sz) (vp_Si (fun r => r = 0 ∨ r = 1)) 0 0 (fun _ => False) := by
  refine tw_met (l := l) (g := g) (y := y_Opcodes_isFieldUse) (cc := b_Opcodes_isFieldUse) (maxL := 1) (ret := (some .boolean)) (rm := { frames := 1, cells := 0, slots := 0, locals := 22 }) (mc := 0) (ms := 0) (av := [.int a]) (ws := []) (sz := sz) (Qc := fun _ => (vp_Si (fun r => r = 0 ∨ r = 1))) (free := fun _ _ => False) (by decide) (Nat.le_of_ble_eq_true rfl) ?_
  intro p e s m below meth c ls A E hB hK hZ hP hD hS hA hl
  obtain ⟨hx, hb, hml, hr, hown, hts, hlocks, hin⟩ := id E
  have hl : lv_has ls 1 [(0, .int a)] := hl
  refine lv_iload_n hx hb d_Opcodes_isFieldUse_0 rfl (lv_at hl 0 rfl) ?_
  refine lv_sipush (v := 178) hx hb d_Opcodes_isFieldUse_1 (by decide) ?_
  refine lv_sipush (v := 181) hx hb d_Opcodes_isFieldUse_4 (by decide) ?_
  refine tw_si (tw_runS (ws := []) (wc := []) (As := [.int a, .int 178, .int 181]) (rest := []) E hB hK hZ (s_Opcodes_isWithin l g s.heap.size a 178 181) mc_Opcodes_isWithin ms_Opcodes_isWithin wd_719 hP hD hS hA [] rfl (by decide) rfl rfl (by decide) rfl hl.1 rfl (Nat.le_of_ble_eq_true rfl) (by decide) d_Opcodes_isFieldUse_7) (fun r1 hr1 => ?_)
  exact tw_zsret E (tn_z hr1) hr1 d_Opcodes_isFieldUse_10
set_option maxHeartbeats 4000000 in
set_option maxRecDepth 100000 in
theorem s_Opcodes_isCall (l : Launch) (g : tw_G) (sz : Nat) (a : Int32) : Met l y_Opcodes_isCall [.code y_Opcodes_isCall b_Opcodes_isCall 1 (some .boolean)] ({ frames := 1, cells := 0, slots := 0, locals := 22 }) (tw_P g [.int a] [] sz) (vp_Si (fun r => r = 0 ∨ r = 1)) 0 0 (fun _ => False) := by
  refine tw_met (l := l) (g := g) (y := y_Opcodes_isCall) (cc := b_Opcodes_isCall) (maxL := 1) (ret := (some .boolean)) (rm := { frames := 1, cells := 0, slots := 0, locals := 22 }) (mc := 0) (ms := 0) (av := [.int a]) (ws := []) (sz := sz) (Qc := fun _ => (vp_Si (fun r => r = 0 ∨ r = 1))) (free := fun _ _ => False) (by decide) (Nat.le_of_ble_eq_true rfl) ?_
  intro p e s m below meth c ls A E hB hK hZ hP hD hS hA hl
  obtain ⟨hx, hb, hml, hr, hown, hts, hlocks, hin⟩ := id E
  have hl : lv_has ls 1 [(0, .int a)] := hl
  refine lv_iload_n hx hb d_Opcodes_isCall_0 rfl (lv_at hl 0 rfl) ?_
  refine lv_sipush (v := 182) hx hb d_Opcodes_isCall_1 (by decide) ?_
  refine lv_sipush (v := 184) hx hb d_Opcodes_isCall_4 (by decide) ?_
  refine tw_si (tw_runS (ws := []) (wc := []) (As := [.int a, .int 182, .int 184]) (rest := []) E hB hK hZ (s_Opcodes_isWithin l g s.heap.size a 182 184) mc_Opcodes_isWithin ms_Opcodes_isWithin wd_719 hP hD hS hA [] rfl (by decide) rfl rfl (by decide) rfl hl.1 rfl (Nat.le_of_ble_eq_true rfl) (by decide) d_Opcodes_isCall_7) (fun r1 hr1 => ?_)
  exact tw_zsret E (tn_z hr1) hr1 d_Opcodes_isCall_10
set_option maxHeartbeats 4000000 in
set_option maxRecDepth 100000 in
theorem s_Opcodes_tellsConstant (l : Launch) (g : tw_G) (sz : Nat) (a : Int32) : Met l y_Opcodes_tellsConstant [.code y_Opcodes_tellsConstant b_Opcodes_tellsConstant 1 (some .boolean)] ({ frames := 2, cells := 0, slots := 0, locals := 42 }) (tw_P g [.int a] [] sz) (vp_Si (fun r => r = 0 ∨ r = 1)) 0 0 (fun _ => False) := by
  refine tw_met (l := l) (g := g) (y := y_Opcodes_tellsConstant) (cc := b_Opcodes_tellsConstant) (maxL := 1) (ret := (some .boolean)) (rm := { frames := 2, cells := 0, slots := 0, locals := 42 }) (mc := 0) (ms := 0) (av := [.int a]) (ws := []) (sz := sz) (Qc := fun _ => (vp_Si (fun r => r = 0 ∨ r = 1))) (free := fun _ _ => False) (by decide) (Nat.le_of_ble_eq_true rfl) ?_
  intro p e s m below meth c ls A E hB hK hZ hP hD hS hA hl
  obtain ⟨hx, hb, hml, hr, hown, hts, hlocks, hin⟩ := id E
  have hl : lv_has ls 1 [(0, .int a)] := hl
  refine lv_iload_n hx hb d_Opcodes_tellsConstant_0 rfl (lv_at hl 0 rfl) ?_
  refine lv_bipush (v := 20) hx hb d_Opcodes_tellsConstant_1 (by decide) ?_
  refine lv_icmp_eq (tgt := 41) hx hb d_Opcodes_tellsConstant_3 (by decide) (fun h3 => ?_) (fun h3 => ?_)
  · refine lv_iconst (v := 1) hx hb d_Opcodes_tellsConstant_41 (by decide) ?_
    refine lv_goto (tgt := 46) hx hb d_Opcodes_tellsConstant_42 (by decide) ?_
    exact tw_zsret E (by decide) (by decide) d_Opcodes_tellsConstant_46
  · refine lv_iload_n hx hb d_Opcodes_tellsConstant_6 rfl (lv_at hl 0 rfl) ?_
    refine lv_sipush (v := 187) hx hb d_Opcodes_tellsConstant_7 (by decide) ?_
    refine lv_icmp_eq (tgt := 41) hx hb d_Opcodes_tellsConstant_10 (by decide) (fun h10 => ?_) (fun h10 => ?_)
    · refine lv_iconst (v := 1) hx hb d_Opcodes_tellsConstant_41 (by decide) ?_
      refine lv_goto (tgt := 46) hx hb d_Opcodes_tellsConstant_42 (by decide) ?_
      exact tw_zsret E (by decide) (by decide) d_Opcodes_tellsConstant_46
    · refine lv_iload_n hx hb d_Opcodes_tellsConstant_13 rfl (lv_at hl 0 rfl) ?_
      refine lv_sipush (v := 192) hx hb d_Opcodes_tellsConstant_14 (by decide) ?_
      refine lv_icmp_eq (tgt := 41) hx hb d_Opcodes_tellsConstant_17 (by decide) (fun h17 => ?_) (fun h17 => ?_)
      · refine lv_iconst (v := 1) hx hb d_Opcodes_tellsConstant_41 (by decide) ?_
        refine lv_goto (tgt := 46) hx hb d_Opcodes_tellsConstant_42 (by decide) ?_
        exact tw_zsret E (by decide) (by decide) d_Opcodes_tellsConstant_46
      · refine lv_iload_n hx hb d_Opcodes_tellsConstant_20 rfl (lv_at hl 0 rfl) ?_
        refine lv_sipush (v := 193) hx hb d_Opcodes_tellsConstant_21 (by decide) ?_
        refine lv_icmp_eq (tgt := 41) hx hb d_Opcodes_tellsConstant_24 (by decide) (fun h24 => ?_) (fun h24 => ?_)
        · refine lv_iconst (v := 1) hx hb d_Opcodes_tellsConstant_41 (by decide) ?_
          refine lv_goto (tgt := 46) hx hb d_Opcodes_tellsConstant_42 (by decide) ?_
          exact tw_zsret E (by decide) (by decide) d_Opcodes_tellsConstant_46
        · refine lv_iload_n hx hb d_Opcodes_tellsConstant_27 rfl (lv_at hl 0 rfl) ?_
          refine tw_si (tw_runS (ws := []) (wc := []) (As := [.int a]) (rest := []) E hB hK hZ (s_Opcodes_isFieldUse l g s.heap.size a) mc_Opcodes_isFieldUse ms_Opcodes_isFieldUse wd_870 hP hD hS hA [] rfl (by decide) rfl rfl (by decide) rfl hl.1 rfl (Nat.le_of_ble_eq_true rfl) (by decide) d_Opcodes_tellsConstant_28) (fun r1 hr1 => ?_)
          refine lv_if_ne (tgt := 41) hx hb d_Opcodes_tellsConstant_31 (by decide) (fun h31 => ?_) (fun h31 => ?_)
          · refine lv_iconst (v := 1) hx hb d_Opcodes_tellsConstant_41 (by decide) ?_
            refine lv_goto (tgt := 46) hx hb d_Opcodes_tellsConstant_42 (by decide) ?_
            exact tw_zsret E (by decide) (by decide) d_Opcodes_tellsConstant_46
          · refine lv_iload_n hx hb d_Opcodes_tellsConstant_34 rfl (lv_at hl 0 rfl) ?_
            refine tw_si (tw_runS (ws := []) (wc := []) (As := [.int a]) (rest := []) E hB hK hZ (s_Opcodes_isCall l g s.heap.size a) mc_Opcodes_isCall ms_Opcodes_isCall wd_873 hP hD hS hA [] rfl (by decide) rfl rfl (by decide) rfl hl.1 rfl (Nat.le_of_ble_eq_true rfl) (by decide) d_Opcodes_tellsConstant_35) (fun r2 hr2 => ?_)
            refine lv_if_eq (tgt := 45) hx hb d_Opcodes_tellsConstant_38 (by decide) (fun h38 => ?_) (fun h38 => ?_)
            · refine lv_iconst (v := 0) hx hb d_Opcodes_tellsConstant_45 (by decide) ?_
              exact tw_zsret E (by decide) (by decide) d_Opcodes_tellsConstant_46
            · refine lv_iconst (v := 1) hx hb d_Opcodes_tellsConstant_41 (by decide) ?_
              refine lv_goto (tgt := 46) hx hb d_Opcodes_tellsConstant_42 (by decide) ?_
              exact tw_zsret E (by decide) (by decide) d_Opcodes_tellsConstant_46
set_option maxHeartbeats 4000000 in
set_option maxRecDepth 100000 in
theorem s_Opcodes_isShuffle (l : Launch) (g : tw_G) (sz : Nat) (a : Int32) : Met l y_Opcodes_isShuffle [.code y_Opcodes_isShuffle b_Opcodes_isShuffle 1 (some .boolean)] ({ frames := 1, cells := 0, slots := 0, locals := 22 }) (tw_P g [.int a] [] sz) (vp_Si (fun r => r = 0 ∨ r = 1)) 0 0 (fun _ => False) := by
  refine tw_met (l := l) (g := g) (y := y_Opcodes_isShuffle) (cc := b_Opcodes_isShuffle) (maxL := 1) (ret := (some .boolean)) (rm := { frames := 1, cells := 0, slots := 0, locals := 22 }) (mc := 0) (ms := 0) (av := [.int a]) (ws := []) (sz := sz) (Qc := fun _ => (vp_Si (fun r => r = 0 ∨ r = 1))) (free := fun _ _ => False) (by decide) (Nat.le_of_ble_eq_true rfl) ?_
  intro p e s m below meth c ls A E hB hK hZ hP hD hS hA hl
  obtain ⟨hx, hb, hml, hr, hown, hts, hlocks, hin⟩ := id E
  have hl : lv_has ls 1 [(0, .int a)] := hl
  refine lv_iload_n hx hb d_Opcodes_isShuffle_0 rfl (lv_at hl 0 rfl) ?_
  refine lv_bipush (v := 87) hx hb d_Opcodes_isShuffle_1 (by decide) ?_
  refine lv_bipush (v := 95) hx hb d_Opcodes_isShuffle_3 (by decide) ?_
  refine tw_si (tw_runS (ws := []) (wc := []) (As := [.int a, .int 87, .int 95]) (rest := []) E hB hK hZ (s_Opcodes_isWithin l g s.heap.size a 87 95) mc_Opcodes_isWithin ms_Opcodes_isWithin wd_719 hP hD hS hA [] rfl (by decide) rfl rfl (by decide) rfl hl.1 rfl (Nat.le_of_ble_eq_true rfl) (by decide) d_Opcodes_isShuffle_5) (fun r1 hr1 => ?_)
  exact tw_zsret E (tn_z hr1) hr1 d_Opcodes_isShuffle_8
set_option maxHeartbeats 4000000 in
set_option maxRecDepth 100000 in
theorem s_Opcodes_isReturn (l : Launch) (g : tw_G) (sz : Nat) (a : Int32) : Met l y_Opcodes_isReturn [.code y_Opcodes_isReturn b_Opcodes_isReturn 1 (some .boolean)] ({ frames := 1, cells := 0, slots := 0, locals := 22 }) (tw_P g [.int a] [] sz) (vp_Si (fun r => r = 0 ∨ r = 1)) 0 0 (fun _ => False) := by
  refine tw_met (l := l) (g := g) (y := y_Opcodes_isReturn) (cc := b_Opcodes_isReturn) (maxL := 1) (ret := (some .boolean)) (rm := { frames := 1, cells := 0, slots := 0, locals := 22 }) (mc := 0) (ms := 0) (av := [.int a]) (ws := []) (sz := sz) (Qc := fun _ => (vp_Si (fun r => r = 0 ∨ r = 1))) (free := fun _ _ => False) (by decide) (Nat.le_of_ble_eq_true rfl) ?_
  intro p e s m below meth c ls A E hB hK hZ hP hD hS hA hl
  obtain ⟨hx, hb, hml, hr, hown, hts, hlocks, hin⟩ := id E
  have hl : lv_has ls 1 [(0, .int a)] := hl
  refine lv_iload_n hx hb d_Opcodes_isReturn_0 rfl (lv_at hl 0 rfl) ?_
  refine lv_sipush (v := 172) hx hb d_Opcodes_isReturn_1 (by decide) ?_
  refine lv_sipush (v := 177) hx hb d_Opcodes_isReturn_4 (by decide) ?_
  refine tw_si (tw_runS (ws := []) (wc := []) (As := [.int a, .int 172, .int 177]) (rest := []) E hB hK hZ (s_Opcodes_isWithin l g s.heap.size a 172 177) mc_Opcodes_isWithin ms_Opcodes_isWithin wd_719 hP hD hS hA [] rfl (by decide) rfl rfl (by decide) rfl hl.1 rfl (Nat.le_of_ble_eq_true rfl) (by decide) d_Opcodes_isReturn_7) (fun r1 hr1 => ?_)
  exact tw_zsret E (tn_z hr1) hr1 d_Opcodes_isReturn_10
set_option maxHeartbeats 4000000 in
set_option maxRecDepth 100000 in
theorem s_Opcodes_mayJump (l : Launch) (g : tw_G) (sz : Nat) (a : Int32) : Met l y_Opcodes_mayJump [.code y_Opcodes_mayJump b_Opcodes_mayJump 1 (some .boolean)] ({ frames := 1, cells := 0, slots := 0, locals := 22 }) (tw_P g [.int a] [] sz) (vp_Si (fun r => r = 0 ∨ r = 1)) 0 0 (fun _ => False) := by
  refine tw_met (l := l) (g := g) (y := y_Opcodes_mayJump) (cc := b_Opcodes_mayJump) (maxL := 1) (ret := (some .boolean)) (rm := { frames := 1, cells := 0, slots := 0, locals := 22 }) (mc := 0) (ms := 0) (av := [.int a]) (ws := []) (sz := sz) (Qc := fun _ => (vp_Si (fun r => r = 0 ∨ r = 1))) (free := fun _ _ => False) (by decide) (Nat.le_of_ble_eq_true rfl) ?_
  intro p e s m below meth c ls A E hB hK hZ hP hD hS hA hl
  obtain ⟨hx, hb, hml, hr, hown, hts, hlocks, hin⟩ := id E
  have hl : lv_has ls 1 [(0, .int a)] := hl
  refine lv_iload_n hx hb d_Opcodes_mayJump_0 rfl (lv_at hl 0 rfl) ?_
  refine lv_sipush (v := 153) hx hb d_Opcodes_mayJump_1 (by decide) ?_
  refine lv_sipush (v := 167) hx hb d_Opcodes_mayJump_4 (by decide) ?_
  refine tw_si (tw_runS (ws := []) (wc := []) (As := [.int a, .int 153, .int 167]) (rest := []) E hB hK hZ (s_Opcodes_isWithin l g s.heap.size a 153 167) mc_Opcodes_isWithin ms_Opcodes_isWithin wd_719 hP hD hS hA [] rfl (by decide) rfl rfl (by decide) rfl hl.1 rfl (Nat.le_of_ble_eq_true rfl) (by decide) d_Opcodes_mayJump_7) (fun r1 hr1 => ?_)
  refine lv_if_ne (tgt := 27) hx hb d_Opcodes_mayJump_10 (by decide) (fun h10 => ?_) (fun h10 => ?_)
  · refine lv_iconst (v := 1) hx hb d_Opcodes_mayJump_27 (by decide) ?_
    refine lv_goto (tgt := 32) hx hb d_Opcodes_mayJump_28 (by decide) ?_
    exact tw_zsret E (by decide) (by decide) d_Opcodes_mayJump_32
  · refine lv_iload_n hx hb d_Opcodes_mayJump_13 rfl (lv_at hl 0 rfl) ?_
    refine lv_sipush (v := 198) hx hb d_Opcodes_mayJump_14 (by decide) ?_
    refine lv_icmp_eq (tgt := 27) hx hb d_Opcodes_mayJump_17 (by decide) (fun h17 => ?_) (fun h17 => ?_)
    · refine lv_iconst (v := 1) hx hb d_Opcodes_mayJump_27 (by decide) ?_
      refine lv_goto (tgt := 32) hx hb d_Opcodes_mayJump_28 (by decide) ?_
      exact tw_zsret E (by decide) (by decide) d_Opcodes_mayJump_32
    · refine lv_iload_n hx hb d_Opcodes_mayJump_20 rfl (lv_at hl 0 rfl) ?_
      refine lv_sipush (v := 199) hx hb d_Opcodes_mayJump_21 (by decide) ?_
      refine lv_icmp_ne (tgt := 31) hx hb d_Opcodes_mayJump_24 (by decide) (fun h24 => ?_) (fun h24 => ?_)
      · refine lv_iconst (v := 0) hx hb d_Opcodes_mayJump_31 (by decide) ?_
        exact tw_zsret E (by decide) (by decide) d_Opcodes_mayJump_32
      · refine lv_iconst (v := 1) hx hb d_Opcodes_mayJump_27 (by decide) ?_
        refine lv_goto (tgt := 32) hx hb d_Opcodes_mayJump_28 (by decide) ?_
        exact tw_zsret E (by decide) (by decide) d_Opcodes_mayJump_32
set_option maxHeartbeats 4000000 in
set_option maxRecDepth 100000 in
theorem s_Opcodes_goesOn (l : Launch) (g : tw_G) (sz : Nat) (a : Int32) : Met l y_Opcodes_goesOn [.code y_Opcodes_goesOn b_Opcodes_goesOn 1 (some .boolean)] ({ frames := 2, cells := 0, slots := 0, locals := 42 }) (tw_P g [.int a] [] sz) (vp_Si (fun r => r = 0 ∨ r = 1)) 0 0 (fun _ => False) := by
  refine tw_met (l := l) (g := g) (y := y_Opcodes_goesOn) (cc := b_Opcodes_goesOn) (maxL := 1) (ret := (some .boolean)) (rm := { frames := 2, cells := 0, slots := 0, locals := 42 }) (mc := 0) (ms := 0) (av := [.int a]) (ws := []) (sz := sz) (Qc := fun _ => (vp_Si (fun r => r = 0 ∨ r = 1))) (free := fun _ _ => False) (by decide) (Nat.le_of_ble_eq_true rfl) ?_
  intro p e s m below meth c ls A E hB hK hZ hP hD hS hA hl
  obtain ⟨hx, hb, hml, hr, hown, hts, hlocks, hin⟩ := id E
  have hl : lv_has ls 1 [(0, .int a)] := hl
  refine lv_iload_n hx hb d_Opcodes_goesOn_0 rfl (lv_at hl 0 rfl) ?_
  refine lv_sipush (v := 167) hx hb d_Opcodes_goesOn_1 (by decide) ?_
  refine lv_icmp_eq (tgt := 25) hx hb d_Opcodes_goesOn_4 (by decide) (fun h4 => ?_) (fun h4 => ?_)
  · refine lv_iconst (v := 0) hx hb d_Opcodes_goesOn_25 (by decide) ?_
    exact tw_zsret E (by decide) (by decide) d_Opcodes_goesOn_26
  · refine lv_iload_n hx hb d_Opcodes_goesOn_7 rfl (lv_at hl 0 rfl) ?_
    refine lv_sipush (v := 191) hx hb d_Opcodes_goesOn_8 (by decide) ?_
    refine lv_icmp_eq (tgt := 25) hx hb d_Opcodes_goesOn_11 (by decide) (fun h11 => ?_) (fun h11 => ?_)
    · refine lv_iconst (v := 0) hx hb d_Opcodes_goesOn_25 (by decide) ?_
      exact tw_zsret E (by decide) (by decide) d_Opcodes_goesOn_26
    · refine lv_iload_n hx hb d_Opcodes_goesOn_14 rfl (lv_at hl 0 rfl) ?_
      refine tw_si (tw_runS (ws := []) (wc := []) (As := [.int a]) (rest := []) E hB hK hZ (s_Opcodes_isReturn l g s.heap.size a) mc_Opcodes_isReturn ms_Opcodes_isReturn wd_1013 hP hD hS hA [] rfl (by decide) rfl rfl (by decide) rfl hl.1 rfl (Nat.le_of_ble_eq_true rfl) (by decide) d_Opcodes_goesOn_15) (fun r1 hr1 => ?_)
      refine lv_if_ne (tgt := 25) hx hb d_Opcodes_goesOn_18 (by decide) (fun h18 => ?_) (fun h18 => ?_)
      · refine lv_iconst (v := 0) hx hb d_Opcodes_goesOn_25 (by decide) ?_
        exact tw_zsret E (by decide) (by decide) d_Opcodes_goesOn_26
      · refine lv_iconst (v := 1) hx hb d_Opcodes_goesOn_21 (by decide) ?_
        refine lv_goto (tgt := 26) hx hb d_Opcodes_goesOn_22 (by decide) ?_
        exact tw_zsret E (by decide) (by decide) d_Opcodes_goesOn_26
set_option maxHeartbeats 4000000 in
set_option maxRecDepth 100000 in
theorem s_Opcodes_localOf (l : Launch) (g : tw_G) (sz : Nat) (a : Int32) (b : Int32) : Met l y_Opcodes_localOf [.code y_Opcodes_localOf b_Opcodes_localOf 2 (some .int)] ({ frames := 1, cells := 0, slots := 0, locals := 22 }) (tw_P g [.int a, .int b] [] sz) (vp_Si (fun r => r = b ∨ ∃ j, j < 4 ∧ r = nI j)) 0 0 (fun _ => False) := by
  refine tw_met (l := l) (g := g) (y := y_Opcodes_localOf) (cc := b_Opcodes_localOf) (maxL := 2) (ret := (some .int)) (rm := { frames := 1, cells := 0, slots := 0, locals := 22 }) (mc := 0) (ms := 0) (av := [.int a, .int b]) (ws := []) (sz := sz) (Qc := fun _ => (vp_Si (fun r => r = b ∨ ∃ j, j < 4 ∧ r = nI j))) (free := fun _ _ => False) (by decide) (Nat.le_of_ble_eq_true rfl) ?_
  intro p e s m below meth c ls A E hB hK hZ hP hD hS hA hl
  obtain ⟨hx, hb, hml, hr, hown, hts, hlocks, hin⟩ := id E
  have hl : lv_has ls 2 [(0, .int a), (1, .int b)] := hl
  refine lv_iload_n hx hb d_Opcodes_localOf_0 rfl (lv_at hl 0 rfl) ?_
  refine lv_bipush (v := 26) hx hb d_Opcodes_localOf_1 (by decide) ?_
  refine lv_bipush (v := 45) hx hb d_Opcodes_localOf_3 (by decide) ?_
  refine tw_si (tw_runS (ws := []) (wc := []) (As := [.int a, .int 26, .int 45]) (rest := []) E hB hK hZ (s_Opcodes_isWithin l g s.heap.size a 26 45) mc_Opcodes_isWithin ms_Opcodes_isWithin wd_719 hP hD hS hA [] rfl (by decide) rfl rfl (by decide) rfl hl.1 rfl (Nat.le_of_ble_eq_true rfl) (by decide) d_Opcodes_localOf_5) (fun r1 hr1 => ?_)
  refine lv_if_eq (tgt := 18) hx hb d_Opcodes_localOf_8 (by decide) (fun h8 => ?_) (fun h8 => ?_)
  · refine lv_iload_n hx hb d_Opcodes_localOf_18 rfl (lv_at hl 0 rfl) ?_
    refine lv_bipush (v := 59) hx hb d_Opcodes_localOf_19 (by decide) ?_
    refine lv_bipush (v := 78) hx hb d_Opcodes_localOf_21 (by decide) ?_
    refine tw_si (tw_runS (ws := []) (wc := []) (As := [.int a, .int 59, .int 78]) (rest := []) E hB hK hZ (s_Opcodes_isWithin l g s.heap.size a 59 78) mc_Opcodes_isWithin ms_Opcodes_isWithin wd_719 hP hD hS hA [] rfl (by decide) rfl rfl (by decide) rfl hl.1 rfl (Nat.le_of_ble_eq_true rfl) (by decide) d_Opcodes_localOf_23) (fun r2 hr2 => ?_)
    refine lv_if_eq (tgt := 38) hx hb d_Opcodes_localOf_26 (by decide) (fun h26 => ?_) (fun h26 => ?_)
    · refine lv_iload_n hx hb d_Opcodes_localOf_38 rfl (lv_at hl 1 rfl) ?_
      exact tw_isret E (Or.inl rfl) d_Opcodes_localOf_39
    · refine lv_iload_n hx hb d_Opcodes_localOf_29 rfl (lv_at hl 0 rfl) ?_
      refine lv_bipush (v := 59) hx hb d_Opcodes_localOf_30 (by decide) ?_
      refine lv_isub hx hb d_Opcodes_localOf_32 ?_
      obtain ⟨x3, ex3⟩ : ∃ z : Int32, a - 59 = z := ⟨_, rfl⟩
      refine tw_ri (e2 := x3) ex3 ?_
      refine lv_iconst (v := 3) hx hb d_Opcodes_localOf_33 (by decide) ?_
      refine lv_iand hx hb d_Opcodes_localOf_34 ?_
      obtain ⟨x4, ex4⟩ : ∃ z : Int32, x3 &&& 3 = z := ⟨_, rfl⟩
      refine tw_ri (e2 := x4) ex4 ?_
      refine lv_goto (tgt := 39) hx hb d_Opcodes_localOf_35 (by decide) ?_
      exact tw_isret E (Or.inr (ex4 ▸ pk_andE _ (m := 3) 2 (by decide))) d_Opcodes_localOf_39
  · refine lv_iload_n hx hb d_Opcodes_localOf_11 rfl (lv_at hl 0 rfl) ?_
    refine lv_bipush (v := 26) hx hb d_Opcodes_localOf_12 (by decide) ?_
    refine lv_isub hx hb d_Opcodes_localOf_14 ?_
    obtain ⟨x5, ex5⟩ : ∃ z : Int32, a - 26 = z := ⟨_, rfl⟩
    refine tw_ri (e2 := x5) ex5 ?_
    refine lv_iconst (v := 3) hx hb d_Opcodes_localOf_15 (by decide) ?_
    refine lv_iand hx hb d_Opcodes_localOf_16 ?_
    obtain ⟨x6, ex6⟩ : ∃ z : Int32, x5 &&& 3 = z := ⟨_, rfl⟩
    refine tw_ri (e2 := x6) ex6 ?_
    exact tw_isret E (Or.inr (ex6 ▸ pk_andE _ (m := 3) 2 (by decide))) d_Opcodes_localOf_17
set_option maxHeartbeats 4000000 in
set_option maxRecDepth 100000 in
theorem s_Opcodes_localKindOf (l : Launch) (g : tw_G) (sz : Nat) (a : Int32) : Met l y_Opcodes_localKindOf [.code y_Opcodes_localKindOf b_Opcodes_localKindOf 1 (some .int)] ({ frames := 1, cells := 0, slots := 0, locals := 22 }) (tw_P g [.int a] [] sz) (vp_Si (fun r => r = 1 ∨ r = 2 ∨ r = 4)) 0 0 (fun _ => False) := by
  refine tw_met (l := l) (g := g) (y := y_Opcodes_localKindOf) (cc := b_Opcodes_localKindOf) (maxL := 1) (ret := (some .int)) (rm := { frames := 1, cells := 0, slots := 0, locals := 22 }) (mc := 0) (ms := 0) (av := [.int a]) (ws := []) (sz := sz) (Qc := fun _ => (vp_Si (fun r => r = 1 ∨ r = 2 ∨ r = 4))) (free := fun _ _ => False) (by decide) (Nat.le_of_ble_eq_true rfl) ?_
  intro p e s m below meth c ls A E hB hK hZ hP hD hS hA hl
  obtain ⟨hx, hb, hml, hr, hown, hts, hlocks, hin⟩ := id E
  have hl : lv_has ls 1 [(0, .int a)] := hl
  refine lv_iload_n hx hb d_Opcodes_localKindOf_0 rfl (lv_at hl 0 rfl) ?_
  refine lv_bipush (v := 22) hx hb d_Opcodes_localKindOf_1 (by decide) ?_
  refine lv_icmp_eq (tgt := 34) hx hb d_Opcodes_localKindOf_3 (by decide) (fun h3 => ?_) (fun h3 => ?_)
  · refine lv_iconst (v := 2) hx hb d_Opcodes_localKindOf_34 (by decide) ?_
    exact tw_isret E (by decide) d_Opcodes_localKindOf_35
  · refine lv_iload_n hx hb d_Opcodes_localKindOf_6 rfl (lv_at hl 0 rfl) ?_
    refine lv_bipush (v := 55) hx hb d_Opcodes_localKindOf_7 (by decide) ?_
    refine lv_icmp_eq (tgt := 34) hx hb d_Opcodes_localKindOf_9 (by decide) (fun h9 => ?_) (fun h9 => ?_)
    · refine lv_iconst (v := 2) hx hb d_Opcodes_localKindOf_34 (by decide) ?_
      exact tw_isret E (by decide) d_Opcodes_localKindOf_35
    · refine lv_iload_n hx hb d_Opcodes_localKindOf_12 rfl (lv_at hl 0 rfl) ?_
      refine lv_bipush (v := 30) hx hb d_Opcodes_localKindOf_13 (by decide) ?_
      refine lv_bipush (v := 33) hx hb d_Opcodes_localKindOf_15 (by decide) ?_
      refine tw_si (tw_runS (ws := []) (wc := []) (As := [.int a, .int 30, .int 33]) (rest := []) E hB hK hZ (s_Opcodes_isWithin l g s.heap.size a 30 33) mc_Opcodes_isWithin ms_Opcodes_isWithin wd_719 hP hD hS hA [] rfl (by decide) rfl rfl (by decide) rfl hl.1 rfl (Nat.le_of_ble_eq_true rfl) (by decide) d_Opcodes_localKindOf_17) (fun r1 hr1 => ?_)
      refine lv_if_ne (tgt := 34) hx hb d_Opcodes_localKindOf_20 (by decide) (fun h20 => ?_) (fun h20 => ?_)
      · refine lv_iconst (v := 2) hx hb d_Opcodes_localKindOf_34 (by decide) ?_
        exact tw_isret E (by decide) d_Opcodes_localKindOf_35
      · refine lv_iload_n hx hb d_Opcodes_localKindOf_23 rfl (lv_at hl 0 rfl) ?_
        refine lv_bipush (v := 63) hx hb d_Opcodes_localKindOf_24 (by decide) ?_
        refine lv_bipush (v := 66) hx hb d_Opcodes_localKindOf_26 (by decide) ?_
        refine tw_si (tw_runS (ws := []) (wc := []) (As := [.int a, .int 63, .int 66]) (rest := []) E hB hK hZ (s_Opcodes_isWithin l g s.heap.size a 63 66) mc_Opcodes_isWithin ms_Opcodes_isWithin wd_719 hP hD hS hA [] rfl (by decide) rfl rfl (by decide) rfl hl.1 rfl (Nat.le_of_ble_eq_true rfl) (by decide) d_Opcodes_localKindOf_28) (fun r2 hr2 => ?_)
        refine lv_if_eq (tgt := 36) hx hb d_Opcodes_localKindOf_31 (by decide) (fun h31 => ?_) (fun h31 => ?_)
        · refine lv_iload_n hx hb d_Opcodes_localKindOf_36 rfl (lv_at hl 0 rfl) ?_
          refine lv_bipush (v := 25) hx hb d_Opcodes_localKindOf_37 (by decide) ?_
          refine lv_icmp_eq (tgt := 70) hx hb d_Opcodes_localKindOf_39 (by decide) (fun h39 => ?_) (fun h39 => ?_)
          · refine lv_iconst (v := 4) hx hb d_Opcodes_localKindOf_70 (by decide) ?_
            refine lv_goto (tgt := 75) hx hb d_Opcodes_localKindOf_71 (by decide) ?_
            exact tw_isret E (by decide) d_Opcodes_localKindOf_75
          · refine lv_iload_n hx hb d_Opcodes_localKindOf_42 rfl (lv_at hl 0 rfl) ?_
            refine lv_bipush (v := 58) hx hb d_Opcodes_localKindOf_43 (by decide) ?_
            refine lv_icmp_eq (tgt := 70) hx hb d_Opcodes_localKindOf_45 (by decide) (fun h45 => ?_) (fun h45 => ?_)
            · refine lv_iconst (v := 4) hx hb d_Opcodes_localKindOf_70 (by decide) ?_
              refine lv_goto (tgt := 75) hx hb d_Opcodes_localKindOf_71 (by decide) ?_
              exact tw_isret E (by decide) d_Opcodes_localKindOf_75
            · refine lv_iload_n hx hb d_Opcodes_localKindOf_48 rfl (lv_at hl 0 rfl) ?_
              refine lv_bipush (v := 42) hx hb d_Opcodes_localKindOf_49 (by decide) ?_
              refine lv_bipush (v := 45) hx hb d_Opcodes_localKindOf_51 (by decide) ?_
              refine tw_si (tw_runS (ws := []) (wc := []) (As := [.int a, .int 42, .int 45]) (rest := []) E hB hK hZ (s_Opcodes_isWithin l g s.heap.size a 42 45) mc_Opcodes_isWithin ms_Opcodes_isWithin wd_719 hP hD hS hA [] rfl (by decide) rfl rfl (by decide) rfl hl.1 rfl (Nat.le_of_ble_eq_true rfl) (by decide) d_Opcodes_localKindOf_53) (fun r3 hr3 => ?_)
              refine lv_if_ne (tgt := 70) hx hb d_Opcodes_localKindOf_56 (by decide) (fun h56 => ?_) (fun h56 => ?_)
              · refine lv_iconst (v := 4) hx hb d_Opcodes_localKindOf_70 (by decide) ?_
                refine lv_goto (tgt := 75) hx hb d_Opcodes_localKindOf_71 (by decide) ?_
                exact tw_isret E (by decide) d_Opcodes_localKindOf_75
              · refine lv_iload_n hx hb d_Opcodes_localKindOf_59 rfl (lv_at hl 0 rfl) ?_
                refine lv_bipush (v := 75) hx hb d_Opcodes_localKindOf_60 (by decide) ?_
                refine lv_bipush (v := 78) hx hb d_Opcodes_localKindOf_62 (by decide) ?_
                refine tw_si (tw_runS (ws := []) (wc := []) (As := [.int a, .int 75, .int 78]) (rest := []) E hB hK hZ (s_Opcodes_isWithin l g s.heap.size a 75 78) mc_Opcodes_isWithin ms_Opcodes_isWithin wd_719 hP hD hS hA [] rfl (by decide) rfl rfl (by decide) rfl hl.1 rfl (Nat.le_of_ble_eq_true rfl) (by decide) d_Opcodes_localKindOf_64) (fun r4 hr4 => ?_)
                refine lv_if_eq (tgt := 74) hx hb d_Opcodes_localKindOf_67 (by decide) (fun h67 => ?_) (fun h67 => ?_)
                · refine lv_iconst (v := 1) hx hb d_Opcodes_localKindOf_74 (by decide) ?_
                  exact tw_isret E (by decide) d_Opcodes_localKindOf_75
                · refine lv_iconst (v := 4) hx hb d_Opcodes_localKindOf_70 (by decide) ?_
                  refine lv_goto (tgt := 75) hx hb d_Opcodes_localKindOf_71 (by decide) ?_
                  exact tw_isret E (by decide) d_Opcodes_localKindOf_75
        · refine lv_iconst (v := 2) hx hb d_Opcodes_localKindOf_34 (by decide) ?_
          exact tw_isret E (by decide) d_Opcodes_localKindOf_35
set_option maxHeartbeats 4000000 in
set_option maxRecDepth 100000 in
theorem s_Opcodes_tagOf (l : Launch) (g : tw_G) (sz : Nat) (a : Int32) : Met l y_Opcodes_tagOf [.code y_Opcodes_tagOf b_Opcodes_tagOf 1 (some .int)] ({ frames := 2, cells := 0, slots := 0, locals := 42 }) (tw_P g [.int a] [] sz) (vp_Si (fun _ => True)) 0 0 (fun _ => False) := by
  refine tw_met (l := l) (g := g) (y := y_Opcodes_tagOf) (cc := b_Opcodes_tagOf) (maxL := 1) (ret := (some .int)) (rm := { frames := 2, cells := 0, slots := 0, locals := 42 }) (mc := 0) (ms := 0) (av := [.int a]) (ws := []) (sz := sz) (Qc := fun _ => (vp_Si (fun _ => True))) (free := fun _ _ => False) (by decide) (Nat.le_of_ble_eq_true rfl) ?_
  intro p e s m below meth c ls A E hB hK hZ hP hD hS hA hl
  obtain ⟨hx, hb, hml, hr, hown, hts, hlocks, hin⟩ := id E
  have hl : lv_has ls 1 [(0, .int a)] := hl
  refine lv_iload_n hx hb d_Opcodes_tagOf_0 rfl (lv_at hl 0 rfl) ?_
  refine lv_bipush (v := 20) hx hb d_Opcodes_tagOf_1 (by decide) ?_
  refine lv_icmp_ne (tgt := 8) hx hb d_Opcodes_tagOf_3 (by decide) (fun h3 => ?_) (fun h3 => ?_)
  · refine lv_iload_n hx hb d_Opcodes_tagOf_8 rfl (lv_at hl 0 rfl) ?_
    refine tw_si (tw_runS (ws := []) (wc := []) (As := [.int a]) (rest := []) E hB hK hZ (s_Opcodes_isFieldUse l g s.heap.size a) mc_Opcodes_isFieldUse ms_Opcodes_isFieldUse wd_870 hP hD hS hA [] rfl (by decide) rfl rfl (by decide) rfl hl.1 rfl (Nat.le_of_ble_eq_true rfl) (by decide) d_Opcodes_tagOf_9) (fun r1 hr1 => ?_)
    refine lv_if_eq (tgt := 18) hx hb d_Opcodes_tagOf_12 (by decide) (fun h12 => ?_) (fun h12 => ?_)
    · refine lv_iload_n hx hb d_Opcodes_tagOf_18 rfl (lv_at hl 0 rfl) ?_
      refine tw_si (tw_runS (ws := []) (wc := []) (As := [.int a]) (rest := []) E hB hK hZ (s_Opcodes_isCall l g s.heap.size a) mc_Opcodes_isCall ms_Opcodes_isCall wd_873 hP hD hS hA [] rfl (by decide) rfl rfl (by decide) rfl hl.1 rfl (Nat.le_of_ble_eq_true rfl) (by decide) d_Opcodes_tagOf_19) (fun r2 hr2 => ?_)
      refine lv_if_eq (tgt := 30) hx hb d_Opcodes_tagOf_22 (by decide) (fun h22 => ?_) (fun h22 => ?_)
      · refine lv_bipush (v := 7) hx hb d_Opcodes_tagOf_30 (by decide) ?_
        exact tw_isret E trivial d_Opcodes_tagOf_32
      · refine lv_bipush (v := 10) hx hb d_Opcodes_tagOf_25 (by decide) ?_
        refine lv_goto (tgt := 32) hx hb d_Opcodes_tagOf_27 (by decide) ?_
        exact tw_isret E trivial d_Opcodes_tagOf_32
    · refine lv_bipush (v := 9) hx hb d_Opcodes_tagOf_15 (by decide) ?_
      exact tw_isret E trivial d_Opcodes_tagOf_17
  · refine lv_iconst (v := 5) hx hb d_Opcodes_tagOf_6 (by decide) ?_
    exact tw_isret E trivial d_Opcodes_tagOf_7
end
section
/-! String constants: their length, and rows for calls on them. -/
abbrev sl (i : Nat) : Nat := (st_own i).2.2.2.length
theorem sl_le : ∀ i, i < 25 → sl i ≤ 8 := by decide +kernel
/-- a reader that answers nothing -/
def vp_Sv : Array Value → State → Outcome → State → Prop := fun _ st o t => o = .returned none ∧ t.heap = st.heap
/-- a reader that answers a reference -/
def vp_Sr (post : Nat → Prop) : Array Value → State → Outcome → State → Prop := fun _ st o t => ∃ r : Nat, o = .returned (some (.ref r)) ∧ post r ∧ t.heap = st.heap
section TWS
variable {p : Program} {l : Launch} {e : Env} {R : Room} {s : State} {m : MethodId} {args : Array Value} {below : List Frame} {meth : Method} {c : Code} {H : Heap} {locs : List Loc} {cells slots : Nat} {Q : State → Prop}
variable {cc : ByteArray} {pc nL : Nat} {ls : Array Slot} {rest st0 : List Value} {A : Nat → Prop} {g : tw_G} {rt : Option FieldType} {own nm : String} {ws wc wr : va_W} {mc ms : Nat}
variable {y : MethodName} {bytes : ByteArray} {maxL idx n : Nat} {ret : Option FieldType} {rm : Room} {Qc : Array Value → State → Outcome → State → Prop} {free : Addr → Prop} {As : List Value} {b : Nat}
theorem tw_runK (E : tw_E p s m args meth c cc nL rt own nm) (hB : tw_B s) (hK : va_K g.1 classes (tw_ty g) s) (hZ : tw_CX g A s s.heap) (hM : Met l y [.code y bytes maxL ret] rm (tw_P g (.ref b :: As) [] H.size) Qc mc ms free) (hm : tw_MC y bytes maxL ret n) (hmi : Cond.instanceMethod y ∈ tw_tbl) (hms : Cond.selects y.cls y y ∈ tw_tbl) (hlk : Cond.methodLink own idx y ∈ tw_tbl)
    (hP : va_P g.1 classes ws H) (hD : va_D A ws) (hS : va_S A s.heap H locs) (hA : ∀ q, s.heap.size ≤ q → A q) (hPs : ∃ cell : Cell, H[b]? = some cell ∧ cell.vm.isStatics = false ∧ s.vm.findClass y.cls = some cell.cls)
    (hrc : rm.cells = mc) (hrs : rm.slots = ms) (hR : rm.frames + 1 ≤ R.frames ∧ 8 + (maxL + 11) + rm.locals ≤ R.locals) (hn : As.length = n) (hls : ls.size = nL) (hst : st0 = As.reverse ++ .ref b :: rest) (hrm : (rest.map fun v => v.category).sum ≤ 8) (hf : cells + mc ≤ R.cells ∧ slots + ms ≤ R.slots) (hdg : decode cc pc = .ok (.invokevirtual idx, 3)) :
    va_Run p l e R s m args below meth c H locs cells slots mc ms (F0 m pc ls st0) rest (Qc (Value.ref b :: As).toArray) free := by
  obtain ⟨hx, hb, hml, -, hown, hts, -, -⟩ := E
  obtain ⟨h1, h2, h3, h4⟩ := hm
  exact va_runV (Ts := tw_tbl) ⟨hx, hb, hml, hown, hts⟩ hM ⟨callB_of n hts (tw_good h1 rfl) rfl hrc hrs (hts _ h2) (hts _ hlk) ⟨h3.1, h3.2, h4⟩ hR, hts _ hmi, hts _ hms⟩
    ⟨tw_blind, hPs, tw_pre (av := .ref b :: As) hB hZ hS hA hK hP hD [] rfl rfl⟩ rfl hn hls hst (lv_room hrm) hdg hf
theorem tw_sv {a : Array Value} (hr : va_Run p l e R s m args below meth c H locs cells slots 0 0 (F0 m pc ls st0) rest (vp_Sv a) (fun _ => False))
    (kk : W p l e R s m args below meth c H locs cells slots Q (F0 m (pc + 3) ls rest)) : W p l e R s m args below meth c H locs cells slots Q (F0 m pc ls st0) := by
  intro T hT X
  obtain ⟨v, st₀, t, T', L, h0, X', hL, e1, e2, ⟨hv, hh⟩, st⟩ := hr T hT X
  cases hv
  obtain ⟨t2, a1, b1⟩ := kk T' (by rw [e1, hh, h0]) (Stand.forget X' (fun q h => (hL q h).elim))
  exact ⟨t2, st t2 a1, b1⟩
theorem tw_sr {post : Nat → Prop} {a : Array Value} (hr : va_Run p l e R s m args below meth c H locs cells slots 0 0 (F0 m pc ls st0) rest (vp_Sr post a) (fun _ => False))
    (kk : ∀ r : Nat, post r → W p l e R s m args below meth c H locs cells slots Q (F0 m (pc + 3) ls (.ref r :: rest))) : W p l e R s m args below meth c H locs cells slots Q (F0 m pc ls st0) := by
  intro T hT X
  obtain ⟨v, st₀, t, T', L, h0, X', hL, e1, e2, ⟨r, hv, hp, hh⟩, st⟩ := hr T hT X
  cases hv
  obtain ⟨t2, a1, b1⟩ := kk r hp T' (by rw [e1, hh, h0]) (Stand.forget X' (fun q h => (hL q h).elim))
  exact ⟨t2, st t2 a1, b1⟩
theorem tw_svret (E : tw_E p s m args meth c cc nL none own nm) (hdg : decode cc pc = .ok (.return_, 1)) :
    W p l e R s m args below meth c s.heap [] 0 0 (MQ below vp_Sv args s 0 0 (fun _ => False)) (F0 m pc ls []) :=
  W.vret E.1 E.2.1 E.2.2.2.1 (fun t ht _ => ⟨rfl, ht⟩) (fun _ h => by cases h) hdg E.2.2.2.2.2.2.1
end TWS
theorem tn_char (x : Int32) : narrow .char (.int ((x.toUInt32 % 65536).toInt32)) = .int ((x.toUInt32 % 65536).toInt32) := by
  show Value.int _ = Value.int _
  congr 1
  apply Int32.toBitVec_inj.mp
  apply BitVec.eq_of_toNat_eq
  simp [UInt32.toNat_mod]
theorem tn_sh0 (x : Int32) : x >>> (0 &&& 31) = x := by
  apply Int32.toBitVec_inj.mp
  rw [Int32.toBitVec_shiftRight]
  have e : ((0 : Int32) &&& 31).toBitVec.smod 32 = 0#32 := by decide
  rw [e]
  simp
theorem sf_lt75 {m : Nat} (h1 : m ≤ 75) (h : ¬ 75 ≤ nI m) : m + 1 ≤ 75 := tn_nle (a := 75) h (by decide) (by omega)
theorem sf_in75 {m : Nat} (h1 : m ≤ 75) (h : ¬ 75 ≤ nI m) : vp_in (nI m) 75 := vp_in_nI (sf_lt75 h1 h) (by decide)
theorem sf_pass {n at1 fa fp : Int32} {k : Int64} {r : Int32} {u : Int32 × Int32 × Int32} (h : (im_h n at1 k = 1 ∧ r = 1 ∧ u = (at1 + k.toInt32, fa, fp)) ∨ (im_h n at1 k = 0 ∧ r = 0 ∧ u = (at1, 1, at1))) : r = 0 ∨ r = 1 := by
  rcases h with ⟨-, h, -⟩ | ⟨-, h, -⟩
  · exact Or.inr h
  · exact Or.inl h
end
section
theorem d_Latin_charAt_0 : decode b_Latin_charAt 0 = .ok (.iload_n 1, 1) := by decide +kernel
theorem d_Latin_charAt_1 : decode b_Latin_charAt 1 = .ok (.aload_n 0, 1) := by decide +kernel
theorem d_Latin_charAt_2 : decode b_Latin_charAt 2 = .ok (.arraylength, 1) := by decide +kernel
theorem d_Latin_charAt_3 : decode b_Latin_charAt 3 = .ok (.invokestatic 9, 3) := by decide +kernel
theorem d_Latin_charAt_6 : decode b_Latin_charAt 6 = .ok (.aload_n 0, 1) := by decide +kernel
theorem d_Latin_charAt_7 : decode b_Latin_charAt 7 = .ok (.iload_n 1, 1) := by decide +kernel
theorem d_Latin_charAt_8 : decode b_Latin_charAt 8 = .ok (.baload, 1) := by decide +kernel
theorem d_Latin_charAt_9 : decode b_Latin_charAt 9 = .ok (.sipush 255, 3) := by decide +kernel
theorem d_Latin_charAt_12 : decode b_Latin_charAt 12 = .ok (.iand, 1) := by decide +kernel
theorem d_Latin_charAt_13 : decode b_Latin_charAt 13 = .ok (.i2c, 1) := by decide +kernel
theorem d_Latin_charAt_14 : decode b_Latin_charAt 14 = .ok (.ireturn, 1) := by decide +kernel
theorem d_Layout_spells_0 : decode b_Layout_spells 0 = .ok (.aload_n 0, 1) := by decide +kernel
theorem d_Layout_spells_1 : decode b_Layout_spells 1 = .ok (.iload_n 1, 1) := by decide +kernel
theorem d_Layout_spells_2 : decode b_Layout_spells 2 = .ok (.invokevirtual 77, 3) := by decide +kernel
theorem d_Layout_spells_5 : decode b_Layout_spells 5 = .ok (.iconst 3, 1) := by decide +kernel
theorem d_Layout_spells_6 : decode b_Layout_spells 6 = .ok (.iadd, 1) := by decide +kernel
theorem d_Layout_spells_7 : decode b_Layout_spells 7 = .ok (.istore_n 3, 1) := by decide +kernel
theorem d_Layout_spells_8 : decode b_Layout_spells 8 = .ok (.aload_n 0, 1) := by decide +kernel
theorem d_Layout_spells_9 : decode b_Layout_spells 9 = .ok (.iload_n 1, 1) := by decide +kernel
theorem d_Layout_spells_10 : decode b_Layout_spells 10 = .ok (.invokevirtual 80, 3) := by decide +kernel
theorem d_Layout_spells_13 : decode b_Layout_spells 13 = .ok (.aload_n 2, 1) := by decide +kernel
theorem d_Layout_spells_14 : decode b_Layout_spells 14 = .ok (.invokevirtual 121, 3) := by decide +kernel
theorem d_Layout_spells_17 : decode b_Layout_spells 17 = .ok (.if_icmp .eq 5, 3) := by decide +kernel
theorem d_Layout_spells_20 : decode b_Layout_spells 20 = .ok (.iconst 0, 1) := by decide +kernel
theorem d_Layout_spells_21 : decode b_Layout_spells 21 = .ok (.ireturn, 1) := by decide +kernel
theorem d_Layout_spells_22 : decode b_Layout_spells 22 = .ok (.iconst 0, 1) := by decide +kernel
theorem d_Layout_spells_23 : decode b_Layout_spells 23 = .ok (.istore 4, 2) := by decide +kernel
theorem d_Layout_spells_25 : decode b_Layout_spells 25 = .ok (.iload 4, 2) := by decide +kernel
theorem d_Layout_spells_27 : decode b_Layout_spells 27 = .ok (.aload_n 2, 1) := by decide +kernel
theorem d_Layout_spells_28 : decode b_Layout_spells 28 = .ok (.invokevirtual 121, 3) := by decide +kernel
theorem d_Layout_spells_31 : decode b_Layout_spells 31 = .ok (.if_icmp .ge 31, 3) := by decide +kernel
theorem d_Layout_spells_34 : decode b_Layout_spells 34 = .ok (.aload_n 0, 1) := by decide +kernel
theorem d_Layout_spells_35 : decode b_Layout_spells 35 = .ok (.getfield 12, 3) := by decide +kernel
theorem d_Layout_spells_38 : decode b_Layout_spells 38 = .ok (.iload_n 3, 1) := by decide +kernel
theorem d_Layout_spells_39 : decode b_Layout_spells 39 = .ok (.iload 4, 2) := by decide +kernel
theorem d_Layout_spells_41 : decode b_Layout_spells 41 = .ok (.iadd, 1) := by decide +kernel
theorem d_Layout_spells_42 : decode b_Layout_spells 42 = .ok (.invokevirtual 118, 3) := by decide +kernel
theorem d_Layout_spells_45 : decode b_Layout_spells 45 = .ok (.aload_n 2, 1) := by decide +kernel
theorem d_Layout_spells_46 : decode b_Layout_spells 46 = .ok (.iload 4, 2) := by decide +kernel
theorem d_Layout_spells_48 : decode b_Layout_spells 48 = .ok (.invokevirtual 127, 3) := by decide +kernel
theorem d_Layout_spells_51 : decode b_Layout_spells 51 = .ok (.if_icmp .eq 5, 3) := by decide +kernel
theorem d_Layout_spells_54 : decode b_Layout_spells 54 = .ok (.iconst 0, 1) := by decide +kernel
theorem d_Layout_spells_55 : decode b_Layout_spells 55 = .ok (.ireturn, 1) := by decide +kernel
theorem d_Layout_spells_56 : decode b_Layout_spells 56 = .ok (.iinc 4 1, 3) := by decide +kernel
theorem d_Layout_spells_59 : decode b_Layout_spells 59 = .ok (.goto (-34), 3) := by decide +kernel
theorem d_Layout_spells_62 : decode b_Layout_spells 62 = .ok (.iconst 1, 1) := by decide +kernel
theorem d_Layout_spells_63 : decode b_Layout_spells 63 = .ok (.ireturn, 1) := by decide +kernel
theorem d_Prec_checkIndex_0 : decode b_Prec_checkIndex 0 = .ok (.iload_n 0, 1) := by decide +kernel
theorem d_Prec_checkIndex_1 : decode b_Prec_checkIndex 1 = .ok (.ifCond .lt 8, 3) := by decide +kernel
theorem d_Prec_checkIndex_4 : decode b_Prec_checkIndex 4 = .ok (.iload_n 0, 1) := by decide +kernel
theorem d_Prec_checkIndex_5 : decode b_Prec_checkIndex 5 = .ok (.iload_n 1, 1) := by decide +kernel
theorem d_Prec_checkIndex_6 : decode b_Prec_checkIndex 6 = .ok (.if_icmp .lt 10, 3) := by decide +kernel
theorem d_Prec_checkIndex_16 : decode b_Prec_checkIndex 16 = .ok (.iload_n 0, 1) := by decide +kernel
theorem d_Prec_checkIndex_17 : decode b_Prec_checkIndex 17 = .ok (.ireturn, 1) := by decide +kernel
theorem d_Str_charAt_0 : decode b_Str_charAt 0 = .ok (.aload_n 0, 1) := by decide +kernel
theorem d_Str_charAt_1 : decode b_Str_charAt 1 = .ok (.invokevirtual 492, 3) := by decide +kernel
theorem d_Str_charAt_4 : decode b_Str_charAt 4 = .ok (.ifCond .eq 12, 3) := by decide +kernel
theorem d_Str_charAt_7 : decode b_Str_charAt 7 = .ok (.aload_n 0, 1) := by decide +kernel
theorem d_Str_charAt_8 : decode b_Str_charAt 8 = .ok (.getfield 9, 3) := by decide +kernel
theorem d_Str_charAt_11 : decode b_Str_charAt 11 = .ok (.iload_n 1, 1) := by decide +kernel
theorem d_Str_charAt_12 : decode b_Str_charAt 12 = .ok (.invokestatic 495, 3) := by decide +kernel
theorem d_Str_charAt_15 : decode b_Str_charAt 15 = .ok (.ireturn, 1) := by decide +kernel
theorem d_Str_checkIndex_0 : decode b_Str_checkIndex 0 = .ok (.iload_n 0, 1) := by decide +kernel
theorem d_Str_checkIndex_1 : decode b_Str_checkIndex 1 = .ok (.iload_n 1, 1) := by decide +kernel
theorem d_Str_checkIndex_2 : decode b_Str_checkIndex 2 = .ok (.getstatic 1053, 3) := by decide +kernel
theorem d_Str_checkIndex_5 : decode b_Str_checkIndex 5 = .ok (.invokestatic 1059, 3) := by decide +kernel
theorem d_Str_checkIndex_8 : decode b_Str_checkIndex 8 = .ok (.pop, 1) := by decide +kernel
theorem d_Str_checkIndex_9 : decode b_Str_checkIndex 9 = .ok (.return_, 1) := by decide +kernel
theorem d_Str_coder_0 : decode b_Str_coder 0 = .ok (.getstatic 38, 3) := by decide +kernel
theorem d_Str_coder_3 : decode b_Str_coder 3 = .ok (.ifCond .eq 10, 3) := by decide +kernel
theorem d_Str_coder_6 : decode b_Str_coder 6 = .ok (.aload_n 0, 1) := by decide +kernel
theorem d_Str_coder_7 : decode b_Str_coder 7 = .ok (.getfield 15, 3) := by decide +kernel
theorem d_Str_coder_10 : decode b_Str_coder 10 = .ok (.goto 4, 3) := by decide +kernel
theorem d_Str_coder_14 : decode b_Str_coder 14 = .ok (.ireturn, 1) := by decide +kernel
theorem d_Str_isLatin1_0 : decode b_Str_isLatin1 0 = .ok (.getstatic 38, 3) := by decide +kernel
theorem d_Str_isLatin1_3 : decode b_Str_isLatin1 3 = .ok (.ifCond .eq 14, 3) := by decide +kernel
theorem d_Str_isLatin1_6 : decode b_Str_isLatin1 6 = .ok (.aload_n 0, 1) := by decide +kernel
theorem d_Str_isLatin1_7 : decode b_Str_isLatin1 7 = .ok (.getfield 15, 3) := by decide +kernel
theorem d_Str_isLatin1_10 : decode b_Str_isLatin1 10 = .ok (.ifCond .ne 7, 3) := by decide +kernel
theorem d_Str_isLatin1_13 : decode b_Str_isLatin1 13 = .ok (.iconst 1, 1) := by decide +kernel
theorem d_Str_isLatin1_14 : decode b_Str_isLatin1 14 = .ok (.goto 4, 3) := by decide +kernel
theorem d_Str_isLatin1_18 : decode b_Str_isLatin1 18 = .ok (.ireturn, 1) := by decide +kernel
theorem d_Str_length_0 : decode b_Str_length 0 = .ok (.aload_n 0, 1) := by decide +kernel
theorem d_Str_length_1 : decode b_Str_length 1 = .ok (.getfield 9, 3) := by decide +kernel
theorem d_Str_length_4 : decode b_Str_length 4 = .ok (.arraylength, 1) := by decide +kernel
theorem d_Str_length_5 : decode b_Str_length 5 = .ok (.aload_n 0, 1) := by decide +kernel
theorem d_Str_length_6 : decode b_Str_length 6 = .ok (.invokevirtual 335, 3) := by decide +kernel
theorem d_Str_length_9 : decode b_Str_length 9 = .ok (.ishr, 1) := by decide +kernel
theorem d_Str_length_10 : decode b_Str_length 10 = .ok (.ireturn, 1) := by decide +kernel
end
section
set_option maxHeartbeats 4000000 in
set_option maxRecDepth 100000 in
theorem s_Str_coder (l : Launch) (g : tw_G) (sz : Nat) (i : Nat) (hi : i < 25) : Met l y_Str_coder [.code y_Str_coder b_Str_coder 1 (some .byte)] ({ frames := 0, cells := 0, slots := 0, locals := 0 }) (tw_P g [.ref (g.2.2.1 i)] [] sz) (vp_Si (fun r => r = 0)) 0 0 (fun _ => False) := by
  refine tw_met (l := l) (g := g) (y := y_Str_coder) (cc := b_Str_coder) (maxL := 1) (ret := (some .byte)) (rm := { frames := 0, cells := 0, slots := 0, locals := 0 }) (mc := 0) (ms := 0) (av := [.ref (g.2.2.1 i)]) (ws := []) (sz := sz) (Qc := fun _ => (vp_Si (fun r => r = 0))) (free := fun _ _ => False) (by decide) (Nat.le_of_ble_eq_true rfl) ?_
  intro p e s m below meth c ls A E hB hK hZ hP hD hS hA hl
  obtain ⟨hx, hb, hml, hr, hown, hts, hlocks, hin⟩ := id E
  have hl : lv_has ls 1 [(0, .ref (g.2.2.1 i))] := hl
  have hO1 : va_OF "java/lang/String" "coder" "B" (.int 0) (g.2.2.1 i) A s s.heap := ((hZ.2.2.1 i hi).1.1 0 (by decide)).2.1
  have hO2 : va_OF "java/lang/String" "value" "[B" (.ref (g.2.2.2 i)) (g.2.2.1 i) A s s.heap := ((hZ.2.2.1 i hi).1.1 0 (by decide)).2.2.1
  have hT : va_T .byte (g.2.2.2 i) (sl i) (fun j => .int ((st_own i).2.2.2.getD j 0)) A s s.heap := ((hZ.2.2.1 i hi).1.1 0 (by decide)).2.2.2
  refine va_gets (v := .int 1) hx hb hZ.2.2.2.1 hS hown (hts _ wd_471) (fun _ h9 => h9) d_Str_coder_0 ?_
  refine lv_if_eq (tgt := 13) hx hb d_Str_coder_3 (by decide) (fun h3 => ?_) (fun h3 => ?_)
  · first | exact absurd h3 (by decide) | exact absurd (by decide) h3
  · refine lv_aload_n hx hb d_Str_coder_6 rfl (lv_at hl 0 rfl) ?_
    refine vk_getf (v := .int 0) hx hb hO1 hS hown (hts _ wd_1754) (fun _ h9 => h9) d_Str_coder_7 ?_
    refine lv_goto (tgt := 14) hx hb d_Str_coder_10 (by decide) ?_
    exact tw_zsret E (by decide) rfl d_Str_coder_14
set_option maxHeartbeats 4000000 in
set_option maxRecDepth 100000 in
theorem s_Str_isLatin1 (l : Launch) (g : tw_G) (sz : Nat) (i : Nat) (hi : i < 25) : Met l y_Str_isLatin1 [.code y_Str_isLatin1 b_Str_isLatin1 1 (some .boolean)] ({ frames := 0, cells := 0, slots := 0, locals := 0 }) (tw_P g [.ref (g.2.2.1 i)] [] sz) (vp_Si (fun r => r = 1)) 0 0 (fun _ => False) := by
  refine tw_met (l := l) (g := g) (y := y_Str_isLatin1) (cc := b_Str_isLatin1) (maxL := 1) (ret := (some .boolean)) (rm := { frames := 0, cells := 0, slots := 0, locals := 0 }) (mc := 0) (ms := 0) (av := [.ref (g.2.2.1 i)]) (ws := []) (sz := sz) (Qc := fun _ => (vp_Si (fun r => r = 1))) (free := fun _ _ => False) (by decide) (Nat.le_of_ble_eq_true rfl) ?_
  intro p e s m below meth c ls A E hB hK hZ hP hD hS hA hl
  obtain ⟨hx, hb, hml, hr, hown, hts, hlocks, hin⟩ := id E
  have hl : lv_has ls 1 [(0, .ref (g.2.2.1 i))] := hl
  have hO1 : va_OF "java/lang/String" "coder" "B" (.int 0) (g.2.2.1 i) A s s.heap := ((hZ.2.2.1 i hi).1.1 0 (by decide)).2.1
  have hO2 : va_OF "java/lang/String" "value" "[B" (.ref (g.2.2.2 i)) (g.2.2.1 i) A s s.heap := ((hZ.2.2.1 i hi).1.1 0 (by decide)).2.2.1
  have hT : va_T .byte (g.2.2.2 i) (sl i) (fun j => .int ((st_own i).2.2.2.getD j 0)) A s s.heap := ((hZ.2.2.1 i hi).1.1 0 (by decide)).2.2.2
  refine va_gets (v := .int 1) hx hb hZ.2.2.2.1 hS hown (hts _ wd_471) (fun _ h9 => h9) d_Str_isLatin1_0 ?_
  refine lv_if_eq (tgt := 17) hx hb d_Str_isLatin1_3 (by decide) (fun h3 => ?_) (fun h3 => ?_)
  · first | exact absurd h3 (by decide) | exact absurd (by decide) h3
  · refine lv_aload_n hx hb d_Str_isLatin1_6 rfl (lv_at hl 0 rfl) ?_
    refine vk_getf (v := .int 0) hx hb hO1 hS hown (hts _ wd_1754) (fun _ h9 => h9) d_Str_isLatin1_7 ?_
    refine lv_if_ne (tgt := 17) hx hb d_Str_isLatin1_10 (by decide) (fun h10 => ?_) (fun h10 => ?_)
    · first | exact absurd h10 (by decide) | exact absurd (by decide) h10
    · refine lv_iconst (v := 1) hx hb d_Str_isLatin1_13 (by decide) ?_
      refine lv_goto (tgt := 18) hx hb d_Str_isLatin1_14 (by decide) ?_
      exact tw_zsret E (by decide) rfl d_Str_isLatin1_18
set_option maxHeartbeats 4000000 in
set_option maxRecDepth 100000 in
theorem s_Str_length (l : Launch) (g : tw_G) (sz : Nat) (i : Nat) (hi : i < 25) : Met l y_Str_length [.code y_Str_length b_Str_length 1 (some .int)] ({ frames := 1, cells := 0, slots := 0, locals := 20 }) (tw_P g [.ref (g.2.2.1 i)] [] sz) (vp_Si (fun r => r = nI (sl i))) 0 0 (fun _ => False) := by
  refine tw_met (l := l) (g := g) (y := y_Str_length) (cc := b_Str_length) (maxL := 1) (ret := (some .int)) (rm := { frames := 1, cells := 0, slots := 0, locals := 20 }) (mc := 0) (ms := 0) (av := [.ref (g.2.2.1 i)]) (ws := []) (sz := sz) (Qc := fun _ => (vp_Si (fun r => r = nI (sl i)))) (free := fun _ _ => False) (by decide) (Nat.le_of_ble_eq_true rfl) ?_
  intro p e s m below meth c ls A E hB hK hZ hP hD hS hA hl
  obtain ⟨hx, hb, hml, hr, hown, hts, hlocks, hin⟩ := id E
  have hl : lv_has ls 1 [(0, .ref (g.2.2.1 i))] := hl
  have hO1 : va_OF "java/lang/String" "coder" "B" (.int 0) (g.2.2.1 i) A s s.heap := ((hZ.2.2.1 i hi).1.1 0 (by decide)).2.1
  have hO2 : va_OF "java/lang/String" "value" "[B" (.ref (g.2.2.2 i)) (g.2.2.1 i) A s s.heap := ((hZ.2.2.1 i hi).1.1 0 (by decide)).2.2.1
  have hT : va_T .byte (g.2.2.2 i) (sl i) (fun j => .int ((st_own i).2.2.2.getD j 0)) A s s.heap := ((hZ.2.2.1 i hi).1.1 0 (by decide)).2.2.2
  refine lv_aload_n hx hb d_Str_length_0 rfl (lv_at hl 0 rfl) ?_
  refine vk_getf (v := .ref (g.2.2.2 i)) hx hb hO2 hS hown (hts _ wd_1753) (fun _ h9 => h9) d_Str_length_1 ?_
  refine va_tlen (v := nI (sl i)) hx hb hT hS rfl d_Str_length_4 ?_
  refine lv_aload_n hx hb d_Str_length_5 rfl (lv_at hl 0 rfl) ?_
  refine tw_si (tw_runK (ws := []) (As := []) (rest := [.int (nI (sl i))]) E hB hK hZ (s_Str_coder l g s.heap.size i hi) mc_Str_coder mi_Str_coder me_Str_coder wd_467 hP hD hS hA (vk_recv (i := 0) (hZ.2.2.1 i hi).1 (by decide) hS) rfl rfl (by decide) rfl hl.1 rfl (Nat.le_of_ble_eq_true rfl) (by decide) d_Str_length_6) (fun r1 hr1 => ?_)
  obtain rfl : r1 = 0 := hr1
  refine lv_ishr hx hb d_Str_length_9 ?_
  refine tw_ri (e2 := nI (sl i)) (tn_sh0 _) ?_
  exact tw_isret E rfl d_Str_length_10
set_option maxHeartbeats 4000000 in
set_option maxRecDepth 100000 in
theorem s_Prec_checkIndex0 (l : Launch) (g : tw_G) (sz : Nat) (x n : Int32) (hx0 : ¬ x < 0) (hx1 : x < n) : Met l y_Prec_checkIndex [.code y_Prec_checkIndex b_Prec_checkIndex 3 (some .int)] ({ frames := 0, cells := 0, slots := 0, locals := 0 }) (tw_P g [.int x, .int n, .null] [] sz) (vp_Si (fun r => r = x)) 0 0 (fun _ => False) := by
  refine tw_met (l := l) (g := g) (y := y_Prec_checkIndex) (cc := b_Prec_checkIndex) (maxL := 3) (ret := (some .int)) (rm := { frames := 0, cells := 0, slots := 0, locals := 0 }) (mc := 0) (ms := 0) (av := [.int x, .int n, .null]) (ws := []) (sz := sz) (Qc := fun _ => (vp_Si (fun r => r = x))) (free := fun _ _ => False) (by decide) (Nat.le_of_ble_eq_true rfl) ?_
  intro p e s m below meth c ls A E hB hK hZ hP hD hS hA hl
  obtain ⟨hx, hb, hml, hr, hown, hts, hlocks, hin⟩ := id E
  have hl : lv_has ls 3 [(0, .int x), (1, .int n), (2, .null)] := hl
  refine lv_iload_n hx hb d_Prec_checkIndex_0 rfl (lv_at hl 0 rfl) ?_
  refine lv_if_lt (tgt := 9) hx hb d_Prec_checkIndex_1 (by decide) (fun h1 => ?_) (fun h1 => ?_)
  · exact absurd h1 hx0
  · refine lv_iload_n hx hb d_Prec_checkIndex_4 rfl (lv_at hl 0 rfl) ?_
    refine lv_iload_n hx hb d_Prec_checkIndex_5 rfl (lv_at hl 1 rfl) ?_
    refine lv_icmp_lt (tgt := 16) hx hb d_Prec_checkIndex_6 (by decide) (fun h6 => ?_) (fun h6 => ?_)
    · refine lv_iload_n hx hb d_Prec_checkIndex_16 rfl (lv_at hl 0 rfl) ?_
      exact tw_isret E rfl d_Prec_checkIndex_17
    · exact absurd hx1 h6
set_option maxHeartbeats 4000000 in
set_option maxRecDepth 100000 in
theorem s_Prec_checkIndex1 (l : Launch) (g : tw_G) (sz : Nat) (x n : Int32) (t9 : Nat) (hx0 : ¬ x < 0) (hx1 : x < n) : Met l y_Prec_checkIndex [.code y_Prec_checkIndex b_Prec_checkIndex 3 (some .int)] ({ frames := 0, cells := 0, slots := 0, locals := 0 }) (tw_P g [.int x, .int n, .ref t9] [] sz) (vp_Si (fun r => r = x)) 0 0 (fun _ => False) := by
  refine tw_met (l := l) (g := g) (y := y_Prec_checkIndex) (cc := b_Prec_checkIndex) (maxL := 3) (ret := (some .int)) (rm := { frames := 0, cells := 0, slots := 0, locals := 0 }) (mc := 0) (ms := 0) (av := [.int x, .int n, .ref t9]) (ws := []) (sz := sz) (Qc := fun _ => (vp_Si (fun r => r = x))) (free := fun _ _ => False) (by decide) (Nat.le_of_ble_eq_true rfl) ?_
  intro p e s m below meth c ls A E hB hK hZ hP hD hS hA hl
  obtain ⟨hx, hb, hml, hr, hown, hts, hlocks, hin⟩ := id E
  have hl : lv_has ls 3 [(0, .int x), (1, .int n), (2, .ref t9)] := hl
  refine lv_iload_n hx hb d_Prec_checkIndex_0 rfl (lv_at hl 0 rfl) ?_
  refine lv_if_lt (tgt := 9) hx hb d_Prec_checkIndex_1 (by decide) (fun h1 => ?_) (fun h1 => ?_)
  · exact absurd h1 hx0
  · refine lv_iload_n hx hb d_Prec_checkIndex_4 rfl (lv_at hl 0 rfl) ?_
    refine lv_iload_n hx hb d_Prec_checkIndex_5 rfl (lv_at hl 1 rfl) ?_
    refine lv_icmp_lt (tgt := 16) hx hb d_Prec_checkIndex_6 (by decide) (fun h6 => ?_) (fun h6 => ?_)
    · refine lv_iload_n hx hb d_Prec_checkIndex_16 rfl (lv_at hl 0 rfl) ?_
      exact tw_isret E rfl d_Prec_checkIndex_17
    · exact absurd hx1 h6
set_option maxHeartbeats 4000000 in
set_option maxRecDepth 100000 in
theorem s_Str_checkIndex (l : Launch) (g : tw_G) (sz : Nat) (x n : Int32) (hx0 : ¬ x < 0) (hx1 : x < n) : Met l y_Str_checkIndex [.code y_Str_checkIndex b_Str_checkIndex 2 none] ({ frames := 1, cells := 0, slots := 0, locals := 22 }) (tw_P g [.int x, .int n] [] sz) vp_Sv 0 0 (fun _ => False) := by
  refine tw_met (l := l) (g := g) (y := y_Str_checkIndex) (cc := b_Str_checkIndex) (maxL := 2) (ret := none) (rm := { frames := 1, cells := 0, slots := 0, locals := 22 }) (mc := 0) (ms := 0) (av := [.int x, .int n]) (ws := []) (sz := sz) (Qc := fun _ => vp_Sv) (free := fun _ _ => False) (by decide) (Nat.le_of_ble_eq_true rfl) ?_
  intro p e s m below meth c ls A E hB hK hZ hP hD hS hA hl
  obtain ⟨hx, hb, hml, hr, hown, hts, hlocks, hin⟩ := id E
  have hl : lv_has ls 2 [(0, .int x), (1, .int n)] := hl
  refine lv_iload_n hx hb d_Str_checkIndex_0 rfl (lv_at hl 0 rfl) ?_
  refine lv_iload_n hx hb d_Str_checkIndex_1 rfl (lv_at hl 1 rfl) ?_
  rcases hZ.2.2.2.2 with h9 | ⟨t9, h9⟩
  · refine va_gets (v := .null) hx hb h9 hS hown (hts _ wd_488) (fun _ h8 => h8) d_Str_checkIndex_2 ?_
    refine tw_si (tw_runS (ws := []) (wc := []) (As := [.int x, .int n, .null]) (rest := []) E hB hK hZ (s_Prec_checkIndex0 l g s.heap.size x n hx0 hx1) mc_Prec_checkIndex ms_Prec_checkIndex wd_490 hP hD hS hA [] rfl (by decide) rfl rfl (by decide) rfl hl.1 rfl (Nat.le_of_ble_eq_true rfl) (by decide) d_Str_checkIndex_5) (fun r1 hr1 => ?_)
    refine lv_pop hx hb d_Str_checkIndex_8 rfl ?_
    exact tw_svret E d_Str_checkIndex_9
  · refine va_gets (v := .ref t9) hx hb h9 hS hown (hts _ wd_488) (fun _ h8 => h8) d_Str_checkIndex_2 ?_
    refine tw_si (tw_runS (ws := []) (wc := []) (As := [.int x, .int n, .ref t9]) (rest := []) E hB hK hZ (s_Prec_checkIndex1 l g s.heap.size x n t9 hx0 hx1) mc_Prec_checkIndex ms_Prec_checkIndex wd_490 hP hD hS hA [] rfl (by decide) rfl rfl (by decide) rfl hl.1 rfl (Nat.le_of_ble_eq_true rfl) (by decide) d_Str_checkIndex_5) (fun r2 hr2 => ?_)
    refine lv_pop hx hb d_Str_checkIndex_8 rfl ?_
    exact tw_svret E d_Str_checkIndex_9
set_option maxHeartbeats 4000000 in
set_option maxRecDepth 100000 in
theorem s_Latin_charAt (l : Launch) (g : tw_G) (sz : Nat) (i : Nat) (x : Int32) (hi : i < 25) (hx0 : ¬ x < 0) (hx1 : x < nI (sl i)) : Met l y_Latin_charAt [.code y_Latin_charAt b_Latin_charAt 2 (some .char)] ({ frames := 2, cells := 0, slots := 0, locals := 43 }) (tw_P g [.ref (g.2.2.2 i), .int x] [] sz) (vp_Si (fun r => narrow .char (.int r) = .int r)) 0 0 (fun _ => False) := by
  refine tw_met (l := l) (g := g) (y := y_Latin_charAt) (cc := b_Latin_charAt) (maxL := 2) (ret := (some .char)) (rm := { frames := 2, cells := 0, slots := 0, locals := 43 }) (mc := 0) (ms := 0) (av := [.ref (g.2.2.2 i), .int x]) (ws := []) (sz := sz) (Qc := fun _ => (vp_Si (fun r => narrow .char (.int r) = .int r))) (free := fun _ _ => False) (by decide) (Nat.le_of_ble_eq_true rfl) ?_
  intro p e s m below meth c ls A E hB hK hZ hP hD hS hA hl
  obtain ⟨hx, hb, hml, hr, hown, hts, hlocks, hin⟩ := id E
  have hl : lv_has ls 2 [(0, .ref (g.2.2.2 i)), (1, .int x)] := hl
  have hT : va_T .byte (g.2.2.2 i) (sl i) (fun j => .int ((st_own i).2.2.2.getD j 0)) A s s.heap := ((hZ.2.2.1 i hi).1.1 0 (by decide)).2.2.2
  refine lv_iload_n hx hb d_Latin_charAt_0 rfl (lv_at hl 1 rfl) ?_
  refine lv_aload_n hx hb d_Latin_charAt_1 rfl (lv_at hl 0 rfl) ?_
  refine va_tlen (v := nI (sl i)) hx hb hT hS rfl d_Latin_charAt_2 ?_
  refine tw_sv (tw_runS (ws := []) (wc := []) (As := [.int x, .int (nI (sl i))]) (rest := []) E hB hK hZ (s_Str_checkIndex l g s.heap.size x (nI (sl i)) hx0 hx1) mc_Str_checkIndex ms_Str_checkIndex wd_485 hP hD hS hA [] rfl (by decide) rfl rfl (by decide) rfl hl.1 rfl (Nat.le_of_ble_eq_true rfl) (by decide) d_Latin_charAt_3) ?_
  refine lv_aload_n hx hb d_Latin_charAt_6 rfl (lv_at hl 0 rfl) ?_
  refine lv_iload_n hx hb d_Latin_charAt_7 rfl (lv_at hl 1 rfl) ?_
  refine va_tb (v := .int ((st_own i).2.2.2.getD x.toNatClampNeg 0)) hx hb hT hS (tn_in hx0 (Int32.not_le.mpr hx1) (Nat.le_refl _) (Nat.lt_of_le_of_lt (sl_le i hi) (by decide))) rfl d_Latin_charAt_8 ?_
  obtain ⟨x1, ex1⟩ : ∃ z : Int32, (st_own i).2.2.2.getD x.toNatClampNeg 0 = z := ⟨_, rfl⟩
  refine tw_ri (e2 := x1) ex1 ?_
  refine lv_sipush (v := 255) hx hb d_Latin_charAt_9 (by decide) ?_
  refine lv_iand hx hb d_Latin_charAt_12 ?_
  obtain ⟨x2, ex2⟩ : ∃ z : Int32, x1 &&& 255 = z := ⟨_, rfl⟩
  refine tw_ri (e2 := x2) ex2 ?_
  refine lv_i2c (v := (x2.toUInt32 % 65536).toInt32) hx hb d_Latin_charAt_13 rfl ?_
  exact tw_zsret E (tn_char _) (tn_char _) d_Latin_charAt_14
set_option maxHeartbeats 4000000 in
set_option maxRecDepth 100000 in
theorem s_Str_charAt (l : Launch) (g : tw_G) (sz : Nat) (i : Nat) (x : Int32) (hx0 : ¬ x < 0) (hx1 : x < nI (sl i)) (hi : i < 25) : Met l y_Str_charAt [.code y_Str_charAt b_Str_charAt 2 (some .char)] ({ frames := 3, cells := 0, slots := 0, locals := 64 }) (tw_P g [.ref (g.2.2.1 i), .int x] [] sz) (vp_Si (fun r => narrow .char (.int r) = .int r)) 0 0 (fun _ => False) := by
  refine tw_met (l := l) (g := g) (y := y_Str_charAt) (cc := b_Str_charAt) (maxL := 2) (ret := (some .char)) (rm := { frames := 3, cells := 0, slots := 0, locals := 64 }) (mc := 0) (ms := 0) (av := [.ref (g.2.2.1 i), .int x]) (ws := []) (sz := sz) (Qc := fun _ => (vp_Si (fun r => narrow .char (.int r) = .int r))) (free := fun _ _ => False) (by decide) (Nat.le_of_ble_eq_true rfl) ?_
  intro p e s m below meth c ls A E hB hK hZ hP hD hS hA hl
  obtain ⟨hx, hb, hml, hr, hown, hts, hlocks, hin⟩ := id E
  have hl : lv_has ls 2 [(0, .ref (g.2.2.1 i)), (1, .int x)] := hl
  have hO1 : va_OF "java/lang/String" "coder" "B" (.int 0) (g.2.2.1 i) A s s.heap := ((hZ.2.2.1 i hi).1.1 0 (by decide)).2.1
  have hO2 : va_OF "java/lang/String" "value" "[B" (.ref (g.2.2.2 i)) (g.2.2.1 i) A s s.heap := ((hZ.2.2.1 i hi).1.1 0 (by decide)).2.2.1
  have hT : va_T .byte (g.2.2.2 i) (sl i) (fun j => .int ((st_own i).2.2.2.getD j 0)) A s s.heap := ((hZ.2.2.1 i hi).1.1 0 (by decide)).2.2.2
  refine lv_aload_n hx hb d_Str_charAt_0 rfl (lv_at hl 0 rfl) ?_
  refine tw_si (tw_runK (ws := []) (As := []) (rest := []) E hB hK hZ (s_Str_isLatin1 l g s.heap.size i hi) mc_Str_isLatin1 mi_Str_isLatin1 me_Str_isLatin1 wd_478 hP hD hS hA (vk_recv (i := 0) (hZ.2.2.1 i hi).1 (by decide) hS) rfl rfl (by decide) rfl hl.1 rfl (Nat.le_of_ble_eq_true rfl) (by decide) d_Str_charAt_1) (fun r1 hr1 => ?_)
  obtain rfl : r1 = 1 := hr1
  refine lv_if_eq (tgt := 16) hx hb d_Str_charAt_4 (by decide) (fun h4 => ?_) (fun h4 => ?_)
  · first | exact absurd h4 (by decide) | exact absurd (by decide) h4
  · refine lv_aload_n hx hb d_Str_charAt_7 rfl (lv_at hl 0 rfl) ?_
    refine vk_getf (v := .ref (g.2.2.2 i)) hx hb hO2 hS hown (hts _ wd_1753) (fun _ h9 => h9) d_Str_charAt_8 ?_
    refine lv_iload_n hx hb d_Str_charAt_11 rfl (lv_at hl 1 rfl) ?_
    refine tw_si (tw_runS (ws := []) (wc := []) (As := [.ref (g.2.2.2 i), .int x]) (rest := []) E hB hK hZ (s_Latin_charAt l g s.heap.size i x hi hx0 hx1) mc_Latin_charAt ms_Latin_charAt wd_482 hP hD hS hA [] rfl (by decide) rfl rfl (by decide) rfl hl.1 rfl (Nat.le_of_ble_eq_true rfl) (by decide) d_Str_charAt_12) (fun r2 hr2 => ?_)
    exact tw_zsret E hr2 hr2 d_Str_charAt_15
set_option maxHeartbeats 4000000 in
set_option maxRecDepth 100000 in
theorem s_Layout_spells (l : Launch) (g : tw_G) (sz : Nat) (h0 : Nat) (w : Nat → Nat) (v : LY) (k : Int32) (i : Nat) (hI : LI v) (hi : i < 25) : Met l y_Layout_spells [.code y_Layout_spells b_Layout_spells 5 (some .boolean)] ({ frames := 4, cells := 0, slots := 0, locals := 85 }) (tw_P g [.ref h0, .int k, .ref (g.2.2.1 i)] [(h0, .inr (3, [.ref (w 0), .ref (w 2), .ref (w 7), .ref (w 8), .ref (w 9), .ref (w 10), .ref (w 11), .ref (w 12), .ref (w 13), .int v.nu, .int v.th, .int v.it, .int (nI v.fi), .int (nI v.me), .int v.mp])), ((w 0), .inr (2, [.ref (w 1), .int (nI v.n)])), ((w 1), aB g 600 v.b), ((w 2), .inr (1, [.ref (w 3), .ref (w 4), .ref (w 5), .ref (w 6), .int (nI v.lo)])), ((w 3), aJ g 4800 v.rw), ((w 4), aB g 600 v.bg), ((w 5), aB g 600 v.wt), ((w 6), aB g 600 v.dp), ((w 7), aI g 200 v.tg), ((w 8), aI g 200 v.ca), ((w 9), aI g 200 v.fs), ((w 10), aI g 200 v.sc), ((w 11), aI g 75 v.fa), ((w 12), aI g 75 v.ma), ((w 13), aI g 75 v.co)] sz) (vp_Si (fun r => r = 0 ∨ r = 1)) 0 0 (fun _ => False) := by
  refine tw_met (l := l) (g := g) (y := y_Layout_spells) (cc := b_Layout_spells) (maxL := 5) (ret := (some .boolean)) (rm := { frames := 4, cells := 0, slots := 0, locals := 85 }) (mc := 0) (ms := 0) (av := [.ref h0, .int k, .ref (g.2.2.1 i)]) (ws := [(h0, .inr (3, [.ref (w 0), .ref (w 2), .ref (w 7), .ref (w 8), .ref (w 9), .ref (w 10), .ref (w 11), .ref (w 12), .ref (w 13), .int v.nu, .int v.th, .int v.it, .int (nI v.fi), .int (nI v.me), .int v.mp])), ((w 0), .inr (2, [.ref (w 1), .int (nI v.n)])), ((w 1), aB g 600 v.b), ((w 2), .inr (1, [.ref (w 3), .ref (w 4), .ref (w 5), .ref (w 6), .int (nI v.lo)])), ((w 3), aJ g 4800 v.rw), ((w 4), aB g 600 v.bg), ((w 5), aB g 600 v.wt), ((w 6), aB g 600 v.dp), ((w 7), aI g 200 v.tg), ((w 8), aI g 200 v.ca), ((w 9), aI g 200 v.fs), ((w 10), aI g 200 v.sc), ((w 11), aI g 75 v.fa), ((w 12), aI g 75 v.ma), ((w 13), aI g 75 v.co)]) (sz := sz) (Qc := fun _ => (vp_Si (fun r => r = 0 ∨ r = 1))) (free := fun _ _ => False) (by decide) (Nat.le_of_ble_eq_true rfl) ?_
  intro p e s m below meth c ls A E hB hK hZ hP hD hS hA hl
  obtain ⟨hx, hb, hml, hr, hown, hts, hlocks, hin⟩ := id E
  have hl : lv_has ls 5 [(0, .ref h0), (1, .int k), (2, .ref (g.2.2.1 i))] := hl
  have hsl := sl_le i hi
  refine lv_aload_n hx hb d_Layout_spells_0 rfl (lv_at hl 0 rfl) ?_
  refine lv_iload_n hx hb d_Layout_spells_1 rfl (lv_at hl 1 rfl) ?_
  refine tw_si (tw_runV (ws := [(h0, .inr (3, [.ref (w 0), .ref (w 2), .ref (w 7), .ref (w 8), .ref (w 9), .ref (w 10), .ref (w 11), .ref (w 12), .ref (w 13), .int v.nu, .int v.th, .int v.it, .int (nI v.fi), .int (nI v.me), .int v.mp])), ((w 0), .inr (2, [.ref (w 1), .int (nI v.n)])), ((w 1), aB g 600 v.b), ((w 2), .inr (1, [.ref (w 3), .ref (w 4), .ref (w 5), .ref (w 6), .int (nI v.lo)])), ((w 3), aJ g 4800 v.rw), ((w 4), aB g 600 v.bg), ((w 5), aB g 600 v.wt), ((w 6), aB g 600 v.dp), ((w 7), aI g 200 v.tg), ((w 8), aI g 200 v.ca), ((w 9), aI g 200 v.fs), ((w 10), aI g 200 v.sc), ((w 11), aI g 75 v.fa), ((w 12), aI g 75 v.ma), ((w 13), aI g 75 v.co)]) (wc := [(h0, .inr (3, [.ref (w 0), .ref (w 2), .ref (w 7), .ref (w 8), .ref (w 9), .ref (w 10), .ref (w 11), .ref (w 12), .ref (w 13), .int v.nu, .int v.th, .int v.it, .int (nI v.fi), .int (nI v.me), .int v.mp])), ((w 0), .inr (2, [.ref (w 1), .int (nI v.n)])), ((w 1), aB g 600 v.b), ((w 2), .inr (1, [.ref (w 3), .ref (w 4), .ref (w 5), .ref (w 6), .int (nI v.lo)])), ((w 3), aJ g 4800 v.rw), ((w 4), aB g 600 v.bg), ((w 5), aB g 600 v.wt), ((w 6), aB g 600 v.dp), ((w 7), aI g 200 v.tg), ((w 8), aI g 200 v.ca), ((w 9), aI g 200 v.fs), ((w 10), aI g 200 v.sc), ((w 11), aI g 75 v.fa), ((w 12), aI g 75 v.ma), ((w 13), aI g 75 v.co)]) (As := [.int k]) (rest := []) E hB hK hZ (s_Layout_placeOf l g s.heap.size h0 w v k hI) mc_Layout_placeOf mi_Layout_placeOf me_Layout_placeOf wd_455 hP hD hS hA [0, 1, 2, 3, 4, 5, 6, 7, 8, 9, 10, 11, 12, 13, 14] rfl (by decide) 0 rfl rfl rfl rfl rfl (by decide) rfl hl.1 rfl (Nat.le_of_ble_eq_true rfl) (by decide) d_Layout_spells_2) (fun r1 hr1 => ?_)
  refine lv_iconst (v := 3) hx hb d_Layout_spells_5 (by decide) ?_
  refine lv_iadd hx hb d_Layout_spells_6 ?_
  obtain ⟨x2, ex2⟩ : ∃ z : Int32, r1 + 3 = z := ⟨_, rfl⟩
  refine tw_ri (e2 := x2) ex2 ?_
  refine lv_istore_n hx hb d_Layout_spells_7 rfl hl (by decide) rfl (fun ls hl => ?_)
  have hl : lv_has ls 5 [(3, .int x2), (0, .ref h0), (1, .int k), (2, .ref (g.2.2.1 i))] := hl
  refine lv_aload_n hx hb d_Layout_spells_8 rfl (lv_at hl 1 rfl) ?_
  refine lv_iload_n hx hb d_Layout_spells_9 rfl (lv_at hl 2 rfl) ?_
  refine tw_si (tw_runV (ws := [(h0, .inr (3, [.ref (w 0), .ref (w 2), .ref (w 7), .ref (w 8), .ref (w 9), .ref (w 10), .ref (w 11), .ref (w 12), .ref (w 13), .int v.nu, .int v.th, .int v.it, .int (nI v.fi), .int (nI v.me), .int v.mp])), ((w 0), .inr (2, [.ref (w 1), .int (nI v.n)])), ((w 1), aB g 600 v.b), ((w 2), .inr (1, [.ref (w 3), .ref (w 4), .ref (w 5), .ref (w 6), .int (nI v.lo)])), ((w 3), aJ g 4800 v.rw), ((w 4), aB g 600 v.bg), ((w 5), aB g 600 v.wt), ((w 6), aB g 600 v.dp), ((w 7), aI g 200 v.tg), ((w 8), aI g 200 v.ca), ((w 9), aI g 200 v.fs), ((w 10), aI g 200 v.sc), ((w 11), aI g 75 v.fa), ((w 12), aI g 75 v.ma), ((w 13), aI g 75 v.co)]) (wc := [(h0, .inr (3, [.ref (w 0), .ref (w 2), .ref (w 7), .ref (w 8), .ref (w 9), .ref (w 10), .ref (w 11), .ref (w 12), .ref (w 13), .int v.nu, .int v.th, .int v.it, .int (nI v.fi), .int (nI v.me), .int v.mp])), ((w 0), .inr (2, [.ref (w 1), .int (nI v.n)])), ((w 1), aB g 600 v.b), ((w 2), .inr (1, [.ref (w 3), .ref (w 4), .ref (w 5), .ref (w 6), .int (nI v.lo)])), ((w 3), aJ g 4800 v.rw), ((w 4), aB g 600 v.bg), ((w 5), aB g 600 v.wt), ((w 6), aB g 600 v.dp), ((w 7), aI g 200 v.tg), ((w 8), aI g 200 v.ca), ((w 9), aI g 200 v.fs), ((w 10), aI g 200 v.sc), ((w 11), aI g 75 v.fa), ((w 12), aI g 75 v.ma), ((w 13), aI g 75 v.co)]) (As := [.int k]) (rest := []) E hB hK hZ (s_Layout_firstOf l g s.heap.size h0 w v k hI) mc_Layout_firstOf mi_Layout_firstOf me_Layout_firstOf wd_459 hP hD hS hA [0, 1, 2, 3, 4, 5, 6, 7, 8, 9, 10, 11, 12, 13, 14] rfl (by decide) 0 rfl rfl rfl rfl rfl (by decide) rfl hl.1 rfl (Nat.le_of_ble_eq_true rfl) (by decide) d_Layout_spells_10) (fun r3 hr3 => ?_)
  refine lv_aload_n hx hb d_Layout_spells_13 rfl (lv_at hl 3 rfl) ?_
  refine tw_si (tw_runK (ws := [(h0, .inr (3, [.ref (w 0), .ref (w 2), .ref (w 7), .ref (w 8), .ref (w 9), .ref (w 10), .ref (w 11), .ref (w 12), .ref (w 13), .int v.nu, .int v.th, .int v.it, .int (nI v.fi), .int (nI v.me), .int v.mp])), ((w 0), .inr (2, [.ref (w 1), .int (nI v.n)])), ((w 1), aB g 600 v.b), ((w 2), .inr (1, [.ref (w 3), .ref (w 4), .ref (w 5), .ref (w 6), .int (nI v.lo)])), ((w 3), aJ g 4800 v.rw), ((w 4), aB g 600 v.bg), ((w 5), aB g 600 v.wt), ((w 6), aB g 600 v.dp), ((w 7), aI g 200 v.tg), ((w 8), aI g 200 v.ca), ((w 9), aI g 200 v.fs), ((w 10), aI g 200 v.sc), ((w 11), aI g 75 v.fa), ((w 12), aI g 75 v.ma), ((w 13), aI g 75 v.co)]) (As := []) (rest := [.int r3]) E hB hK hZ (s_Str_length l g s.heap.size i hi) mc_Str_length mi_Str_length me_Str_length wd_463 hP hD hS hA (vk_recv (i := 0) (hZ.2.2.1 i hi).1 (by decide) hS) rfl rfl (by decide) rfl hl.1 rfl (Nat.le_of_ble_eq_true rfl) (by decide) d_Layout_spells_14) (fun r4 hr4 => ?_)
  obtain rfl : r4 = nI (sl i) := hr4
  refine lv_icmp_eq (tgt := 22) hx hb d_Layout_spells_17 (by decide) (fun h17 => ?_) (fun h17 => ?_)
  · refine lv_iconst (v := 0) hx hb d_Layout_spells_22 (by decide) ?_
    refine lv_istore hx hb d_Layout_spells_23 hl (by decide) rfl (fun ls hl => ?_)
    have hl : lv_has ls 5 [(4, .int 0), (3, .int x2), (0, .ref h0), (1, .int k), (2, .ref (g.2.2.1 i))] := hl
    have loop25 : ∀ (kq : Nat) (j : Nat) (ls : Array Slot) , sl i - j = kq → (hj : j ≤ sl i) → lv_has ls 5 [(4, .int (nI j)), (3, .int x2), (0, .ref h0), (1, .int k), (2, .ref (g.2.2.1 i))] → W p l e ({ frames := 4, cells := 0, slots := 0, locals := 85 }) s m [.ref h0, .int k, .ref (g.2.2.1 i)].toArray below meth c s.heap [] 0 0 (MQ below (vp_Si (fun r => r = 0 ∨ r = 1)) [.ref h0, .int k, .ref (g.2.2.1 i)].toArray s 0 0 (fun _ => False)) (F0 m 25 ls []) := by
      intro kq
      induction kq using Nat.strongRecOn with
      | _ kq ih =>
        intro j ls hk hj hl 
        refine lv_iload hx hb d_Layout_spells_25 (lv_at hl 0 rfl) ?_
        refine lv_aload_n hx hb d_Layout_spells_27 rfl (lv_at hl 4 rfl) ?_
        refine tw_si (tw_runK (ws := [(h0, .inr (3, [.ref (w 0), .ref (w 2), .ref (w 7), .ref (w 8), .ref (w 9), .ref (w 10), .ref (w 11), .ref (w 12), .ref (w 13), .int v.nu, .int v.th, .int v.it, .int (nI v.fi), .int (nI v.me), .int v.mp])), ((w 0), .inr (2, [.ref (w 1), .int (nI v.n)])), ((w 1), aB g 600 v.b), ((w 2), .inr (1, [.ref (w 3), .ref (w 4), .ref (w 5), .ref (w 6), .int (nI v.lo)])), ((w 3), aJ g 4800 v.rw), ((w 4), aB g 600 v.bg), ((w 5), aB g 600 v.wt), ((w 6), aB g 600 v.dp), ((w 7), aI g 200 v.tg), ((w 8), aI g 200 v.ca), ((w 9), aI g 200 v.fs), ((w 10), aI g 200 v.sc), ((w 11), aI g 75 v.fa), ((w 12), aI g 75 v.ma), ((w 13), aI g 75 v.co)]) (As := []) (rest := [.int (nI j)]) E hB hK hZ (s_Str_length l g s.heap.size i hi) mc_Str_length mi_Str_length me_Str_length wd_463 hP hD hS hA (vk_recv (i := 0) (hZ.2.2.1 i hi).1 (by decide) hS) rfl rfl (by decide) rfl hl.1 rfl (Nat.le_of_ble_eq_true rfl) (by decide) d_Layout_spells_28) (fun r5 hr5 => ?_)
        obtain rfl : r5 = nI (sl i) := hr5
        refine lv_icmp_ge (tgt := 62) hx hb d_Layout_spells_31 (by decide) (fun h31 => ?_) (fun h31 => ?_)
        · refine lv_iconst (v := 1) hx hb d_Layout_spells_62 (by decide) ?_
          exact tw_zsret E (by decide) (by decide) d_Layout_spells_63
        · have h31 := tn_nle h31 (by omega) (by omega)
          refine lv_aload_n hx hb d_Layout_spells_34 rfl (lv_at hl 2 rfl) ?_
          refine va_get (D := g.1) (ci := 3) (v := .ref (w 0)) (C := R_Layout) (T := F_Layout) (N := 15) hx hb hts in_Layout hown hK hP 0 rfl rfl 0 (by decide) (hts _ wd_241) (fun _ h9 => h9) rfl d_Layout_spells_35 ?_
          refine lv_iload_n hx hb d_Layout_spells_38 rfl (lv_at hl 1 rfl) ?_
          refine lv_iload hx hb d_Layout_spells_39 (lv_at hl 0 rfl) ?_
          refine lv_iadd hx hb d_Layout_spells_41 ?_
          obtain ⟨x6, ex6⟩ : ∃ z : Int32, x2 + (nI j) = z := ⟨_, rfl⟩
          refine tw_ri (e2 := x6) ex6 ?_
          refine tw_si (tw_runV (ws := [(h0, .inr (3, [.ref (w 0), .ref (w 2), .ref (w 7), .ref (w 8), .ref (w 9), .ref (w 10), .ref (w 11), .ref (w 12), .ref (w 13), .int v.nu, .int v.th, .int v.it, .int (nI v.fi), .int (nI v.me), .int v.mp])), ((w 0), .inr (2, [.ref (w 1), .int (nI v.n)])), ((w 1), aB g 600 v.b), ((w 2), .inr (1, [.ref (w 3), .ref (w 4), .ref (w 5), .ref (w 6), .int (nI v.lo)])), ((w 3), aJ g 4800 v.rw), ((w 4), aB g 600 v.bg), ((w 5), aB g 600 v.wt), ((w 6), aB g 600 v.dp), ((w 7), aI g 200 v.tg), ((w 8), aI g 200 v.ca), ((w 9), aI g 200 v.fs), ((w 10), aI g 200 v.sc), ((w 11), aI g 75 v.fa), ((w 12), aI g 75 v.ma), ((w 13), aI g 75 v.co)]) (wc := [((w 0), .inr (2, [.ref (w 1), .int (nI v.n)])), ((w 1), aB g 600 v.b)]) (As := [.int x6]) (rest := []) E hB hK hZ (c_Image_oneAt l g s.heap.size (w 0) (w 1) v.n v.b x6 hI.n) mc_Image_oneAt mi_Image_oneAt me_Image_oneAt wd_473 hP hD hS hA [1, 2] rfl (by decide) 0 rfl rfl rfl rfl rfl (by decide) rfl hl.1 rfl (Nat.le_of_ble_eq_true rfl) (by decide) d_Layout_spells_42) (fun r7 hr7 => ?_)
          refine lv_aload_n hx hb d_Layout_spells_45 rfl (lv_at hl 4 rfl) ?_
          refine lv_iload hx hb d_Layout_spells_46 (lv_at hl 0 rfl) ?_
          refine tw_si (tw_runK (ws := [(h0, .inr (3, [.ref (w 0), .ref (w 2), .ref (w 7), .ref (w 8), .ref (w 9), .ref (w 10), .ref (w 11), .ref (w 12), .ref (w 13), .int v.nu, .int v.th, .int v.it, .int (nI v.fi), .int (nI v.me), .int v.mp])), ((w 0), .inr (2, [.ref (w 1), .int (nI v.n)])), ((w 1), aB g 600 v.b), ((w 2), .inr (1, [.ref (w 3), .ref (w 4), .ref (w 5), .ref (w 6), .int (nI v.lo)])), ((w 3), aJ g 4800 v.rw), ((w 4), aB g 600 v.bg), ((w 5), aB g 600 v.wt), ((w 6), aB g 600 v.dp), ((w 7), aI g 200 v.tg), ((w 8), aI g 200 v.ca), ((w 9), aI g 200 v.fs), ((w 10), aI g 200 v.sc), ((w 11), aI g 75 v.fa), ((w 12), aI g 75 v.ma), ((w 13), aI g 75 v.co)]) (As := [.int (nI j)]) (rest := [.int r7]) E hB hK hZ (s_Str_charAt l g s.heap.size i (nI j) (nI_pos (by omega)) ((nI_ltI (by omega) (by omega)).mpr (by omega)) hi) mc_Str_charAt mi_Str_charAt me_Str_charAt wd_474 hP hD hS hA (vk_recv (i := 0) (hZ.2.2.1 i hi).1 (by decide) hS) rfl rfl (by decide) rfl hl.1 rfl (Nat.le_of_ble_eq_true rfl) (by decide) d_Layout_spells_48) (fun r8 hr8 => ?_)
          refine lv_icmp_eq (tgt := 56) hx hb d_Layout_spells_51 (by decide) (fun h51 => ?_) (fun h51 => ?_)
          · refine lv_iinc (k := 0) (v := nI (j + 1)) hx hb d_Layout_spells_56 hl rfl ((nI_succ j).symm) (by decide) rfl (fun ls hl => ?_)
            have hl : lv_has ls 5 [(4, .int (nI (j + 1))), (3, .int x2), (0, .ref h0), (1, .int k), (2, .ref (g.2.2.1 i))] := hl
            refine lv_goto (tgt := 25) hx hb d_Layout_spells_59 (by decide) ?_
            exact ih _ (by omega) (j + 1) ls rfl (by omega) (lv_sub hl [0, 1, 2, 3, 4] rfl)
          · refine lv_iconst (v := 0) hx hb d_Layout_spells_54 (by decide) ?_
            exact tw_zsret E (by decide) (by decide) d_Layout_spells_55
    exact loop25 _ 0 ls rfl (Nat.zero_le _) (hl)
  · refine lv_iconst (v := 0) hx hb d_Layout_spells_20 (by decide) ?_
    exact tw_zsret E (by decide) (by decide) d_Layout_spells_21
end
section
theorem d_Linker_areClassesRight_0 : decode b_Linker_areClassesRight 0 = .ok (.aload_n 0, 1) := by decide +kernel
theorem d_Linker_areClassesRight_1 : decode b_Linker_areClassesRight 1 = .ok (.aload_n 0, 1) := by decide +kernel
theorem d_Linker_areClassesRight_2 : decode b_Linker_areClassesRight 2 = .ok (.getfield 9, 3) := by decide +kernel
theorem d_Linker_areClassesRight_5 : decode b_Linker_areClassesRight 5 = .ok (.getfield 109, 3) := by decide +kernel
theorem d_Linker_areClassesRight_8 : decode b_Linker_areClassesRight 8 = .ok (.invokevirtual 112, 3) := by decide +kernel
theorem d_Linker_areClassesRight_11 : decode b_Linker_areClassesRight 11 = .ok (.ifCond .eq 19, 3) := by decide +kernel
theorem d_Linker_areClassesRight_14 : decode b_Linker_areClassesRight 14 = .ok (.aload_n 0, 1) := by decide +kernel
theorem d_Linker_areClassesRight_15 : decode b_Linker_areClassesRight 15 = .ok (.aload_n 0, 1) := by decide +kernel
theorem d_Linker_areClassesRight_16 : decode b_Linker_areClassesRight 16 = .ok (.getfield 9, 3) := by decide +kernel
theorem d_Linker_areClassesRight_19 : decode b_Linker_areClassesRight 19 = .ok (.getfield 109, 3) := by decide +kernel
theorem d_Linker_areClassesRight_22 : decode b_Linker_areClassesRight 22 = .ok (.iconst 2, 1) := by decide +kernel
theorem d_Linker_areClassesRight_23 : decode b_Linker_areClassesRight 23 = .ok (.iadd, 1) := by decide +kernel
theorem d_Linker_areClassesRight_24 : decode b_Linker_areClassesRight 24 = .ok (.invokevirtual 112, 3) := by decide +kernel
theorem d_Linker_areClassesRight_27 : decode b_Linker_areClassesRight 27 = .ok (.ifCond .ne 5, 3) := by decide +kernel
theorem d_Linker_areClassesRight_30 : decode b_Linker_areClassesRight 30 = .ok (.iconst 0, 1) := by decide +kernel
theorem d_Linker_areClassesRight_31 : decode b_Linker_areClassesRight 31 = .ok (.ireturn, 1) := by decide +kernel
theorem d_Linker_areClassesRight_32 : decode b_Linker_areClassesRight 32 = .ok (.iconst 0, 1) := by decide +kernel
theorem d_Linker_areClassesRight_33 : decode b_Linker_areClassesRight 33 = .ok (.istore_n 1, 1) := by decide +kernel
theorem d_Linker_areClassesRight_34 : decode b_Linker_areClassesRight 34 = .ok (.iload_n 1, 1) := by decide +kernel
theorem d_Linker_areClassesRight_35 : decode b_Linker_areClassesRight 35 = .ok (.aload_n 0, 1) := by decide +kernel
theorem d_Linker_areClassesRight_36 : decode b_Linker_areClassesRight 36 = .ok (.getfield 9, 3) := by decide +kernel
theorem d_Linker_areClassesRight_39 : decode b_Linker_areClassesRight 39 = .ok (.getfield 115, 3) := by decide +kernel
theorem d_Linker_areClassesRight_42 : decode b_Linker_areClassesRight 42 = .ok (.if_icmp .ge 26, 3) := by decide +kernel
theorem d_Linker_areClassesRight_45 : decode b_Linker_areClassesRight 45 = .ok (.aload_n 0, 1) := by decide +kernel
theorem d_Linker_areClassesRight_46 : decode b_Linker_areClassesRight 46 = .ok (.aload_n 0, 1) := by decide +kernel
theorem d_Linker_areClassesRight_47 : decode b_Linker_areClassesRight 47 = .ok (.getfield 9, 3) := by decide +kernel
theorem d_Linker_areClassesRight_50 : decode b_Linker_areClassesRight 50 = .ok (.iload_n 1, 1) := by decide +kernel
theorem d_Linker_areClassesRight_51 : decode b_Linker_areClassesRight 51 = .ok (.invokevirtual 118, 3) := by decide +kernel
theorem d_Linker_areClassesRight_54 : decode b_Linker_areClassesRight 54 = .ok (.invokevirtual 112, 3) := by decide +kernel
theorem d_Linker_areClassesRight_57 : decode b_Linker_areClassesRight 57 = .ok (.ifCond .ne 5, 3) := by decide +kernel
theorem d_Linker_areClassesRight_60 : decode b_Linker_areClassesRight 60 = .ok (.iconst 0, 1) := by decide +kernel
theorem d_Linker_areClassesRight_61 : decode b_Linker_areClassesRight 61 = .ok (.ireturn, 1) := by decide +kernel
theorem d_Linker_areClassesRight_62 : decode b_Linker_areClassesRight 62 = .ok (.iinc 1 1, 3) := by decide +kernel
theorem d_Linker_areClassesRight_65 : decode b_Linker_areClassesRight 65 = .ok (.goto (-31), 3) := by decide +kernel
theorem d_Linker_areClassesRight_68 : decode b_Linker_areClassesRight 68 = .ok (.iconst 1, 1) := by decide +kernel
theorem d_Linker_areClassesRight_69 : decode b_Linker_areClassesRight 69 = .ok (.ireturn, 1) := by decide +kernel
theorem d_Linker_areMembersRight_0 : decode b_Linker_areMembersRight 0 = .ok (.iload_n 1, 1) := by decide +kernel
theorem d_Linker_areMembersRight_1 : decode b_Linker_areMembersRight 1 = .ok (.ifCond .eq 13, 3) := by decide +kernel
theorem d_Linker_areMembersRight_4 : decode b_Linker_areMembersRight 4 = .ok (.aload_n 0, 1) := by decide +kernel
theorem d_Linker_areMembersRight_5 : decode b_Linker_areMembersRight 5 = .ok (.getfield 9, 3) := by decide +kernel
theorem d_Linker_areMembersRight_8 : decode b_Linker_areMembersRight 8 = .ok (.getfield 124, 3) := by decide +kernel
theorem d_Linker_areMembersRight_11 : decode b_Linker_areMembersRight 11 = .ok (.goto 10, 3) := by decide +kernel
theorem d_Linker_areMembersRight_14 : decode b_Linker_areMembersRight 14 = .ok (.aload_n 0, 1) := by decide +kernel
theorem d_Linker_areMembersRight_15 : decode b_Linker_areMembersRight 15 = .ok (.getfield 9, 3) := by decide +kernel
theorem d_Linker_areMembersRight_18 : decode b_Linker_areMembersRight 18 = .ok (.getfield 127, 3) := by decide +kernel
theorem d_Linker_areMembersRight_21 : decode b_Linker_areMembersRight 21 = .ok (.istore_n 2, 1) := by decide +kernel
theorem d_Linker_areMembersRight_22 : decode b_Linker_areMembersRight 22 = .ok (.iconst 0, 1) := by decide +kernel
theorem d_Linker_areMembersRight_23 : decode b_Linker_areMembersRight 23 = .ok (.istore_n 3, 1) := by decide +kernel
theorem d_Linker_areMembersRight_24 : decode b_Linker_areMembersRight 24 = .ok (.iload_n 3, 1) := by decide +kernel
theorem d_Linker_areMembersRight_25 : decode b_Linker_areMembersRight 25 = .ok (.iload_n 2, 1) := by decide +kernel
theorem d_Linker_areMembersRight_26 : decode b_Linker_areMembersRight 26 = .ok (.if_icmp .ge 41, 3) := by decide +kernel
theorem d_Linker_areMembersRight_29 : decode b_Linker_areMembersRight 29 = .ok (.aload_n 0, 1) := by decide +kernel
theorem d_Linker_areMembersRight_30 : decode b_Linker_areMembersRight 30 = .ok (.iload_n 1, 1) := by decide +kernel
theorem d_Linker_areMembersRight_31 : decode b_Linker_areMembersRight 31 = .ok (.iload_n 3, 1) := by decide +kernel
theorem d_Linker_areMembersRight_32 : decode b_Linker_areMembersRight 32 = .ok (.invokevirtual 130, 3) := by decide +kernel
theorem d_Linker_areMembersRight_35 : decode b_Linker_areMembersRight 35 = .ok (.istore 4, 2) := by decide +kernel
theorem d_Linker_areMembersRight_37 : decode b_Linker_areMembersRight 37 = .ok (.iload 4, 2) := by decide +kernel
theorem d_Linker_areMembersRight_39 : decode b_Linker_areMembersRight 39 = .ok (.ifCond .eq 22, 3) := by decide +kernel
theorem d_Linker_areMembersRight_42 : decode b_Linker_areMembersRight 42 = .ok (.aload_n 0, 1) := by decide +kernel
theorem d_Linker_areMembersRight_43 : decode b_Linker_areMembersRight 43 = .ok (.getfield 22, 3) := by decide +kernel
theorem d_Linker_areMembersRight_46 : decode b_Linker_areMembersRight 46 = .ok (.iload 4, 2) := by decide +kernel
theorem d_Linker_areMembersRight_48 : decode b_Linker_areMembersRight 48 = .ok (.aload_n 0, 1) := by decide +kernel
theorem d_Linker_areMembersRight_49 : decode b_Linker_areMembersRight 49 = .ok (.getfield 9, 3) := by decide +kernel
theorem d_Linker_areMembersRight_52 : decode b_Linker_areMembersRight 52 = .ok (.iload_n 1, 1) := by decide +kernel
theorem d_Linker_areMembersRight_53 : decode b_Linker_areMembersRight 53 = .ok (.iload_n 3, 1) := by decide +kernel
theorem d_Linker_areMembersRight_54 : decode b_Linker_areMembersRight 54 = .ok (.invokevirtual 134, 3) := by decide +kernel
theorem d_Linker_areMembersRight_57 : decode b_Linker_areMembersRight 57 = .ok (.invokevirtual 37, 3) := by decide +kernel
theorem d_Linker_areMembersRight_60 : decode b_Linker_areMembersRight 60 = .ok (.ireturn, 1) := by decide +kernel
theorem d_Linker_areMembersRight_61 : decode b_Linker_areMembersRight 61 = .ok (.iinc 3 1, 3) := by decide +kernel
theorem d_Linker_areMembersRight_64 : decode b_Linker_areMembersRight 64 = .ok (.goto (-40), 3) := by decide +kernel
theorem d_Linker_areMembersRight_67 : decode b_Linker_areMembersRight 67 = .ok (.iconst 1, 1) := by decide +kernel
theorem d_Linker_areMembersRight_68 : decode b_Linker_areMembersRight 68 = .ok (.ireturn, 1) := by decide +kernel
theorem d_Linker_faultOfConstant_0 : decode b_Linker_faultOfConstant 0 = .ok (.aload_n 0, 1) := by decide +kernel
theorem d_Linker_faultOfConstant_1 : decode b_Linker_faultOfConstant 1 = .ok (.getfield 9, 3) := by decide +kernel
theorem d_Linker_faultOfConstant_4 : decode b_Linker_faultOfConstant 4 = .ok (.iload_n 1, 1) := by decide +kernel
theorem d_Linker_faultOfConstant_5 : decode b_Linker_faultOfConstant 5 = .ok (.invokevirtual 55, 3) := by decide +kernel
theorem d_Linker_faultOfConstant_8 : decode b_Linker_faultOfConstant 8 = .ok (.istore_n 2, 1) := by decide +kernel
theorem d_Linker_faultOfConstant_9 : decode b_Linker_faultOfConstant 9 = .ok (.aload_n 0, 1) := by decide +kernel
theorem d_Linker_faultOfConstant_10 : decode b_Linker_faultOfConstant 10 = .ok (.getfield 9, 3) := by decide +kernel
theorem d_Linker_faultOfConstant_13 : decode b_Linker_faultOfConstant 13 = .ok (.iload_n 1, 1) := by decide +kernel
theorem d_Linker_faultOfConstant_14 : decode b_Linker_faultOfConstant 14 = .ok (.invokevirtual 58, 3) := by decide +kernel
theorem d_Linker_faultOfConstant_17 : decode b_Linker_faultOfConstant 17 = .ok (.tableswitch 167 7 12 #[39, 86, 101, 101, 167, 153], 39) := by decide +kernel
theorem d_Linker_faultOfConstant_56 : decode b_Linker_faultOfConstant 56 = .ok (.aload_n 0, 1) := by decide +kernel
theorem d_Linker_faultOfConstant_57 : decode b_Linker_faultOfConstant 57 = .ok (.iload_n 2, 1) := by decide +kernel
theorem d_Linker_faultOfConstant_58 : decode b_Linker_faultOfConstant 58 = .ok (.invokevirtual 61, 3) := by decide +kernel
theorem d_Linker_faultOfConstant_61 : decode b_Linker_faultOfConstant 61 = .ok (.ifCond .ne 6, 3) := by decide +kernel
theorem d_Linker_faultOfConstant_64 : decode b_Linker_faultOfConstant 64 = .ok (.bipush 6, 2) := by decide +kernel
theorem d_Linker_faultOfConstant_66 : decode b_Linker_faultOfConstant 66 = .ok (.ireturn, 1) := by decide +kernel
theorem d_Linker_faultOfConstant_67 : decode b_Linker_faultOfConstant 67 = .ok (.aload_n 0, 1) := by decide +kernel
theorem d_Linker_faultOfConstant_68 : decode b_Linker_faultOfConstant 68 = .ok (.getfield 9, 3) := by decide +kernel
theorem d_Linker_faultOfConstant_71 : decode b_Linker_faultOfConstant 71 = .ok (.iload_n 2, 1) := by decide +kernel
theorem d_Linker_faultOfConstant_72 : decode b_Linker_faultOfConstant 72 = .ok (.invokevirtual 64, 3) := by decide +kernel
theorem d_Linker_faultOfConstant_75 : decode b_Linker_faultOfConstant 75 = .ok (.istore_n 3, 1) := by decide +kernel
theorem d_Linker_faultOfConstant_76 : decode b_Linker_faultOfConstant 76 = .ok (.aload_n 0, 1) := by decide +kernel
theorem d_Linker_faultOfConstant_77 : decode b_Linker_faultOfConstant 77 = .ok (.getfield 21, 3) := by decide +kernel
theorem d_Linker_faultOfConstant_80 : decode b_Linker_faultOfConstant 80 = .ok (.aload_n 0, 1) := by decide +kernel
theorem d_Linker_faultOfConstant_81 : decode b_Linker_faultOfConstant 81 = .ok (.getfield 9, 3) := by decide +kernel
theorem d_Linker_faultOfConstant_84 : decode b_Linker_faultOfConstant 84 = .ok (.iload_n 2, 1) := by decide +kernel
theorem d_Linker_faultOfConstant_85 : decode b_Linker_faultOfConstant 85 = .ok (.invokevirtual 67, 3) := by decide +kernel
theorem d_Linker_faultOfConstant_88 : decode b_Linker_faultOfConstant 88 = .ok (.iload_n 3, 1) := by decide +kernel
theorem d_Linker_faultOfConstant_89 : decode b_Linker_faultOfConstant 89 = .ok (.invokestatic 70, 3) := by decide +kernel
theorem d_Linker_faultOfConstant_92 : decode b_Linker_faultOfConstant 92 = .ok (.iload_n 3, 1) := by decide +kernel
theorem d_Linker_faultOfConstant_93 : decode b_Linker_faultOfConstant 93 = .ok (.if_icmp .ne 7, 3) := by decide +kernel
theorem d_Linker_faultOfConstant_96 : decode b_Linker_faultOfConstant 96 = .ok (.iconst 0, 1) := by decide +kernel
theorem d_Linker_faultOfConstant_97 : decode b_Linker_faultOfConstant 97 = .ok (.goto 5, 3) := by decide +kernel
theorem d_Linker_faultOfConstant_100 : decode b_Linker_faultOfConstant 100 = .ok (.bipush 10, 2) := by decide +kernel
theorem d_Linker_faultOfConstant_102 : decode b_Linker_faultOfConstant 102 = .ok (.ireturn, 1) := by decide +kernel
theorem d_Linker_faultOfConstant_103 : decode b_Linker_faultOfConstant 103 = .ok (.aload_n 0, 1) := by decide +kernel
theorem d_Linker_faultOfConstant_104 : decode b_Linker_faultOfConstant 104 = .ok (.iload_n 2, 1) := by decide +kernel
theorem d_Linker_faultOfConstant_105 : decode b_Linker_faultOfConstant 105 = .ok (.invokevirtual 61, 3) := by decide +kernel
theorem d_Linker_faultOfConstant_108 : decode b_Linker_faultOfConstant 108 = .ok (.ifCond .eq 7, 3) := by decide +kernel
theorem d_Linker_faultOfConstant_111 : decode b_Linker_faultOfConstant 111 = .ok (.iconst 0, 1) := by decide +kernel
theorem d_Linker_faultOfConstant_112 : decode b_Linker_faultOfConstant 112 = .ok (.goto 5, 3) := by decide +kernel
theorem d_Linker_faultOfConstant_115 : decode b_Linker_faultOfConstant 115 = .ok (.bipush 6, 2) := by decide +kernel
theorem d_Linker_faultOfConstant_117 : decode b_Linker_faultOfConstant 117 = .ok (.ireturn, 1) := by decide +kernel
theorem d_Linker_faultOfConstant_118 : decode b_Linker_faultOfConstant 118 = .ok (.aload_n 0, 1) := by decide +kernel
theorem d_Linker_faultOfConstant_119 : decode b_Linker_faultOfConstant 119 = .ok (.getfield 9, 3) := by decide +kernel
theorem d_Linker_faultOfConstant_122 : decode b_Linker_faultOfConstant 122 = .ok (.iload_n 2, 1) := by decide +kernel
theorem d_Linker_faultOfConstant_123 : decode b_Linker_faultOfConstant 123 = .ok (.invokevirtual 58, 3) := by decide +kernel
theorem d_Linker_faultOfConstant_126 : decode b_Linker_faultOfConstant 126 = .ok (.bipush 7, 2) := by decide +kernel
theorem d_Linker_faultOfConstant_128 : decode b_Linker_faultOfConstant 128 = .ok (.if_icmp .ne 27, 3) := by decide +kernel
theorem d_Linker_faultOfConstant_131 : decode b_Linker_faultOfConstant 131 = .ok (.aload_n 0, 1) := by decide +kernel
theorem d_Linker_faultOfConstant_132 : decode b_Linker_faultOfConstant 132 = .ok (.getfield 9, 3) := by decide +kernel
theorem d_Linker_faultOfConstant_135 : decode b_Linker_faultOfConstant 135 = .ok (.aload_n 0, 1) := by decide +kernel
theorem d_Linker_faultOfConstant_136 : decode b_Linker_faultOfConstant 136 = .ok (.getfield 9, 3) := by decide +kernel
theorem d_Linker_faultOfConstant_139 : decode b_Linker_faultOfConstant 139 = .ok (.iload_n 1, 1) := by decide +kernel
theorem d_Linker_faultOfConstant_140 : decode b_Linker_faultOfConstant 140 = .ok (.invokevirtual 76, 3) := by decide +kernel
theorem d_Linker_faultOfConstant_143 : decode b_Linker_faultOfConstant 143 = .ok (.invokevirtual 58, 3) := by decide +kernel
theorem d_Linker_faultOfConstant_146 : decode b_Linker_faultOfConstant 146 = .ok (.bipush 12, 2) := by decide +kernel
theorem d_Linker_faultOfConstant_148 : decode b_Linker_faultOfConstant 148 = .ok (.if_icmp .ne 7, 3) := by decide +kernel
theorem d_Linker_faultOfConstant_151 : decode b_Linker_faultOfConstant 151 = .ok (.iconst 1, 1) := by decide +kernel
theorem d_Linker_faultOfConstant_152 : decode b_Linker_faultOfConstant 152 = .ok (.goto 4, 3) := by decide +kernel
theorem d_Linker_faultOfConstant_155 : decode b_Linker_faultOfConstant 155 = .ok (.iconst 0, 1) := by decide +kernel
theorem d_Linker_faultOfConstant_156 : decode b_Linker_faultOfConstant 156 = .ok (.istore 4, 2) := by decide +kernel
theorem d_Linker_faultOfConstant_158 : decode b_Linker_faultOfConstant 158 = .ok (.iload 4, 2) := by decide +kernel
theorem d_Linker_faultOfConstant_160 : decode b_Linker_faultOfConstant 160 = .ok (.ifCond .eq 7, 3) := by decide +kernel
theorem d_Linker_faultOfConstant_163 : decode b_Linker_faultOfConstant 163 = .ok (.iconst 0, 1) := by decide +kernel
theorem d_Linker_faultOfConstant_164 : decode b_Linker_faultOfConstant 164 = .ok (.goto 5, 3) := by decide +kernel
theorem d_Linker_faultOfConstant_167 : decode b_Linker_faultOfConstant 167 = .ok (.bipush 6, 2) := by decide +kernel
theorem d_Linker_faultOfConstant_169 : decode b_Linker_faultOfConstant 169 = .ok (.ireturn, 1) := by decide +kernel
theorem d_Linker_faultOfConstant_170 : decode b_Linker_faultOfConstant 170 = .ok (.aload_n 0, 1) := by decide +kernel
theorem d_Linker_faultOfConstant_171 : decode b_Linker_faultOfConstant 171 = .ok (.iload_n 2, 1) := by decide +kernel
theorem d_Linker_faultOfConstant_172 : decode b_Linker_faultOfConstant 172 = .ok (.aload_n 0, 1) := by decide +kernel
theorem d_Linker_faultOfConstant_173 : decode b_Linker_faultOfConstant 173 = .ok (.getfield 9, 3) := by decide +kernel
theorem d_Linker_faultOfConstant_176 : decode b_Linker_faultOfConstant 176 = .ok (.iload_n 1, 1) := by decide +kernel
theorem d_Linker_faultOfConstant_177 : decode b_Linker_faultOfConstant 177 = .ok (.invokevirtual 76, 3) := by decide +kernel
theorem d_Linker_faultOfConstant_180 : decode b_Linker_faultOfConstant 180 = .ok (.invokevirtual 79, 3) := by decide +kernel
theorem d_Linker_faultOfConstant_183 : decode b_Linker_faultOfConstant 183 = .ok (.ireturn, 1) := by decide +kernel
theorem d_Linker_faultOfConstant_184 : decode b_Linker_faultOfConstant 184 = .ok (.iconst 0, 1) := by decide +kernel
theorem d_Linker_faultOfConstant_185 : decode b_Linker_faultOfConstant 185 = .ok (.ireturn, 1) := by decide +kernel
theorem d_Linker_faultOfMember_0 : decode b_Linker_faultOfMember 0 = .ok (.aload_n 0, 1) := by decide +kernel
theorem d_Linker_faultOfMember_1 : decode b_Linker_faultOfMember 1 = .ok (.getfield 9, 3) := by decide +kernel
theorem d_Linker_faultOfMember_4 : decode b_Linker_faultOfMember 4 = .ok (.iload_n 1, 1) := by decide +kernel
theorem d_Linker_faultOfMember_5 : decode b_Linker_faultOfMember 5 = .ok (.iload_n 2, 1) := by decide +kernel
theorem d_Linker_faultOfMember_6 : decode b_Linker_faultOfMember 6 = .ok (.invokevirtual 134, 3) := by decide +kernel
theorem d_Linker_faultOfMember_9 : decode b_Linker_faultOfMember 9 = .ok (.istore_n 3, 1) := by decide +kernel
theorem d_Linker_faultOfMember_10 : decode b_Linker_faultOfMember 10 = .ok (.aload_n 0, 1) := by decide +kernel
theorem d_Linker_faultOfMember_11 : decode b_Linker_faultOfMember 11 = .ok (.getfield 9, 3) := by decide +kernel
theorem d_Linker_faultOfMember_14 : decode b_Linker_faultOfMember 14 = .ok (.iload_n 3, 1) := by decide +kernel
theorem d_Linker_faultOfMember_15 : decode b_Linker_faultOfMember 15 = .ok (.invokevirtual 137, 3) := by decide +kernel
theorem d_Linker_faultOfMember_18 : decode b_Linker_faultOfMember 18 = .ok (.istore 4, 2) := by decide +kernel
theorem d_Linker_faultOfMember_20 : decode b_Linker_faultOfMember 20 = .ok (.aload_n 0, 1) := by decide +kernel
theorem d_Linker_faultOfMember_21 : decode b_Linker_faultOfMember 21 = .ok (.getfield 9, 3) := by decide +kernel
theorem d_Linker_faultOfMember_24 : decode b_Linker_faultOfMember 24 = .ok (.iload_n 3, 1) := by decide +kernel
theorem d_Linker_faultOfMember_25 : decode b_Linker_faultOfMember 25 = .ok (.invokevirtual 140, 3) := by decide +kernel
theorem d_Linker_faultOfMember_28 : decode b_Linker_faultOfMember 28 = .ok (.istore 5, 2) := by decide +kernel
theorem d_Linker_faultOfMember_30 : decode b_Linker_faultOfMember 30 = .ok (.aload_n 0, 1) := by decide +kernel
theorem d_Linker_faultOfMember_31 : decode b_Linker_faultOfMember 31 = .ok (.iload 4, 2) := by decide +kernel
theorem d_Linker_faultOfMember_33 : decode b_Linker_faultOfMember 33 = .ok (.invokevirtual 61, 3) := by decide +kernel
theorem d_Linker_faultOfMember_36 : decode b_Linker_faultOfMember 36 = .ok (.ifCond .eq 12, 3) := by decide +kernel
theorem d_Linker_faultOfMember_39 : decode b_Linker_faultOfMember 39 = .ok (.aload_n 0, 1) := by decide +kernel
theorem d_Linker_faultOfMember_40 : decode b_Linker_faultOfMember 40 = .ok (.iload 5, 2) := by decide +kernel
theorem d_Linker_faultOfMember_42 : decode b_Linker_faultOfMember 42 = .ok (.invokevirtual 61, 3) := by decide +kernel
theorem d_Linker_faultOfMember_45 : decode b_Linker_faultOfMember 45 = .ok (.ifCond .ne 6, 3) := by decide +kernel
theorem d_Linker_faultOfMember_48 : decode b_Linker_faultOfMember 48 = .ok (.bipush 6, 2) := by decide +kernel
theorem d_Linker_faultOfMember_50 : decode b_Linker_faultOfMember 50 = .ok (.ireturn, 1) := by decide +kernel
theorem d_Linker_faultOfMember_51 : decode b_Linker_faultOfMember 51 = .ok (.iload_n 1, 1) := by decide +kernel
theorem d_Linker_faultOfMember_52 : decode b_Linker_faultOfMember 52 = .ok (.ifCond .eq 35, 3) := by decide +kernel
theorem d_Linker_faultOfMember_55 : decode b_Linker_faultOfMember 55 = .ok (.aload_n 0, 1) := by decide +kernel
theorem d_Linker_faultOfMember_56 : decode b_Linker_faultOfMember 56 = .ok (.getfield 9, 3) := by decide +kernel
theorem d_Linker_faultOfMember_59 : decode b_Linker_faultOfMember 59 = .ok (.iload 4, 2) := by decide +kernel
theorem d_Linker_faultOfMember_61 : decode b_Linker_faultOfMember 61 = .ok (.ldc 86, 2) := by decide +kernel
theorem d_Linker_faultOfMember_63 : decode b_Linker_faultOfMember 63 = .ok (.invokevirtual 87, 3) := by decide +kernel
theorem d_Linker_faultOfMember_66 : decode b_Linker_faultOfMember 66 = .ok (.ifCond .ne 17, 3) := by decide +kernel
theorem d_Linker_faultOfMember_69 : decode b_Linker_faultOfMember 69 = .ok (.aload_n 0, 1) := by decide +kernel
theorem d_Linker_faultOfMember_70 : decode b_Linker_faultOfMember 70 = .ok (.getfield 9, 3) := by decide +kernel
theorem d_Linker_faultOfMember_73 : decode b_Linker_faultOfMember 73 = .ok (.iload 4, 2) := by decide +kernel
theorem d_Linker_faultOfMember_75 : decode b_Linker_faultOfMember 75 = .ok (.ldc 143, 2) := by decide +kernel
theorem d_Linker_faultOfMember_77 : decode b_Linker_faultOfMember 77 = .ok (.invokevirtual 87, 3) := by decide +kernel
theorem d_Linker_faultOfMember_80 : decode b_Linker_faultOfMember 80 = .ok (.ifCond .eq 7, 3) := by decide +kernel
theorem d_Linker_faultOfMember_83 : decode b_Linker_faultOfMember 83 = .ok (.iconst 1, 1) := by decide +kernel
theorem d_Linker_faultOfMember_84 : decode b_Linker_faultOfMember 84 = .ok (.goto 4, 3) := by decide +kernel
theorem d_Linker_faultOfMember_87 : decode b_Linker_faultOfMember 87 = .ok (.iconst 0, 1) := by decide +kernel
theorem d_Linker_faultOfMember_88 : decode b_Linker_faultOfMember 88 = .ok (.istore 6, 2) := by decide +kernel
theorem d_Linker_faultOfMember_90 : decode b_Linker_faultOfMember 90 = .ok (.iload 6, 2) := by decide +kernel
theorem d_Linker_faultOfMember_92 : decode b_Linker_faultOfMember 92 = .ok (.ifCond .ne 15, 3) := by decide +kernel
theorem d_Linker_faultOfMember_95 : decode b_Linker_faultOfMember 95 = .ok (.aload_n 0, 1) := by decide +kernel
theorem d_Linker_faultOfMember_96 : decode b_Linker_faultOfMember 96 = .ok (.iload 4, 2) := by decide +kernel
theorem d_Linker_faultOfMember_98 : decode b_Linker_faultOfMember 98 = .ok (.invokevirtual 83, 3) := by decide +kernel
theorem d_Linker_faultOfMember_101 : decode b_Linker_faultOfMember 101 = .ok (.ifCond .ne 6, 3) := by decide +kernel
theorem d_Linker_faultOfMember_104 : decode b_Linker_faultOfMember 104 = .ok (.bipush 10, 2) := by decide +kernel
theorem d_Linker_faultOfMember_106 : decode b_Linker_faultOfMember 106 = .ok (.ireturn, 1) := by decide +kernel
theorem d_Linker_faultOfMember_107 : decode b_Linker_faultOfMember 107 = .ok (.iload_n 1, 1) := by decide +kernel
theorem d_Linker_faultOfMember_108 : decode b_Linker_faultOfMember 108 = .ok (.ifCond .eq 34, 3) := by decide +kernel
theorem d_Linker_faultOfMember_111 : decode b_Linker_faultOfMember 111 = .ok (.aload_n 0, 1) := by decide +kernel
theorem d_Linker_faultOfMember_112 : decode b_Linker_faultOfMember 112 = .ok (.getfield 9, 3) := by decide +kernel
theorem d_Linker_faultOfMember_115 : decode b_Linker_faultOfMember 115 = .ok (.iload 5, 2) := by decide +kernel
theorem d_Linker_faultOfMember_117 : decode b_Linker_faultOfMember 117 = .ok (.invokestatic 95, 3) := by decide +kernel
theorem d_Linker_faultOfMember_120 : decode b_Linker_faultOfMember 120 = .ok (.ifCond .eq 18, 3) := by decide +kernel
theorem d_Linker_faultOfMember_123 : decode b_Linker_faultOfMember 123 = .ok (.aload_n 0, 1) := by decide +kernel
theorem d_Linker_faultOfMember_124 : decode b_Linker_faultOfMember 124 = .ok (.iload 4, 2) := by decide +kernel
theorem d_Linker_faultOfMember_126 : decode b_Linker_faultOfMember 126 = .ok (.iload 5, 2) := by decide +kernel
theorem d_Linker_faultOfMember_128 : decode b_Linker_faultOfMember 128 = .ok (.invokevirtual 101, 3) := by decide +kernel
theorem d_Linker_faultOfMember_131 : decode b_Linker_faultOfMember 131 = .ok (.ifCond .eq 7, 3) := by decide +kernel
theorem d_Linker_faultOfMember_134 : decode b_Linker_faultOfMember 134 = .ok (.iconst 1, 1) := by decide +kernel
theorem d_Linker_faultOfMember_135 : decode b_Linker_faultOfMember 135 = .ok (.goto 16, 3) := by decide +kernel
theorem d_Linker_faultOfMember_138 : decode b_Linker_faultOfMember 138 = .ok (.iconst 0, 1) := by decide +kernel
theorem d_Linker_faultOfMember_139 : decode b_Linker_faultOfMember 139 = .ok (.goto 12, 3) := by decide +kernel
theorem d_Linker_faultOfMember_142 : decode b_Linker_faultOfMember 142 = .ok (.aload_n 0, 1) := by decide +kernel
theorem d_Linker_faultOfMember_143 : decode b_Linker_faultOfMember 143 = .ok (.getfield 9, 3) := by decide +kernel
theorem d_Linker_faultOfMember_146 : decode b_Linker_faultOfMember 146 = .ok (.iload 5, 2) := by decide +kernel
theorem d_Linker_faultOfMember_148 : decode b_Linker_faultOfMember 148 = .ok (.invokestatic 91, 3) := by decide +kernel
theorem d_Linker_faultOfMember_151 : decode b_Linker_faultOfMember 151 = .ok (.istore 7, 2) := by decide +kernel
theorem d_Linker_faultOfMember_153 : decode b_Linker_faultOfMember 153 = .ok (.iload 7, 2) := by decide +kernel
theorem d_Linker_faultOfMember_155 : decode b_Linker_faultOfMember 155 = .ok (.ifCond .ne 6, 3) := by decide +kernel
theorem d_Linker_faultOfMember_158 : decode b_Linker_faultOfMember 158 = .ok (.bipush 11, 2) := by decide +kernel
theorem d_Linker_faultOfMember_160 : decode b_Linker_faultOfMember 160 = .ok (.ireturn, 1) := by decide +kernel
theorem d_Linker_faultOfMember_161 : decode b_Linker_faultOfMember 161 = .ok (.aload_n 0, 1) := by decide +kernel
theorem d_Linker_faultOfMember_162 : decode b_Linker_faultOfMember 162 = .ok (.iload_n 1, 1) := by decide +kernel
theorem d_Linker_faultOfMember_163 : decode b_Linker_faultOfMember 163 = .ok (.iload_n 2, 1) := by decide +kernel
theorem d_Linker_faultOfMember_164 : decode b_Linker_faultOfMember 164 = .ok (.invokevirtual 145, 3) := by decide +kernel
theorem d_Linker_faultOfMember_167 : decode b_Linker_faultOfMember 167 = .ok (.ifCond .eq 6, 3) := by decide +kernel
theorem d_Linker_faultOfMember_170 : decode b_Linker_faultOfMember 170 = .ok (.bipush 7, 2) := by decide +kernel
theorem d_Linker_faultOfMember_172 : decode b_Linker_faultOfMember 172 = .ok (.ireturn, 1) := by decide +kernel
theorem d_Linker_faultOfMember_173 : decode b_Linker_faultOfMember 173 = .ok (.iload_n 1, 1) := by decide +kernel
theorem d_Linker_faultOfMember_174 : decode b_Linker_faultOfMember 174 = .ok (.ifCond .ne 5, 3) := by decide +kernel
theorem d_Linker_faultOfMember_177 : decode b_Linker_faultOfMember 177 = .ok (.iconst 0, 1) := by decide +kernel
theorem d_Linker_faultOfMember_178 : decode b_Linker_faultOfMember 178 = .ok (.ireturn, 1) := by decide +kernel
theorem d_Linker_faultOfMember_179 : decode b_Linker_faultOfMember 179 = .ok (.aload_n 0, 1) := by decide +kernel
theorem d_Linker_faultOfMember_180 : decode b_Linker_faultOfMember 180 = .ok (.getfield 21, 3) := by decide +kernel
theorem d_Linker_faultOfMember_183 : decode b_Linker_faultOfMember 183 = .ok (.iload_n 3, 1) := by decide +kernel
theorem d_Linker_faultOfMember_184 : decode b_Linker_faultOfMember 184 = .ok (.invokevirtual 121, 3) := by decide +kernel
theorem d_Linker_faultOfMember_187 : decode b_Linker_faultOfMember 187 = .ok (.sipush 1280, 3) := by decide +kernel
theorem d_Linker_faultOfMember_190 : decode b_Linker_faultOfMember 190 = .ok (.iand, 1) := by decide +kernel
theorem d_Linker_faultOfMember_191 : decode b_Linker_faultOfMember 191 = .ok (.ifCond .eq 7, 3) := by decide +kernel
theorem d_Linker_faultOfMember_194 : decode b_Linker_faultOfMember 194 = .ok (.iconst 1, 1) := by decide +kernel
theorem d_Linker_faultOfMember_195 : decode b_Linker_faultOfMember 195 = .ok (.goto 4, 3) := by decide +kernel
theorem d_Linker_faultOfMember_198 : decode b_Linker_faultOfMember 198 = .ok (.iconst 0, 1) := by decide +kernel
theorem d_Linker_faultOfMember_199 : decode b_Linker_faultOfMember 199 = .ok (.istore 8, 2) := by decide +kernel
theorem d_Linker_faultOfMember_201 : decode b_Linker_faultOfMember 201 = .ok (.iload 8, 2) := by decide +kernel
theorem d_Linker_faultOfMember_203 : decode b_Linker_faultOfMember 203 = .ok (.aload_n 0, 1) := by decide +kernel
theorem d_Linker_faultOfMember_204 : decode b_Linker_faultOfMember 204 = .ok (.getfield 9, 3) := by decide +kernel
theorem d_Linker_faultOfMember_207 : decode b_Linker_faultOfMember 207 = .ok (.iload_n 2, 1) := by decide +kernel
theorem d_Linker_faultOfMember_208 : decode b_Linker_faultOfMember 208 = .ok (.invokevirtual 149, 3) := by decide +kernel
theorem d_Linker_faultOfMember_211 : decode b_Linker_faultOfMember 211 = .ok (.ifCond .ne 7, 3) := by decide +kernel
theorem d_Linker_faultOfMember_214 : decode b_Linker_faultOfMember 214 = .ok (.iconst 1, 1) := by decide +kernel
theorem d_Linker_faultOfMember_215 : decode b_Linker_faultOfMember 215 = .ok (.goto 4, 3) := by decide +kernel
theorem d_Linker_faultOfMember_218 : decode b_Linker_faultOfMember 218 = .ok (.iconst 0, 1) := by decide +kernel
theorem d_Linker_faultOfMember_219 : decode b_Linker_faultOfMember 219 = .ok (.if_icmp .ne 7, 3) := by decide +kernel
theorem d_Linker_faultOfMember_222 : decode b_Linker_faultOfMember 222 = .ok (.iconst 0, 1) := by decide +kernel
theorem d_Linker_faultOfMember_223 : decode b_Linker_faultOfMember 223 = .ok (.goto 5, 3) := by decide +kernel
theorem d_Linker_faultOfMember_226 : decode b_Linker_faultOfMember 226 = .ok (.bipush 12, 2) := by decide +kernel
theorem d_Linker_faultOfMember_228 : decode b_Linker_faultOfMember 228 = .ok (.ireturn, 1) := by decide +kernel
theorem d_Linker_faultOfPair_0 : decode b_Linker_faultOfPair 0 = .ok (.aload_n 0, 1) := by decide +kernel
theorem d_Linker_faultOfPair_1 : decode b_Linker_faultOfPair 1 = .ok (.iload_n 1, 1) := by decide +kernel
theorem d_Linker_faultOfPair_2 : decode b_Linker_faultOfPair 2 = .ok (.invokevirtual 61, 3) := by decide +kernel
theorem d_Linker_faultOfPair_5 : decode b_Linker_faultOfPair 5 = .ok (.ifCond .eq 11, 3) := by decide +kernel
theorem d_Linker_faultOfPair_8 : decode b_Linker_faultOfPair 8 = .ok (.aload_n 0, 1) := by decide +kernel
theorem d_Linker_faultOfPair_9 : decode b_Linker_faultOfPair 9 = .ok (.iload_n 2, 1) := by decide +kernel
theorem d_Linker_faultOfPair_10 : decode b_Linker_faultOfPair 10 = .ok (.invokevirtual 61, 3) := by decide +kernel
theorem d_Linker_faultOfPair_13 : decode b_Linker_faultOfPair 13 = .ok (.ifCond .ne 6, 3) := by decide +kernel
theorem d_Linker_faultOfPair_16 : decode b_Linker_faultOfPair 16 = .ok (.bipush 6, 2) := by decide +kernel
theorem d_Linker_faultOfPair_18 : decode b_Linker_faultOfPair 18 = .ok (.ireturn, 1) := by decide +kernel
theorem d_Linker_faultOfPair_19 : decode b_Linker_faultOfPair 19 = .ok (.aload_n 0, 1) := by decide +kernel
theorem d_Linker_faultOfPair_20 : decode b_Linker_faultOfPair 20 = .ok (.iload_n 1, 1) := by decide +kernel
theorem d_Linker_faultOfPair_21 : decode b_Linker_faultOfPair 21 = .ok (.invokevirtual 83, 3) := by decide +kernel
theorem d_Linker_faultOfPair_24 : decode b_Linker_faultOfPair 24 = .ok (.ifCond .ne 19, 3) := by decide +kernel
theorem d_Linker_faultOfPair_27 : decode b_Linker_faultOfPair 27 = .ok (.aload_n 0, 1) := by decide +kernel
theorem d_Linker_faultOfPair_28 : decode b_Linker_faultOfPair 28 = .ok (.getfield 9, 3) := by decide +kernel
theorem d_Linker_faultOfPair_31 : decode b_Linker_faultOfPair 31 = .ok (.iload_n 1, 1) := by decide +kernel
theorem d_Linker_faultOfPair_32 : decode b_Linker_faultOfPair 32 = .ok (.ldc 86, 2) := by decide +kernel
theorem d_Linker_faultOfPair_34 : decode b_Linker_faultOfPair 34 = .ok (.invokevirtual 87, 3) := by decide +kernel
theorem d_Linker_faultOfPair_37 : decode b_Linker_faultOfPair 37 = .ok (.ifCond .ne 6, 3) := by decide +kernel
theorem d_Linker_faultOfPair_40 : decode b_Linker_faultOfPair 40 = .ok (.bipush 10, 2) := by decide +kernel
theorem d_Linker_faultOfPair_42 : decode b_Linker_faultOfPair 42 = .ok (.ireturn, 1) := by decide +kernel
theorem d_Linker_faultOfPair_43 : decode b_Linker_faultOfPair 43 = .ok (.aload_n 0, 1) := by decide +kernel
theorem d_Linker_faultOfPair_44 : decode b_Linker_faultOfPair 44 = .ok (.getfield 9, 3) := by decide +kernel
theorem d_Linker_faultOfPair_47 : decode b_Linker_faultOfPair 47 = .ok (.iload_n 2, 1) := by decide +kernel
theorem d_Linker_faultOfPair_48 : decode b_Linker_faultOfPair 48 = .ok (.invokestatic 91, 3) := by decide +kernel
theorem d_Linker_faultOfPair_51 : decode b_Linker_faultOfPair 51 = .ok (.ifCond .ne 14, 3) := by decide +kernel
theorem d_Linker_faultOfPair_54 : decode b_Linker_faultOfPair 54 = .ok (.aload_n 0, 1) := by decide +kernel
theorem d_Linker_faultOfPair_55 : decode b_Linker_faultOfPair 55 = .ok (.getfield 9, 3) := by decide +kernel
theorem d_Linker_faultOfPair_58 : decode b_Linker_faultOfPair 58 = .ok (.iload_n 2, 1) := by decide +kernel
theorem d_Linker_faultOfPair_59 : decode b_Linker_faultOfPair 59 = .ok (.invokestatic 95, 3) := by decide +kernel
theorem d_Linker_faultOfPair_62 : decode b_Linker_faultOfPair 62 = .ok (.ifCond .eq 7, 3) := by decide +kernel
theorem d_Linker_faultOfPair_65 : decode b_Linker_faultOfPair 65 = .ok (.iconst 0, 1) := by decide +kernel
theorem d_Linker_faultOfPair_66 : decode b_Linker_faultOfPair 66 = .ok (.goto 5, 3) := by decide +kernel
theorem d_Linker_faultOfPair_69 : decode b_Linker_faultOfPair 69 = .ok (.bipush 11, 2) := by decide +kernel
theorem d_Linker_faultOfPair_71 : decode b_Linker_faultOfPair 71 = .ok (.ireturn, 1) := by decide +kernel
theorem d_Linker_isClassAt_0 : decode b_Linker_isClassAt 0 = .ok (.aload_n 0, 1) := by decide +kernel
theorem d_Linker_isClassAt_1 : decode b_Linker_isClassAt 1 = .ok (.getfield 9, 3) := by decide +kernel
theorem d_Linker_isClassAt_4 : decode b_Linker_isClassAt 4 = .ok (.aload_n 0, 1) := by decide +kernel
theorem d_Linker_isClassAt_5 : decode b_Linker_isClassAt 5 = .ok (.getfield 21, 3) := by decide +kernel
theorem d_Linker_isClassAt_8 : decode b_Linker_isClassAt 8 = .ok (.iload_n 1, 1) := by decide +kernel
theorem d_Linker_isClassAt_9 : decode b_Linker_isClassAt 9 = .ok (.invokevirtual 121, 3) := by decide +kernel
theorem d_Linker_isClassAt_12 : decode b_Linker_isClassAt 12 = .ok (.invokevirtual 58, 3) := by decide +kernel
theorem d_Linker_isClassAt_15 : decode b_Linker_isClassAt 15 = .ok (.bipush 7, 2) := by decide +kernel
theorem d_Linker_isClassAt_17 : decode b_Linker_isClassAt 17 = .ok (.if_icmp .eq 16, 3) := by decide +kernel
theorem d_Linker_isClassAt_20 : decode b_Linker_isClassAt 20 = .ok (.aload_n 0, 1) := by decide +kernel
theorem d_Linker_isClassAt_21 : decode b_Linker_isClassAt 21 = .ok (.getfield 22, 3) := by decide +kernel
theorem d_Linker_isClassAt_24 : decode b_Linker_isClassAt 24 = .ok (.bipush 6, 2) := by decide +kernel
theorem d_Linker_isClassAt_26 : decode b_Linker_isClassAt 26 = .ok (.iload_n 1, 1) := by decide +kernel
theorem d_Linker_isClassAt_27 : decode b_Linker_isClassAt 27 = .ok (.invokevirtual 37, 3) := by decide +kernel
theorem d_Linker_isClassAt_30 : decode b_Linker_isClassAt 30 = .ok (.ifCond .eq 7, 3) := by decide +kernel
theorem d_Linker_isClassAt_33 : decode b_Linker_isClassAt 33 = .ok (.iconst 1, 1) := by decide +kernel
theorem d_Linker_isClassAt_34 : decode b_Linker_isClassAt 34 = .ok (.goto 4, 3) := by decide +kernel
theorem d_Linker_isClassAt_37 : decode b_Linker_isClassAt 37 = .ok (.iconst 0, 1) := by decide +kernel
theorem d_Linker_isClassAt_38 : decode b_Linker_isClassAt 38 = .ok (.ireturn, 1) := by decide +kernel
theorem d_Linker_isName_0 : decode b_Linker_isName 0 = .ok (.aload_n 0, 1) := by decide +kernel
theorem d_Linker_isName_1 : decode b_Linker_isName 1 = .ok (.getfield 21, 3) := by decide +kernel
theorem d_Linker_isName_4 : decode b_Linker_isName 4 = .ok (.aload_n 0, 1) := by decide +kernel
theorem d_Linker_isName_5 : decode b_Linker_isName 5 = .ok (.getfield 9, 3) := by decide +kernel
theorem d_Linker_isName_8 : decode b_Linker_isName 8 = .ok (.iload_n 1, 1) := by decide +kernel
theorem d_Linker_isName_9 : decode b_Linker_isName 9 = .ok (.invokevirtual 67, 3) := by decide +kernel
theorem d_Linker_isName_12 : decode b_Linker_isName 12 = .ok (.aload_n 0, 1) := by decide +kernel
theorem d_Linker_isName_13 : decode b_Linker_isName 13 = .ok (.getfield 9, 3) := by decide +kernel
theorem d_Linker_isName_16 : decode b_Linker_isName 16 = .ok (.iload_n 1, 1) := by decide +kernel
theorem d_Linker_isName_17 : decode b_Linker_isName 17 = .ok (.invokevirtual 64, 3) := by decide +kernel
theorem d_Linker_isName_20 : decode b_Linker_isName 20 = .ok (.invokestatic 98, 3) := by decide +kernel
theorem d_Linker_isName_23 : decode b_Linker_isName 23 = .ok (.ireturn, 1) := by decide +kernel
theorem d_Linker_isText_0 : decode b_Linker_isText 0 = .ok (.aload_n 0, 1) := by decide +kernel
theorem d_Linker_isText_1 : decode b_Linker_isText 1 = .ok (.getfield 9, 3) := by decide +kernel
theorem d_Linker_isText_4 : decode b_Linker_isText 4 = .ok (.iload_n 1, 1) := by decide +kernel
theorem d_Linker_isText_5 : decode b_Linker_isText 5 = .ok (.invokevirtual 58, 3) := by decide +kernel
theorem d_Linker_isText_8 : decode b_Linker_isText 8 = .ok (.iconst 1, 1) := by decide +kernel
theorem d_Linker_isText_9 : decode b_Linker_isText 9 = .ok (.if_icmp .ne 7, 3) := by decide +kernel
theorem d_Linker_isText_12 : decode b_Linker_isText 12 = .ok (.iconst 1, 1) := by decide +kernel
theorem d_Linker_isText_13 : decode b_Linker_isText 13 = .ok (.goto 4, 3) := by decide +kernel
theorem d_Linker_isText_16 : decode b_Linker_isText 16 = .ok (.iconst 0, 1) := by decide +kernel
theorem d_Linker_isText_17 : decode b_Linker_isText 17 = .ok (.ireturn, 1) := by decide +kernel
theorem d_Linker_isThereBefore_0 : decode b_Linker_isThereBefore 0 = .ok (.aload_n 0, 1) := by decide +kernel
theorem d_Linker_isThereBefore_1 : decode b_Linker_isThereBefore 1 = .ok (.getfield 9, 3) := by decide +kernel
theorem d_Linker_isThereBefore_4 : decode b_Linker_isThereBefore 4 = .ok (.iload_n 1, 1) := by decide +kernel
theorem d_Linker_isThereBefore_5 : decode b_Linker_isThereBefore 5 = .ok (.iload_n 2, 1) := by decide +kernel
theorem d_Linker_isThereBefore_6 : decode b_Linker_isThereBefore 6 = .ok (.invokevirtual 134, 3) := by decide +kernel
theorem d_Linker_isThereBefore_9 : decode b_Linker_isThereBefore 9 = .ok (.istore_n 3, 1) := by decide +kernel
theorem d_Linker_isThereBefore_10 : decode b_Linker_isThereBefore 10 = .ok (.iconst 0, 1) := by decide +kernel
theorem d_Linker_isThereBefore_11 : decode b_Linker_isThereBefore 11 = .ok (.istore 4, 2) := by decide +kernel
theorem d_Linker_isThereBefore_13 : decode b_Linker_isThereBefore 13 = .ok (.iload 4, 2) := by decide +kernel
theorem d_Linker_isThereBefore_15 : decode b_Linker_isThereBefore 15 = .ok (.iload_n 2, 1) := by decide +kernel
theorem d_Linker_isThereBefore_16 : decode b_Linker_isThereBefore 16 = .ok (.if_icmp .ge 77, 3) := by decide +kernel
theorem d_Linker_isThereBefore_19 : decode b_Linker_isThereBefore 19 = .ok (.aload_n 0, 1) := by decide +kernel
theorem d_Linker_isThereBefore_20 : decode b_Linker_isThereBefore 20 = .ok (.getfield 9, 3) := by decide +kernel
theorem d_Linker_isThereBefore_23 : decode b_Linker_isThereBefore 23 = .ok (.iload_n 1, 1) := by decide +kernel
theorem d_Linker_isThereBefore_24 : decode b_Linker_isThereBefore 24 = .ok (.iload 4, 2) := by decide +kernel
theorem d_Linker_isThereBefore_26 : decode b_Linker_isThereBefore 26 = .ok (.invokevirtual 134, 3) := by decide +kernel
theorem d_Linker_isThereBefore_29 : decode b_Linker_isThereBefore 29 = .ok (.istore 5, 2) := by decide +kernel
theorem d_Linker_isThereBefore_31 : decode b_Linker_isThereBefore 31 = .ok (.aload_n 0, 1) := by decide +kernel
theorem d_Linker_isThereBefore_32 : decode b_Linker_isThereBefore 32 = .ok (.getfield 9, 3) := by decide +kernel
theorem d_Linker_isThereBefore_35 : decode b_Linker_isThereBefore 35 = .ok (.aload_n 0, 1) := by decide +kernel
theorem d_Linker_isThereBefore_36 : decode b_Linker_isThereBefore 36 = .ok (.getfield 9, 3) := by decide +kernel
theorem d_Linker_isThereBefore_39 : decode b_Linker_isThereBefore 39 = .ok (.iload_n 3, 1) := by decide +kernel
theorem d_Linker_isThereBefore_40 : decode b_Linker_isThereBefore 40 = .ok (.invokevirtual 137, 3) := by decide +kernel
theorem d_Linker_isThereBefore_43 : decode b_Linker_isThereBefore 43 = .ok (.aload_n 0, 1) := by decide +kernel
theorem d_Linker_isThereBefore_44 : decode b_Linker_isThereBefore 44 = .ok (.getfield 9, 3) := by decide +kernel
theorem d_Linker_isThereBefore_47 : decode b_Linker_isThereBefore 47 = .ok (.iload 5, 2) := by decide +kernel
theorem d_Linker_isThereBefore_49 : decode b_Linker_isThereBefore 49 = .ok (.invokevirtual 137, 3) := by decide +kernel
theorem d_Linker_isThereBefore_52 : decode b_Linker_isThereBefore 52 = .ok (.invokevirtual 152, 3) := by decide +kernel
theorem d_Linker_isThereBefore_55 : decode b_Linker_isThereBefore 55 = .ok (.ifCond .eq 32, 3) := by decide +kernel
theorem d_Linker_isThereBefore_58 : decode b_Linker_isThereBefore 58 = .ok (.aload_n 0, 1) := by decide +kernel
theorem d_Linker_isThereBefore_59 : decode b_Linker_isThereBefore 59 = .ok (.getfield 9, 3) := by decide +kernel
theorem d_Linker_isThereBefore_62 : decode b_Linker_isThereBefore 62 = .ok (.aload_n 0, 1) := by decide +kernel
theorem d_Linker_isThereBefore_63 : decode b_Linker_isThereBefore 63 = .ok (.getfield 9, 3) := by decide +kernel
theorem d_Linker_isThereBefore_66 : decode b_Linker_isThereBefore 66 = .ok (.iload_n 3, 1) := by decide +kernel
theorem d_Linker_isThereBefore_67 : decode b_Linker_isThereBefore 67 = .ok (.invokevirtual 140, 3) := by decide +kernel
theorem d_Linker_isThereBefore_70 : decode b_Linker_isThereBefore 70 = .ok (.aload_n 0, 1) := by decide +kernel
theorem d_Linker_isThereBefore_71 : decode b_Linker_isThereBefore 71 = .ok (.getfield 9, 3) := by decide +kernel
theorem d_Linker_isThereBefore_74 : decode b_Linker_isThereBefore 74 = .ok (.iload 5, 2) := by decide +kernel
theorem d_Linker_isThereBefore_76 : decode b_Linker_isThereBefore 76 = .ok (.invokevirtual 140, 3) := by decide +kernel
theorem d_Linker_isThereBefore_79 : decode b_Linker_isThereBefore 79 = .ok (.invokevirtual 152, 3) := by decide +kernel
theorem d_Linker_isThereBefore_82 : decode b_Linker_isThereBefore 82 = .ok (.ifCond .eq 5, 3) := by decide +kernel
theorem d_Linker_isThereBefore_85 : decode b_Linker_isThereBefore 85 = .ok (.iconst 1, 1) := by decide +kernel
theorem d_Linker_isThereBefore_86 : decode b_Linker_isThereBefore 86 = .ok (.ireturn, 1) := by decide +kernel
theorem d_Linker_isThereBefore_87 : decode b_Linker_isThereBefore 87 = .ok (.iinc 4 1, 3) := by decide +kernel
theorem d_Linker_isThereBefore_90 : decode b_Linker_isThereBefore 90 = .ok (.goto (-77), 3) := by decide +kernel
theorem d_Linker_isThereBefore_93 : decode b_Linker_isThereBefore 93 = .ok (.iconst 0, 1) := by decide +kernel
theorem d_Linker_isThereBefore_94 : decode b_Linker_isThereBefore 94 = .ok (.ireturn, 1) := by decide +kernel
theorem d_Linker_isUseRight_0 : decode b_Linker_isUseRight 0 = .ok (.aload_n 0, 1) := by decide +kernel
theorem d_Linker_isUseRight_1 : decode b_Linker_isUseRight 1 = .ok (.getfield 9, 3) := by decide +kernel
theorem d_Linker_isUseRight_4 : decode b_Linker_isUseRight 4 = .ok (.iload_n 1, 1) := by decide +kernel
theorem d_Linker_isUseRight_5 : decode b_Linker_isUseRight 5 = .ok (.invokevirtual 58, 3) := by decide +kernel
theorem d_Linker_isUseRight_8 : decode b_Linker_isUseRight 8 = .ok (.istore_n 2, 1) := by decide +kernel
theorem d_Linker_isUseRight_9 : decode b_Linker_isUseRight 9 = .ok (.iload_n 2, 1) := by decide +kernel
theorem d_Linker_isUseRight_10 : decode b_Linker_isUseRight 10 = .ok (.bipush 9, 2) := by decide +kernel
theorem d_Linker_isUseRight_12 : decode b_Linker_isUseRight 12 = .ok (.if_icmp .eq 11, 3) := by decide +kernel
theorem d_Linker_isUseRight_15 : decode b_Linker_isUseRight 15 = .ok (.iload_n 2, 1) := by decide +kernel
theorem d_Linker_isUseRight_16 : decode b_Linker_isUseRight 16 = .ok (.bipush 10, 2) := by decide +kernel
theorem d_Linker_isUseRight_18 : decode b_Linker_isUseRight 18 = .ok (.if_icmp .eq 5, 3) := by decide +kernel
theorem d_Linker_isUseRight_21 : decode b_Linker_isUseRight 21 = .ok (.iconst 1, 1) := by decide +kernel
theorem d_Linker_isUseRight_22 : decode b_Linker_isUseRight 22 = .ok (.ireturn, 1) := by decide +kernel
theorem d_Linker_isUseRight_23 : decode b_Linker_isUseRight 23 = .ok (.aload_n 0, 1) := by decide +kernel
theorem d_Linker_isUseRight_24 : decode b_Linker_isUseRight 24 = .ok (.getfield 9, 3) := by decide +kernel
theorem d_Linker_isUseRight_27 : decode b_Linker_isUseRight 27 = .ok (.iload_n 1, 1) := by decide +kernel
theorem d_Linker_isUseRight_28 : decode b_Linker_isUseRight 28 = .ok (.invokevirtual 76, 3) := by decide +kernel
theorem d_Linker_isUseRight_31 : decode b_Linker_isUseRight 31 = .ok (.istore_n 3, 1) := by decide +kernel
theorem d_Linker_isUseRight_32 : decode b_Linker_isUseRight 32 = .ok (.aload_n 0, 1) := by decide +kernel
theorem d_Linker_isUseRight_33 : decode b_Linker_isUseRight 33 = .ok (.getfield 9, 3) := by decide +kernel
theorem d_Linker_isUseRight_36 : decode b_Linker_isUseRight 36 = .ok (.iload_n 3, 1) := by decide +kernel
theorem d_Linker_isUseRight_37 : decode b_Linker_isUseRight 37 = .ok (.invokevirtual 55, 3) := by decide +kernel
theorem d_Linker_isUseRight_40 : decode b_Linker_isUseRight 40 = .ok (.istore 4, 2) := by decide +kernel
theorem d_Linker_isUseRight_42 : decode b_Linker_isUseRight 42 = .ok (.aload_n 0, 1) := by decide +kernel
theorem d_Linker_isUseRight_43 : decode b_Linker_isUseRight 43 = .ok (.getfield 9, 3) := by decide +kernel
theorem d_Linker_isUseRight_46 : decode b_Linker_isUseRight 46 = .ok (.iload_n 3, 1) := by decide +kernel
theorem d_Linker_isUseRight_47 : decode b_Linker_isUseRight 47 = .ok (.invokevirtual 76, 3) := by decide +kernel
theorem d_Linker_isUseRight_50 : decode b_Linker_isUseRight 50 = .ok (.istore 5, 2) := by decide +kernel
theorem d_Linker_isUseRight_52 : decode b_Linker_isUseRight 52 = .ok (.iload_n 2, 1) := by decide +kernel
theorem d_Linker_isUseRight_53 : decode b_Linker_isUseRight 53 = .ok (.bipush 9, 2) := by decide +kernel
theorem d_Linker_isUseRight_55 : decode b_Linker_isUseRight 55 = .ok (.if_icmp .ne 35, 3) := by decide +kernel
theorem d_Linker_isUseRight_58 : decode b_Linker_isUseRight 58 = .ok (.aload_n 0, 1) := by decide +kernel
theorem d_Linker_isUseRight_59 : decode b_Linker_isUseRight 59 = .ok (.getfield 9, 3) := by decide +kernel
theorem d_Linker_isUseRight_62 : decode b_Linker_isUseRight 62 = .ok (.iload 4, 2) := by decide +kernel
theorem d_Linker_isUseRight_64 : decode b_Linker_isUseRight 64 = .ok (.ldc 86, 2) := by decide +kernel
theorem d_Linker_isUseRight_66 : decode b_Linker_isUseRight 66 = .ok (.invokevirtual 87, 3) := by decide +kernel
theorem d_Linker_isUseRight_69 : decode b_Linker_isUseRight 69 = .ok (.ifCond .ne 19, 3) := by decide +kernel
theorem d_Linker_isUseRight_72 : decode b_Linker_isUseRight 72 = .ok (.aload_n 0, 1) := by decide +kernel
theorem d_Linker_isUseRight_73 : decode b_Linker_isUseRight 73 = .ok (.getfield 9, 3) := by decide +kernel
theorem d_Linker_isUseRight_76 : decode b_Linker_isUseRight 76 = .ok (.iload 5, 2) := by decide +kernel
theorem d_Linker_isUseRight_78 : decode b_Linker_isUseRight 78 = .ok (.invokestatic 91, 3) := by decide +kernel
theorem d_Linker_isUseRight_81 : decode b_Linker_isUseRight 81 = .ok (.ifCond .eq 7, 3) := by decide +kernel
theorem d_Linker_isUseRight_84 : decode b_Linker_isUseRight 84 = .ok (.iconst 1, 1) := by decide +kernel
theorem d_Linker_isUseRight_85 : decode b_Linker_isUseRight 85 = .ok (.goto 4, 3) := by decide +kernel
theorem d_Linker_isUseRight_88 : decode b_Linker_isUseRight 88 = .ok (.iconst 0, 1) := by decide +kernel
theorem d_Linker_isUseRight_89 : decode b_Linker_isUseRight 89 = .ok (.ireturn, 1) := by decide +kernel
theorem d_Linker_isUseRight_90 : decode b_Linker_isUseRight 90 = .ok (.aload_n 0, 1) := by decide +kernel
theorem d_Linker_isUseRight_91 : decode b_Linker_isUseRight 91 = .ok (.getfield 9, 3) := by decide +kernel
theorem d_Linker_isUseRight_94 : decode b_Linker_isUseRight 94 = .ok (.iload 5, 2) := by decide +kernel
theorem d_Linker_isUseRight_96 : decode b_Linker_isUseRight 96 = .ok (.invokestatic 95, 3) := by decide +kernel
theorem d_Linker_isUseRight_99 : decode b_Linker_isUseRight 99 = .ok (.ifCond .eq 18, 3) := by decide +kernel
theorem d_Linker_isUseRight_102 : decode b_Linker_isUseRight 102 = .ok (.aload_n 0, 1) := by decide +kernel
theorem d_Linker_isUseRight_103 : decode b_Linker_isUseRight 103 = .ok (.iload 4, 2) := by decide +kernel
theorem d_Linker_isUseRight_105 : decode b_Linker_isUseRight 105 = .ok (.iload 5, 2) := by decide +kernel
theorem d_Linker_isUseRight_107 : decode b_Linker_isUseRight 107 = .ok (.invokevirtual 101, 3) := by decide +kernel
theorem d_Linker_isUseRight_110 : decode b_Linker_isUseRight 110 = .ok (.ifCond .eq 7, 3) := by decide +kernel
theorem d_Linker_isUseRight_113 : decode b_Linker_isUseRight 113 = .ok (.iconst 1, 1) := by decide +kernel
theorem d_Linker_isUseRight_114 : decode b_Linker_isUseRight 114 = .ok (.goto 4, 3) := by decide +kernel
theorem d_Linker_isUseRight_117 : decode b_Linker_isUseRight 117 = .ok (.iconst 0, 1) := by decide +kernel
theorem d_Linker_isUseRight_118 : decode b_Linker_isUseRight 118 = .ok (.ireturn, 1) := by decide +kernel
theorem d_Linker_links_0 : decode b_Linker_links 0 = .ok (.aload_n 0, 1) := by decide +kernel
theorem d_Linker_links_1 : decode b_Linker_links 1 = .ok (.aload_n 1, 1) := by decide +kernel
theorem d_Linker_links_2 : decode b_Linker_links 2 = .ok (.putfield 9, 3) := by decide +kernel
theorem d_Linker_links_5 : decode b_Linker_links 5 = .ok (.aload_n 0, 1) := by decide +kernel
theorem d_Linker_links_6 : decode b_Linker_links 6 = .ok (.aload_n 1, 1) := by decide +kernel
theorem d_Linker_links_7 : decode b_Linker_links 7 = .ok (.getfield 15, 3) := by decide +kernel
theorem d_Linker_links_10 : decode b_Linker_links 10 = .ok (.putfield 21, 3) := by decide +kernel
theorem d_Linker_links_13 : decode b_Linker_links 13 = .ok (.aload_n 0, 1) := by decide +kernel
theorem d_Linker_links_14 : decode b_Linker_links 14 = .ok (.aload_n 2, 1) := by decide +kernel
theorem d_Linker_links_15 : decode b_Linker_links 15 = .ok (.putfield 22, 3) := by decide +kernel
theorem d_Linker_links_18 : decode b_Linker_links 18 = .ok (.iconst 1, 1) := by decide +kernel
theorem d_Linker_links_19 : decode b_Linker_links 19 = .ok (.istore_n 3, 1) := by decide +kernel
theorem d_Linker_links_20 : decode b_Linker_links 20 = .ok (.iload_n 3, 1) := by decide +kernel
theorem d_Linker_links_21 : decode b_Linker_links 21 = .ok (.aload_n 0, 1) := by decide +kernel
theorem d_Linker_links_22 : decode b_Linker_links 22 = .ok (.getfield 9, 3) := by decide +kernel
theorem d_Linker_links_25 : decode b_Linker_links 25 = .ok (.getfield 26, 3) := by decide +kernel
theorem d_Linker_links_28 : decode b_Linker_links 28 = .ok (.if_icmp .ge 39, 3) := by decide +kernel
theorem d_Linker_links_31 : decode b_Linker_links 31 = .ok (.aload_n 0, 1) := by decide +kernel
theorem d_Linker_links_32 : decode b_Linker_links 32 = .ok (.iload_n 3, 1) := by decide +kernel
theorem d_Linker_links_33 : decode b_Linker_links 33 = .ok (.invokevirtual 30, 3) := by decide +kernel
theorem d_Linker_links_36 : decode b_Linker_links 36 = .ok (.istore 4, 2) := by decide +kernel
theorem d_Linker_links_38 : decode b_Linker_links 38 = .ok (.iload 4, 2) := by decide +kernel
theorem d_Linker_links_40 : decode b_Linker_links 40 = .ok (.ifCond .eq 21, 3) := by decide +kernel
theorem d_Linker_links_43 : decode b_Linker_links 43 = .ok (.aload_n 0, 1) := by decide +kernel
theorem d_Linker_links_44 : decode b_Linker_links 44 = .ok (.getfield 22, 3) := by decide +kernel
theorem d_Linker_links_47 : decode b_Linker_links 47 = .ok (.iload 4, 2) := by decide +kernel
theorem d_Linker_links_49 : decode b_Linker_links 49 = .ok (.aload_n 0, 1) := by decide +kernel
theorem d_Linker_links_50 : decode b_Linker_links 50 = .ok (.getfield 9, 3) := by decide +kernel
theorem d_Linker_links_53 : decode b_Linker_links 53 = .ok (.iload_n 3, 1) := by decide +kernel
theorem d_Linker_links_54 : decode b_Linker_links 54 = .ok (.invokevirtual 34, 3) := by decide +kernel
theorem d_Linker_links_57 : decode b_Linker_links 57 = .ok (.invokevirtual 37, 3) := by decide +kernel
theorem d_Linker_links_60 : decode b_Linker_links 60 = .ok (.ireturn, 1) := by decide +kernel
theorem d_Linker_links_61 : decode b_Linker_links 61 = .ok (.iinc 3 1, 3) := by decide +kernel
theorem d_Linker_links_64 : decode b_Linker_links 64 = .ok (.goto (-44), 3) := by decide +kernel
theorem d_Linker_links_67 : decode b_Linker_links 67 = .ok (.iconst 1, 1) := by decide +kernel
theorem d_Linker_links_68 : decode b_Linker_links 68 = .ok (.istore_n 3, 1) := by decide +kernel
theorem d_Linker_links_69 : decode b_Linker_links 69 = .ok (.iload_n 3, 1) := by decide +kernel
theorem d_Linker_links_70 : decode b_Linker_links 70 = .ok (.aload_n 0, 1) := by decide +kernel
theorem d_Linker_links_71 : decode b_Linker_links 71 = .ok (.getfield 9, 3) := by decide +kernel
theorem d_Linker_links_74 : decode b_Linker_links 74 = .ok (.getfield 26, 3) := by decide +kernel
theorem d_Linker_links_77 : decode b_Linker_links 77 = .ok (.if_icmp .ge 35, 3) := by decide +kernel
theorem d_Linker_links_80 : decode b_Linker_links 80 = .ok (.aload_n 0, 1) := by decide +kernel
theorem d_Linker_links_81 : decode b_Linker_links 81 = .ok (.iload_n 3, 1) := by decide +kernel
theorem d_Linker_links_82 : decode b_Linker_links 82 = .ok (.invokevirtual 43, 3) := by decide +kernel
theorem d_Linker_links_85 : decode b_Linker_links 85 = .ok (.ifCond .ne 21, 3) := by decide +kernel
theorem d_Linker_links_88 : decode b_Linker_links 88 = .ok (.aload_n 0, 1) := by decide +kernel
theorem d_Linker_links_89 : decode b_Linker_links 89 = .ok (.getfield 22, 3) := by decide +kernel
theorem d_Linker_links_92 : decode b_Linker_links 92 = .ok (.bipush 11, 2) := by decide +kernel
theorem d_Linker_links_94 : decode b_Linker_links 94 = .ok (.aload_n 0, 1) := by decide +kernel
theorem d_Linker_links_95 : decode b_Linker_links 95 = .ok (.getfield 9, 3) := by decide +kernel
theorem d_Linker_links_98 : decode b_Linker_links 98 = .ok (.iload_n 3, 1) := by decide +kernel
theorem d_Linker_links_99 : decode b_Linker_links 99 = .ok (.invokevirtual 34, 3) := by decide +kernel
theorem d_Linker_links_102 : decode b_Linker_links 102 = .ok (.invokevirtual 37, 3) := by decide +kernel
theorem d_Linker_links_105 : decode b_Linker_links 105 = .ok (.ireturn, 1) := by decide +kernel
theorem d_Linker_links_106 : decode b_Linker_links 106 = .ok (.iinc 3 1, 3) := by decide +kernel
theorem d_Linker_links_109 : decode b_Linker_links 109 = .ok (.goto (-40), 3) := by decide +kernel
theorem d_Linker_links_112 : decode b_Linker_links 112 = .ok (.aload_n 0, 1) := by decide +kernel
theorem d_Linker_links_113 : decode b_Linker_links 113 = .ok (.invokevirtual 47, 3) := by decide +kernel
theorem d_Linker_links_116 : decode b_Linker_links 116 = .ok (.ifCond .eq 23, 3) := by decide +kernel
theorem d_Linker_links_119 : decode b_Linker_links 119 = .ok (.aload_n 0, 1) := by decide +kernel
theorem d_Linker_links_120 : decode b_Linker_links 120 = .ok (.iconst 0, 1) := by decide +kernel
theorem d_Linker_links_121 : decode b_Linker_links 121 = .ok (.invokevirtual 51, 3) := by decide +kernel
theorem d_Linker_links_124 : decode b_Linker_links 124 = .ok (.ifCond .eq 15, 3) := by decide +kernel
theorem d_Linker_links_127 : decode b_Linker_links 127 = .ok (.aload_n 0, 1) := by decide +kernel
theorem d_Linker_links_128 : decode b_Linker_links 128 = .ok (.iconst 1, 1) := by decide +kernel
theorem d_Linker_links_129 : decode b_Linker_links 129 = .ok (.invokevirtual 51, 3) := by decide +kernel
theorem d_Linker_links_132 : decode b_Linker_links 132 = .ok (.ifCond .eq 7, 3) := by decide +kernel
theorem d_Linker_links_135 : decode b_Linker_links 135 = .ok (.iconst 1, 1) := by decide +kernel
theorem d_Linker_links_136 : decode b_Linker_links 136 = .ok (.goto 4, 3) := by decide +kernel
theorem d_Linker_links_139 : decode b_Linker_links 139 = .ok (.iconst 0, 1) := by decide +kernel
theorem d_Linker_links_140 : decode b_Linker_links 140 = .ok (.ireturn, 1) := by decide +kernel
theorem d_Linker_mayMake_0 : decode b_Linker_mayMake 0 = .ok (.aload_n 0, 1) := by decide +kernel
theorem d_Linker_mayMake_1 : decode b_Linker_mayMake 1 = .ok (.getfield 9, 3) := by decide +kernel
theorem d_Linker_mayMake_4 : decode b_Linker_mayMake 4 = .ok (.iload_n 1, 1) := by decide +kernel
theorem d_Linker_mayMake_5 : decode b_Linker_mayMake 5 = .ok (.ldc 86, 2) := by decide +kernel
theorem d_Linker_mayMake_7 : decode b_Linker_mayMake 7 = .ok (.invokevirtual 87, 3) := by decide +kernel
theorem d_Linker_mayMake_10 : decode b_Linker_mayMake 10 = .ok (.ifCond .eq 25, 3) := by decide +kernel
theorem d_Linker_mayMake_13 : decode b_Linker_mayMake 13 = .ok (.aload_n 0, 1) := by decide +kernel
theorem d_Linker_mayMake_14 : decode b_Linker_mayMake 14 = .ok (.getfield 21, 3) := by decide +kernel
theorem d_Linker_mayMake_17 : decode b_Linker_mayMake 17 = .ok (.aload_n 0, 1) := by decide +kernel
theorem d_Linker_mayMake_18 : decode b_Linker_mayMake 18 = .ok (.getfield 9, 3) := by decide +kernel
theorem d_Linker_mayMake_21 : decode b_Linker_mayMake 21 = .ok (.iload_n 2, 1) := by decide +kernel
theorem d_Linker_mayMake_22 : decode b_Linker_mayMake 22 = .ok (.invokevirtual 64, 3) := by decide +kernel
theorem d_Linker_mayMake_25 : decode b_Linker_mayMake 25 = .ok (.iconst 1, 1) := by decide +kernel
theorem d_Linker_mayMake_26 : decode b_Linker_mayMake 26 = .ok (.isub, 1) := by decide +kernel
theorem d_Linker_mayMake_27 : decode b_Linker_mayMake 27 = .ok (.invokevirtual 104, 3) := by decide +kernel
theorem d_Linker_mayMake_30 : decode b_Linker_mayMake 30 = .ok (.bipush 86, 2) := by decide +kernel
theorem d_Linker_mayMake_32 : decode b_Linker_mayMake 32 = .ok (.if_icmp .ne 7, 3) := by decide +kernel
theorem d_Linker_mayMake_35 : decode b_Linker_mayMake 35 = .ok (.iconst 1, 1) := by decide +kernel
theorem d_Linker_mayMake_36 : decode b_Linker_mayMake 36 = .ok (.goto 4, 3) := by decide +kernel
theorem d_Linker_mayMake_39 : decode b_Linker_mayMake 39 = .ok (.iconst 0, 1) := by decide +kernel
theorem d_Linker_mayMake_40 : decode b_Linker_mayMake 40 = .ok (.ireturn, 1) := by decide +kernel
end
