section
set_option maxHeartbeats 4000000 in
set_option maxRecDepth 100000 in
theorem c_Law_feed (l : Launch) (hfl : l.flags = flags0) (g : tw_G) (sz : Nat) (h0 r n o : Nat) (q : Nat → Nat) (f : Nat → Int32) (ig many a b c1 d : Int32) (o0 : Int64) (hn : n ≤ 600) : Met l y_Law_feed [.codeWith y_Law_feed b_Law_feed 8 (some .int) [(0, 16, 19, 13), (0, 16, 23, 15)]] ({ frames := 7, cells := 1, slots := 6, locals := 108 }) (tw_P g [.ref h0, .int many, .int a, .int b, .int c1, .int d, .ref o] [(h0, .inr (9, [.ref (q 0), .ref (q 1), .ref (q 2), .ref (q 3), .ref (q 4), .ref (q 5), .ref (q 6), .ref (q 7), .int ig])), ((q 0), .inr (2, [.ref r, .int (nI n)])), (r, aB g 600 f), (o, aJ g 1 (fun _ => o0))] sz) (tw_Qi g (fun k (u : Nat × Int64) => (k = 1 ∧ (many < 0 ∨ 16 < many) ∧ u = (0, o0)) ∨ (k = 2 ∧ (¬ many < 0 ∧ many ≤ 16 ∧ 600 < nI n + many) ∧ u = (0, o0)) ∨ (k = 0 ∧ many = nI u.1 ∧ u.1 ≤ 16 ∧ n + u.1 ≤ 600 ∧ u.2 = (nI (n + u.1)).toInt64)) (fun u : Nat × Int64 => [(h0, .inr (9, [.ref (q 0), .ref (q 1), .ref (q 2), .ref (q 3), .ref (q 4), .ref (q 5), .ref (q 6), .ref (q 7), .int ig])), ((q 0), .inr (2, [.ref r, .int (nI (n + u.1))])), (r, aB g 600 (fd_f f n a b c1 d u.1)), (o, aJ g 1 (fun _ => u.2))]) (va_A [(h0, .inr (9, [.ref (q 0), .ref (q 1), .ref (q 2), .ref (q 3), .ref (q 4), .ref (q 5), .ref (q 6), .ref (q 7), .int ig])), ((q 0), .inr (2, [.ref r, .int (nI n)])), (r, aB g 600 f), (o, aJ g 1 (fun _ => o0))] sz)) 1 6 (va_A [(h0, .inr (9, [.ref (q 0), .ref (q 1), .ref (q 2), .ref (q 3), .ref (q 4), .ref (q 5), .ref (q 6), .ref (q 7), .int ig])), ((q 0), .inr (2, [.ref r, .int (nI n)])), (r, aB g 600 f), (o, aJ g 1 (fun _ => o0))] sz) := by
  refine tw_metL (l := l) (g := g) (y := y_Law_feed) (cc := b_Law_feed) (maxL := 8) (ret := (some .int)) (hh := [(0, 16, 19, 13), (0, 16, 23, 15)]) (rm := { frames := 7, cells := 1, slots := 6, locals := 108 }) (mc := 1) (ms := 6) (av := [.ref h0, .int many, .int a, .int b, .int c1, .int d, .ref o]) (ws := [(h0, .inr (9, [.ref (q 0), .ref (q 1), .ref (q 2), .ref (q 3), .ref (q 4), .ref (q 5), .ref (q 6), .ref (q 7), .int ig])), ((q 0), .inr (2, [.ref r, .int (nI n)])), (r, aB g 600 f), (o, aJ g 1 (fun _ => o0))]) (sz := sz) (Qc := fun A => (tw_Qi g (fun k (u : Nat × Int64) => (k = 1 ∧ (many < 0 ∨ 16 < many) ∧ u = (0, o0)) ∨ (k = 2 ∧ (¬ many < 0 ∧ many ≤ 16 ∧ 600 < nI n + many) ∧ u = (0, o0)) ∨ (k = 0 ∧ many = nI u.1 ∧ u.1 ≤ 16 ∧ n + u.1 ≤ 600 ∧ u.2 = (nI (n + u.1)).toInt64)) (fun u : Nat × Int64 => [(h0, .inr (9, [.ref (q 0), .ref (q 1), .ref (q 2), .ref (q 3), .ref (q 4), .ref (q 5), .ref (q 6), .ref (q 7), .int ig])), ((q 0), .inr (2, [.ref r, .int (nI (n + u.1))])), (r, aB g 600 (fd_f f n a b c1 d u.1)), (o, aJ g 1 (fun _ => u.2))]) A)) (by decide) (Nat.le_of_ble_eq_true rfl) ?_
  intro p e s m below meth c ls H A E hB hK hZ hP hD hS hA hl htab
  have hN := hZ.2.1
  obtain ⟨hx, hb, hml, hr, hown, hts, hlocks, hin⟩ := id E
  have hl : lv_has ls 8 [(0, .ref h0), (1, .int many), (2, .int a), (3, .int b), (4, .int c1), (5, .int d), (6, .ref o)] := hl
  refine lv_aload hx hb d_Law_feed_0 (lv_at hl 6 rfl) ?_
  refine lv_iconst (v := 0) hx hb d_Law_feed_2 (by decide) ?_
  refine lv_aload_n hx hb d_Law_feed_3 rfl (lv_at hl 0 rfl) ?_
  refine lv_iload_n hx hb d_Law_feed_4 rfl (lv_at hl 1 rfl) ?_
  refine lv_iload_n hx hb d_Law_feed_5 rfl (lv_at hl 2 rfl) ?_
  refine lv_iload_n hx hb d_Law_feed_6 rfl (lv_at hl 3 rfl) ?_
  refine lv_iload hx hb d_Law_feed_7 (lv_at hl 4 rfl) ?_
  refine lv_iload hx hb d_Law_feed_9 (lv_at hl 5 rfl) ?_
  refine tw_callX (ws := [(h0, .inr (9, [.ref (q 0), .ref (q 1), .ref (q 2), .ref (q 3), .ref (q 4), .ref (q 5), .ref (q 6), .ref (q 7), .int ig])), ((q 0), .inr (2, [.ref r, .int (nI n)])), (r, aB g 600 f), (o, aJ g 1 (fun _ => o0))]) (wc := [(h0, .inr (9, [.ref (q 0), .ref (q 1), .ref (q 2), .ref (q 3), .ref (q 4), .ref (q 5), .ref (q 6), .ref (q 7), .int ig])), ((q 0), .inr (2, [.ref r, .int (nI n)])), (r, aB g 600 f)]) (wr := [(o, aJ g 1 (fun _ => o0))]) (As := [.int many, .int a, .int b, .int c1, .int d]) (rest := [.int 0, .ref o]) E hB hK hZ (c_Ship_feed l hfl g H.size h0 r n q f ig many a b c1 d hn) mc_Ship_feed mi_Ship_feed me_Ship_feed wd_1026 hP hD hS hA [0, 1, 2] [3] rfl rfl (by decide) (by decide) (by decide) 0 rfl rfl rfl rfl rfl (by decide) rfl hl.1 rfl (Nat.le_of_ble_eq_true rfl) (by decide) d_Law_feed_11 (fun rv u1 H locs hr hP hD hS => ?_) (fun Y x H locs hth hce hP hD hS => ?_)
  · try dsimp only at hr
    have hP : va_P g.1 classes [(o, aJ g 1 (fun _ => o0)), (h0, .inr (9, [.ref (q 0), .ref (q 1), .ref (q 2), .ref (q 3), .ref (q 4), .ref (q 5), .ref (q 6), .ref (q 7), .int ig])), ((q 0), .inr (2, [.ref r, .int (nI (n + u1))])), (r, aB g 600 (fd_f f n a b c1 d u1))] H := hP
    have hD : va_D A [(o, aJ g 1 (fun _ => o0)), (h0, .inr (9, [.ref (q 0), .ref (q 1), .ref (q 2), .ref (q 3), .ref (q 4), .ref (q 5), .ref (q 6), .ref (q 7), .int ig])), ((q 0), .inr (2, [.ref r, .int (nI (n + u1))])), (r, aB g 600 (fd_f f n a b c1 d u1))] := hD
    refine W.widen (k := 1) (n := 6) (by decide) (by decide) ?_
    have hP : va_P g.1 classes [(h0, .inr (9, [.ref (q 0), .ref (q 1), .ref (q 2), .ref (q 3), .ref (q 4), .ref (q 5), .ref (q 6), .ref (q 7), .int ig])), ((q 0), .inr (2, [.ref r, .int (nI (n + u1))])), (r, aB g 600 (fd_f f n a b c1 d u1)), (o, aJ g 1 (fun _ => o0))] H := hP.sub [1, 2, 3, 0] rfl
    have hD : va_D A [(h0, .inr (9, [.ref (q 0), .ref (q 1), .ref (q 2), .ref (q 3), .ref (q 4), .ref (q 5), .ref (q 6), .ref (q 7), .int ig])), ((q 0), .inr (2, [.ref r, .int (nI (n + u1))])), (r, aB g 600 (fd_f f n a b c1 d u1)), (o, aJ g 1 (fun _ => o0))] := hD.sub [1, 2, 3, 0] (by decide) rfl
    refine lv_i2l (v := rv.toInt64) hx hb d_Law_feed_14 rfl ?_
    refine va_last hx hb hK hP hD hS 3 2 rfl rfl (vp_in_nI (n := 0) (by decide) (by decide)) d_Law_feed_15 (fun H locs hP hD hS => ?_)
    have hP : va_P g.1 classes [(h0, .inr (9, [.ref (q 0), .ref (q 1), .ref (q 2), .ref (q 3), .ref (q 4), .ref (q 5), .ref (q 6), .ref (q 7), .int ig])), ((q 0), .inr (2, [.ref r, .int (nI (n + u1))])), (r, aB g 600 (fd_f f n a b c1 d u1)), (o, aJ g 1 (vp_updL (fun _ => o0) (0 : Int32).toNatClampNeg rv.toInt64))] H := hP
    have hD : va_D A [(h0, .inr (9, [.ref (q 0), .ref (q 1), .ref (q 2), .ref (q 3), .ref (q 4), .ref (q 5), .ref (q 6), .ref (q 7), .int ig])), ((q 0), .inr (2, [.ref r, .int (nI (n + u1))])), (r, aB g 600 (fd_f f n a b c1 d u1)), (o, aJ g 1 (vp_updL (fun _ => o0) (0 : Int32).toNatClampNeg rv.toInt64))] := hD
    refine lv_goto (tgt := 27) hx hb d_Law_feed_16 (by decide) ?_
    refine lv_iconst (v := 0) hx hb d_Law_feed_27 (by decide) ?_
    exact tw_iret E hS (u1, rv.toInt64) (Or.inr (Or.inr ⟨rfl, hr.1, hr.2.1, hr.2.2.1, by rw [hr.2.2.2]⟩)) (tw_PextL hP 3 rfl (tn_out _ _)) (hD.set (p := 3) rfl) d_Law_feed_28
  · rcases hth with ⟨rfl, hc⟩ | ⟨rfl, hc⟩
    · refine tw_catch1 (f := F0 m 11 ls [.int 0, .ref o]) (own := "ShippedClassLaw") rfl hown htab rfl (by decide) (hts _ wd_1024) (hts _ wd_1032) hce ?_
      refine W.eq (g2 := F0 m 19 ls [.ref x]) rfl ?_
      refine W.widen (k := 1) (n := 6) (by decide) (by decide) ?_
      refine lv_astore hx hb d_Law_feed_19 hl (by decide) rfl (fun ls hl => ?_)
      have hl : lv_has ls 8 [(7, .ref x), (0, .ref h0), (1, .int many), (2, .int a), (3, .int b), (4, .int c1), (5, .int d), (6, .ref o)] := hl
      refine lv_iconst (v := 1) hx hb d_Law_feed_21 (by decide) ?_
      exact tw_iret E hS (0, o0) (Or.inl ⟨rfl, hc, rfl⟩) hP hD d_Law_feed_22
    · refine tw_catch2 (f := F0 m 11 ls [.int 0, .ref o]) (own := "ShippedClassLaw") rfl hown htab rfl rfl (by decide) (by decide) (hts _ wd_1024) (hts _ wd_1025) (hts _ wd_1095) (tw_nc (Vm.Alike.refl s.vm) hN.1) hce ?_
      refine W.eq (g2 := F0 m 23 ls [.ref x]) rfl ?_
      refine W.widen (k := 1) (n := 6) (by decide) (by decide) ?_
      refine lv_astore hx hb d_Law_feed_23 hl (by decide) rfl (fun ls hl => ?_)
      have hl : lv_has ls 8 [(7, .ref x), (0, .ref h0), (1, .int many), (2, .int a), (3, .int b), (4, .int c1), (5, .int d), (6, .ref o)] := hl
      refine lv_iconst (v := 2) hx hb d_Law_feed_25 (by decide) ?_
      exact tw_iret E hS (0, o0) (Or.inr (Or.inl ⟨rfl, hc, rfl⟩)) hP hD d_Law_feed_26
set_option maxHeartbeats 4000000 in
set_option maxRecDepth 100000 in
theorem c_Law_put (l : Launch) (hfl : l.flags = flags0) (g : tw_G) (sz : Nat) (h0 r n o : Nat) (q : Nat → Nat) (f : Nat → Int32) (ig pl v : Int32) (o0 : Int64) (hn : n ≤ 600) : Met l y_Law_put [.codeWith y_Law_put b_Law_put 5 (some .int) [(0, 10, 13, 21), (0, 10, 17, 13)]] ({ frames := 7, cells := 1, slots := 6, locals := 104 }) (tw_P g [.ref h0, .int pl, .int v, .ref o] [(h0, .inr (9, [.ref (q 0), .ref (q 1), .ref (q 2), .ref (q 3), .ref (q 4), .ref (q 5), .ref (q 6), .ref (q 7), .int ig])), ((q 0), .inr (2, [.ref r, .int (nI n)])), (r, aB g 600 f), (o, aJ g 1 (fun _ => o0))] sz) (tw_Qi g (fun k (u : Int32 × Nat × Int64) => k = u.1 ∧ ((k = 1 ∧ (pl < 0 ∨ nI n ≤ pl)) ∨ (k = 2 ∧ (¬ pl < 0 ∧ pl < nI n ∧ (v < 0 ∨ 255 < v))) ∨ (k = 0 ∧ pl = nI u.2.1 ∧ u.2.1 < n ∧ ¬ v < 0 ∧ v ≤ 255 ∧ u.2.2 = (f u.2.1 &&& 255).toInt64))) (fun u : Int32 × Nat × Int64 => [(h0, .inr (9, [.ref (q 0), .ref (q 1), .ref (q 2), .ref (q 3), .ref (q 4), .ref (q 5), .ref (q 6), .ref (q 7), .int ig])), ((q 0), .inr (2, [.ref r, .int (nI n)])), (r, aB g 600 (if u.1 = 0 then upd f u.2.1 v.toInt8.toInt32 else f)), (o, aJ g 1 (fun _ => u.2.2))]) (va_A [(h0, .inr (9, [.ref (q 0), .ref (q 1), .ref (q 2), .ref (q 3), .ref (q 4), .ref (q 5), .ref (q 6), .ref (q 7), .int ig])), ((q 0), .inr (2, [.ref r, .int (nI n)])), (r, aB g 600 f), (o, aJ g 1 (fun _ => o0))] sz)) 1 6 (va_A [(h0, .inr (9, [.ref (q 0), .ref (q 1), .ref (q 2), .ref (q 3), .ref (q 4), .ref (q 5), .ref (q 6), .ref (q 7), .int ig])), ((q 0), .inr (2, [.ref r, .int (nI n)])), (r, aB g 600 f), (o, aJ g 1 (fun _ => o0))] sz) := by
  refine tw_metL (l := l) (g := g) (y := y_Law_put) (cc := b_Law_put) (maxL := 5) (ret := (some .int)) (hh := [(0, 10, 13, 21), (0, 10, 17, 13)]) (rm := { frames := 7, cells := 1, slots := 6, locals := 104 }) (mc := 1) (ms := 6) (av := [.ref h0, .int pl, .int v, .ref o]) (ws := [(h0, .inr (9, [.ref (q 0), .ref (q 1), .ref (q 2), .ref (q 3), .ref (q 4), .ref (q 5), .ref (q 6), .ref (q 7), .int ig])), ((q 0), .inr (2, [.ref r, .int (nI n)])), (r, aB g 600 f), (o, aJ g 1 (fun _ => o0))]) (sz := sz) (Qc := fun A => (tw_Qi g (fun k (u : Int32 × Nat × Int64) => k = u.1 ∧ ((k = 1 ∧ (pl < 0 ∨ nI n ≤ pl)) ∨ (k = 2 ∧ (¬ pl < 0 ∧ pl < nI n ∧ (v < 0 ∨ 255 < v))) ∨ (k = 0 ∧ pl = nI u.2.1 ∧ u.2.1 < n ∧ ¬ v < 0 ∧ v ≤ 255 ∧ u.2.2 = (f u.2.1 &&& 255).toInt64))) (fun u : Int32 × Nat × Int64 => [(h0, .inr (9, [.ref (q 0), .ref (q 1), .ref (q 2), .ref (q 3), .ref (q 4), .ref (q 5), .ref (q 6), .ref (q 7), .int ig])), ((q 0), .inr (2, [.ref r, .int (nI n)])), (r, aB g 600 (if u.1 = 0 then upd f u.2.1 v.toInt8.toInt32 else f)), (o, aJ g 1 (fun _ => u.2.2))]) A)) (by decide) (Nat.le_of_ble_eq_true rfl) ?_
  intro p e s m below meth c ls H A E hB hK hZ hP hD hS hA hl htab
  have hN := hZ.2.1
  obtain ⟨hx, hb, hml, hr, hown, hts, hlocks, hin⟩ := id E
  have hl : lv_has ls 5 [(0, .ref h0), (1, .int pl), (2, .int v), (3, .ref o)] := hl
  refine lv_aload_n hx hb d_Law_put_0 rfl (lv_at hl 3 rfl) ?_
  refine lv_iconst (v := 0) hx hb d_Law_put_1 (by decide) ?_
  refine lv_aload_n hx hb d_Law_put_2 rfl (lv_at hl 0 rfl) ?_
  refine lv_iload_n hx hb d_Law_put_3 rfl (lv_at hl 1 rfl) ?_
  refine lv_iload_n hx hb d_Law_put_4 rfl (lv_at hl 2 rfl) ?_
  refine tw_callX (ws := [(h0, .inr (9, [.ref (q 0), .ref (q 1), .ref (q 2), .ref (q 3), .ref (q 4), .ref (q 5), .ref (q 6), .ref (q 7), .int ig])), ((q 0), .inr (2, [.ref r, .int (nI n)])), (r, aB g 600 f), (o, aJ g 1 (fun _ => o0))]) (wc := [(h0, .inr (9, [.ref (q 0), .ref (q 1), .ref (q 2), .ref (q 3), .ref (q 4), .ref (q 5), .ref (q 6), .ref (q 7), .int ig])), ((q 0), .inr (2, [.ref r, .int (nI n)])), (r, aB g 600 f)]) (wr := [(o, aJ g 1 (fun _ => o0))]) (As := [.int pl, .int v]) (rest := [.int 0, .ref o]) E hB hK hZ (c_Ship_put l hfl g H.size h0 r n q f ig pl v hn) mc_Ship_put mi_Ship_put me_Ship_put wd_1116 hP hD hS hA [0, 1, 2] [3] rfl rfl (by decide) (by decide) (by decide) 0 rfl rfl rfl rfl rfl (by decide) rfl hl.1 rfl (Nat.le_of_ble_eq_true rfl) (by decide) d_Law_put_5 (fun rv u1 H locs hr hP hD hS => ?_) (fun Y x H locs hth hce hP hD hS => ?_)
  · try dsimp only at hr
    have hP : va_P g.1 classes [(o, aJ g 1 (fun _ => o0)), (h0, .inr (9, [.ref (q 0), .ref (q 1), .ref (q 2), .ref (q 3), .ref (q 4), .ref (q 5), .ref (q 6), .ref (q 7), .int ig])), ((q 0), .inr (2, [.ref r, .int (nI n)])), (r, aB g 600 (upd f u1 v.toInt8.toInt32))] H := hP
    have hD : va_D A [(o, aJ g 1 (fun _ => o0)), (h0, .inr (9, [.ref (q 0), .ref (q 1), .ref (q 2), .ref (q 3), .ref (q 4), .ref (q 5), .ref (q 6), .ref (q 7), .int ig])), ((q 0), .inr (2, [.ref r, .int (nI n)])), (r, aB g 600 (upd f u1 v.toInt8.toInt32))] := hD
    refine W.widen (k := 1) (n := 6) (by decide) (by decide) ?_
    have hP : va_P g.1 classes [(h0, .inr (9, [.ref (q 0), .ref (q 1), .ref (q 2), .ref (q 3), .ref (q 4), .ref (q 5), .ref (q 6), .ref (q 7), .int ig])), ((q 0), .inr (2, [.ref r, .int (nI n)])), (r, aB g 600 (upd f u1 v.toInt8.toInt32)), (o, aJ g 1 (fun _ => o0))] H := hP.sub [1, 2, 3, 0] rfl
    have hD : va_D A [(h0, .inr (9, [.ref (q 0), .ref (q 1), .ref (q 2), .ref (q 3), .ref (q 4), .ref (q 5), .ref (q 6), .ref (q 7), .int ig])), ((q 0), .inr (2, [.ref r, .int (nI n)])), (r, aB g 600 (upd f u1 v.toInt8.toInt32)), (o, aJ g 1 (fun _ => o0))] := hD.sub [1, 2, 3, 0] (by decide) rfl
    refine lv_i2l (v := rv.toInt64) hx hb d_Law_put_8 rfl ?_
    refine va_last hx hb hK hP hD hS 3 2 rfl rfl (vp_in_nI (n := 0) (by decide) (by decide)) d_Law_put_9 (fun H locs hP hD hS => ?_)
    have hP : va_P g.1 classes [(h0, .inr (9, [.ref (q 0), .ref (q 1), .ref (q 2), .ref (q 3), .ref (q 4), .ref (q 5), .ref (q 6), .ref (q 7), .int ig])), ((q 0), .inr (2, [.ref r, .int (nI n)])), (r, aB g 600 (upd f u1 v.toInt8.toInt32)), (o, aJ g 1 (vp_updL (fun _ => o0) (0 : Int32).toNatClampNeg rv.toInt64))] H := hP
    have hD : va_D A [(h0, .inr (9, [.ref (q 0), .ref (q 1), .ref (q 2), .ref (q 3), .ref (q 4), .ref (q 5), .ref (q 6), .ref (q 7), .int ig])), ((q 0), .inr (2, [.ref r, .int (nI n)])), (r, aB g 600 (upd f u1 v.toInt8.toInt32)), (o, aJ g 1 (vp_updL (fun _ => o0) (0 : Int32).toNatClampNeg rv.toInt64))] := hD
    refine lv_goto (tgt := 21) hx hb d_Law_put_10 (by decide) ?_
    refine lv_iconst (v := 0) hx hb d_Law_put_21 (by decide) ?_
    exact tw_iret E hS (0, u1, rv.toInt64) (⟨rfl, Or.inr (Or.inr ⟨rfl, hr.1, hr.2.1, hr.2.2.1, hr.2.2.2.1, by rw [hr.2.2.2.2]⟩)⟩) (tw_PextL hP 3 rfl (tn_out _ _)) (hD.set (p := 3) rfl) d_Law_put_22
  · rcases hth with ⟨rfl, hc⟩ | ⟨rfl, hc⟩
    · refine tw_catch1 (f := F0 m 5 ls [.int 0, .ref o]) (own := "ShippedClassLaw") rfl hown htab rfl (by decide) (hts _ wd_1115) (hts _ wd_1122) hce ?_
      refine W.eq (g2 := F0 m 13 ls [.ref x]) rfl ?_
      refine W.widen (k := 1) (n := 6) (by decide) (by decide) ?_
      refine lv_astore hx hb d_Law_put_13 hl (by decide) rfl (fun ls hl => ?_)
      have hl : lv_has ls 5 [(4, .ref x), (0, .ref h0), (1, .int pl), (2, .int v), (3, .ref o)] := hl
      refine lv_iconst (v := 1) hx hb d_Law_put_15 (by decide) ?_
      exact tw_iret E hS (1, 0, o0) (⟨rfl, Or.inl ⟨rfl, hc⟩⟩) hP hD d_Law_put_16
    · refine tw_catch2 (f := F0 m 5 ls [.int 0, .ref o]) (own := "ShippedClassLaw") rfl hown htab rfl rfl (by decide) (by decide) (hts _ wd_1115) (hts _ wd_1024) (hts _ wd_1032) (tw_nc (Vm.Alike.refl s.vm) hN.2.1) hce ?_
      refine W.eq (g2 := F0 m 17 ls [.ref x]) rfl ?_
      refine W.widen (k := 1) (n := 6) (by decide) (by decide) ?_
      refine lv_astore hx hb d_Law_put_17 hl (by decide) rfl (fun ls hl => ?_)
      have hl : lv_has ls 5 [(4, .ref x), (0, .ref h0), (1, .int pl), (2, .int v), (3, .ref o)] := hl
      refine lv_iconst (v := 2) hx hb d_Law_put_19 (by decide) ?_
      exact tw_iret E hS (2, 0, o0) (⟨rfl, Or.inr (Or.inl ⟨rfl, hc⟩)⟩) hP hD d_Law_put_20
set_option maxHeartbeats 4000000 in
set_option maxRecDepth 100000 in
theorem c_Law_cut (l : Launch) (hfl : l.flags = flags0) (g : tw_G) (sz : Nat) (h0 r n o : Nat) (q : Nat → Nat) (ig kc : Int32) (o0 : Int64) (hn : n ≤ 600) : Met l y_Law_cut [.codeWith y_Law_cut b_Law_cut 4 (some .int) [(0, 9, 12, 13)]] ({ frames := 7, cells := 1, slots := 6, locals := 103 }) (tw_P g [.ref h0, .int kc, .ref o] [(h0, .inr (9, [.ref (q 0), .ref (q 1), .ref (q 2), .ref (q 3), .ref (q 4), .ref (q 5), .ref (q 6), .ref (q 7), .int ig])), ((q 0), .inr (2, [.ref r, .int (nI n)])), (o, aJ g 1 (fun _ => o0))] sz) (tw_Qi g (fun k (u : Nat × Int64) => (k = 1 ∧ (kc < 0 ∨ nI n < kc) ∧ u = (n, o0)) ∨ (k = 0 ∧ kc = nI u.1 ∧ u.1 ≤ n ∧ u.2 = (nI (n - u.1)).toInt64)) (fun u : Nat × Int64 => [(h0, .inr (9, [.ref (q 0), .ref (q 1), .ref (q 2), .ref (q 3), .ref (q 4), .ref (q 5), .ref (q 6), .ref (q 7), .int ig])), ((q 0), .inr (2, [.ref r, .int (nI u.1)])), (o, aJ g 1 (fun _ => u.2))]) (va_A [(h0, .inr (9, [.ref (q 0), .ref (q 1), .ref (q 2), .ref (q 3), .ref (q 4), .ref (q 5), .ref (q 6), .ref (q 7), .int ig])), ((q 0), .inr (2, [.ref r, .int (nI n)])), (o, aJ g 1 (fun _ => o0))] sz)) 1 6 (va_A [(h0, .inr (9, [.ref (q 0), .ref (q 1), .ref (q 2), .ref (q 3), .ref (q 4), .ref (q 5), .ref (q 6), .ref (q 7), .int ig])), ((q 0), .inr (2, [.ref r, .int (nI n)])), (o, aJ g 1 (fun _ => o0))] sz) := by
  refine tw_metL (l := l) (g := g) (y := y_Law_cut) (cc := b_Law_cut) (maxL := 4) (ret := (some .int)) (hh := [(0, 9, 12, 13)]) (rm := { frames := 7, cells := 1, slots := 6, locals := 103 }) (mc := 1) (ms := 6) (av := [.ref h0, .int kc, .ref o]) (ws := [(h0, .inr (9, [.ref (q 0), .ref (q 1), .ref (q 2), .ref (q 3), .ref (q 4), .ref (q 5), .ref (q 6), .ref (q 7), .int ig])), ((q 0), .inr (2, [.ref r, .int (nI n)])), (o, aJ g 1 (fun _ => o0))]) (sz := sz) (Qc := fun A => (tw_Qi g (fun k (u : Nat × Int64) => (k = 1 ∧ (kc < 0 ∨ nI n < kc) ∧ u = (n, o0)) ∨ (k = 0 ∧ kc = nI u.1 ∧ u.1 ≤ n ∧ u.2 = (nI (n - u.1)).toInt64)) (fun u : Nat × Int64 => [(h0, .inr (9, [.ref (q 0), .ref (q 1), .ref (q 2), .ref (q 3), .ref (q 4), .ref (q 5), .ref (q 6), .ref (q 7), .int ig])), ((q 0), .inr (2, [.ref r, .int (nI u.1)])), (o, aJ g 1 (fun _ => u.2))]) A)) (by decide) (Nat.le_of_ble_eq_true rfl) ?_
  intro p e s m below meth c ls H A E hB hK hZ hP hD hS hA hl htab
  have hN := hZ.2.1
  obtain ⟨hx, hb, hml, hr, hown, hts, hlocks, hin⟩ := id E
  have hl : lv_has ls 4 [(0, .ref h0), (1, .int kc), (2, .ref o)] := hl
  refine lv_aload_n hx hb d_Law_cut_0 rfl (lv_at hl 2 rfl) ?_
  refine lv_iconst (v := 0) hx hb d_Law_cut_1 (by decide) ?_
  refine lv_aload_n hx hb d_Law_cut_2 rfl (lv_at hl 0 rfl) ?_
  refine lv_iload_n hx hb d_Law_cut_3 rfl (lv_at hl 1 rfl) ?_
  refine tw_callX (ws := [(h0, .inr (9, [.ref (q 0), .ref (q 1), .ref (q 2), .ref (q 3), .ref (q 4), .ref (q 5), .ref (q 6), .ref (q 7), .int ig])), ((q 0), .inr (2, [.ref r, .int (nI n)])), (o, aJ g 1 (fun _ => o0))]) (wc := [(h0, .inr (9, [.ref (q 0), .ref (q 1), .ref (q 2), .ref (q 3), .ref (q 4), .ref (q 5), .ref (q 6), .ref (q 7), .int ig])), ((q 0), .inr (2, [.ref r, .int (nI n)]))]) (wr := [(o, aJ g 1 (fun _ => o0))]) (As := [.int kc]) (rest := [.int 0, .ref o]) E hB hK hZ (c_Ship_cut l hfl g H.size h0 r n q ig kc hn) mc_Ship_cut mi_Ship_cut me_Ship_cut wd_1143 hP hD hS hA [0, 1] [2] rfl rfl (by decide) (by decide) (by decide) 0 rfl rfl rfl rfl rfl (by decide) rfl hl.1 rfl (Nat.le_of_ble_eq_true rfl) (by decide) d_Law_cut_4 (fun rv u1 H locs hr hP hD hS => ?_) (fun Y x H locs hth hce hP hD hS => ?_)
  · try dsimp only at hr
    have hP : va_P g.1 classes [(o, aJ g 1 (fun _ => o0)), (h0, .inr (9, [.ref (q 0), .ref (q 1), .ref (q 2), .ref (q 3), .ref (q 4), .ref (q 5), .ref (q 6), .ref (q 7), .int ig])), ((q 0), .inr (2, [.ref r, .int (nI u1)]))] H := hP
    have hD : va_D A [(o, aJ g 1 (fun _ => o0)), (h0, .inr (9, [.ref (q 0), .ref (q 1), .ref (q 2), .ref (q 3), .ref (q 4), .ref (q 5), .ref (q 6), .ref (q 7), .int ig])), ((q 0), .inr (2, [.ref r, .int (nI u1)]))] := hD
    refine W.widen (k := 1) (n := 6) (by decide) (by decide) ?_
    have hP : va_P g.1 classes [(h0, .inr (9, [.ref (q 0), .ref (q 1), .ref (q 2), .ref (q 3), .ref (q 4), .ref (q 5), .ref (q 6), .ref (q 7), .int ig])), ((q 0), .inr (2, [.ref r, .int (nI u1)])), (o, aJ g 1 (fun _ => o0))] H := hP.sub [1, 2, 0] rfl
    have hD : va_D A [(h0, .inr (9, [.ref (q 0), .ref (q 1), .ref (q 2), .ref (q 3), .ref (q 4), .ref (q 5), .ref (q 6), .ref (q 7), .int ig])), ((q 0), .inr (2, [.ref r, .int (nI u1)])), (o, aJ g 1 (fun _ => o0))] := hD.sub [1, 2, 0] (by decide) rfl
    refine lv_i2l (v := rv.toInt64) hx hb d_Law_cut_7 rfl ?_
    refine va_last hx hb hK hP hD hS 2 2 rfl rfl (vp_in_nI (n := 0) (by decide) (by decide)) d_Law_cut_8 (fun H locs hP hD hS => ?_)
    have hP : va_P g.1 classes [(h0, .inr (9, [.ref (q 0), .ref (q 1), .ref (q 2), .ref (q 3), .ref (q 4), .ref (q 5), .ref (q 6), .ref (q 7), .int ig])), ((q 0), .inr (2, [.ref r, .int (nI u1)])), (o, aJ g 1 (vp_updL (fun _ => o0) (0 : Int32).toNatClampNeg rv.toInt64))] H := hP
    have hD : va_D A [(h0, .inr (9, [.ref (q 0), .ref (q 1), .ref (q 2), .ref (q 3), .ref (q 4), .ref (q 5), .ref (q 6), .ref (q 7), .int ig])), ((q 0), .inr (2, [.ref r, .int (nI u1)])), (o, aJ g 1 (vp_updL (fun _ => o0) (0 : Int32).toNatClampNeg rv.toInt64))] := hD
    refine lv_goto (tgt := 15) hx hb d_Law_cut_9 (by decide) ?_
    refine lv_iconst (v := 0) hx hb d_Law_cut_15 (by decide) ?_
    exact tw_iret E hS (u1, rv.toInt64) (Or.inr ⟨rfl, hr.1, hr.2.1, by rw [hr.2.2]⟩) (tw_PextL hP 2 rfl (tn_out _ _)) (hD.set (p := 2) rfl) d_Law_cut_16
  · rcases hth with ⟨rfl, hc⟩
    · refine tw_catch1 (f := F0 m 4 ls [.int 0, .ref o]) (own := "ShippedClassLaw") rfl hown htab rfl (by decide) (hts _ wd_1024) (hts _ wd_1032) hce ?_
      refine W.eq (g2 := F0 m 12 ls [.ref x]) rfl ?_
      refine W.widen (k := 1) (n := 6) (by decide) (by decide) ?_
      refine lv_astore_n hx hb d_Law_cut_12 rfl hl (by decide) rfl (fun ls hl => ?_)
      have hl : lv_has ls 4 [(3, .ref x), (0, .ref h0), (1, .int kc), (2, .ref o)] := hl
      refine lv_iconst (v := 1) hx hb d_Law_cut_13 (by decide) ?_
      exact tw_iret E hS (n, o0) (Or.inl ⟨rfl, hc, rfl⟩) hP hD d_Law_cut_14
set_option maxHeartbeats 4000000 in
set_option maxRecDepth 100000 in
theorem c_Law_limit (l : Launch) (hfl : l.flags = flags0) (g : tw_G) (sz : Nat) (h0 p0 p1 p2 o : Nat) (q : Nat → Nat) (ig mm mb wh k : Int32) (o0 : Int64) : Met l y_Law_limit [.codeWith y_Law_limit b_Law_limit 5 (some .int) [(0, 10, 13, 13)]] ({ frames := 7, cells := 1, slots := 6, locals := 104 }) (tw_P g [.ref h0, .int wh, .int k, .ref o] [(h0, .inr (9, [.ref (q 0), .ref (q 1), .ref (q 2), .ref (q 3), .ref (q 4), .ref (q 5), .ref (q 6), .ref (q 7), .int ig])), ((q 2), .inr (6, [.ref p0, .ref p1, .ref p2, .int mm, .int mb])), (o, aJ g 1 (fun _ => o0))] sz) (tw_Qi g (fun z (u : (Int32 × Int32) × Int64) => (z = 1 ∧ (wh < 0 ∨ 1 < wh ∨ k < 0 ∨ 600 < k) ∧ u = ((mm, mb), o0)) ∨ (z = 0 ∧ ¬ k < 0 ∧ k ≤ 600 ∧ ((wh = 0 ∧ u = ((k, mb), mm.toInt64)) ∨ (wh = 1 ∧ u = ((mm, k), mb.toInt64))))) (fun u : (Int32 × Int32) × Int64 => [(h0, .inr (9, [.ref (q 0), .ref (q 1), .ref (q 2), .ref (q 3), .ref (q 4), .ref (q 5), .ref (q 6), .ref (q 7), .int ig])), ((q 2), .inr (6, [.ref p0, .ref p1, .ref p2, .int u.1.1, .int u.1.2])), (o, aJ g 1 (fun _ => u.2))]) (va_A [(h0, .inr (9, [.ref (q 0), .ref (q 1), .ref (q 2), .ref (q 3), .ref (q 4), .ref (q 5), .ref (q 6), .ref (q 7), .int ig])), ((q 2), .inr (6, [.ref p0, .ref p1, .ref p2, .int mm, .int mb])), (o, aJ g 1 (fun _ => o0))] sz)) 1 6 (va_A [(h0, .inr (9, [.ref (q 0), .ref (q 1), .ref (q 2), .ref (q 3), .ref (q 4), .ref (q 5), .ref (q 6), .ref (q 7), .int ig])), ((q 2), .inr (6, [.ref p0, .ref p1, .ref p2, .int mm, .int mb])), (o, aJ g 1 (fun _ => o0))] sz) := by
  refine tw_metL (l := l) (g := g) (y := y_Law_limit) (cc := b_Law_limit) (maxL := 5) (ret := (some .int)) (hh := [(0, 10, 13, 13)]) (rm := { frames := 7, cells := 1, slots := 6, locals := 104 }) (mc := 1) (ms := 6) (av := [.ref h0, .int wh, .int k, .ref o]) (ws := [(h0, .inr (9, [.ref (q 0), .ref (q 1), .ref (q 2), .ref (q 3), .ref (q 4), .ref (q 5), .ref (q 6), .ref (q 7), .int ig])), ((q 2), .inr (6, [.ref p0, .ref p1, .ref p2, .int mm, .int mb])), (o, aJ g 1 (fun _ => o0))]) (sz := sz) (Qc := fun A => (tw_Qi g (fun z (u : (Int32 × Int32) × Int64) => (z = 1 ∧ (wh < 0 ∨ 1 < wh ∨ k < 0 ∨ 600 < k) ∧ u = ((mm, mb), o0)) ∨ (z = 0 ∧ ¬ k < 0 ∧ k ≤ 600 ∧ ((wh = 0 ∧ u = ((k, mb), mm.toInt64)) ∨ (wh = 1 ∧ u = ((mm, k), mb.toInt64))))) (fun u : (Int32 × Int32) × Int64 => [(h0, .inr (9, [.ref (q 0), .ref (q 1), .ref (q 2), .ref (q 3), .ref (q 4), .ref (q 5), .ref (q 6), .ref (q 7), .int ig])), ((q 2), .inr (6, [.ref p0, .ref p1, .ref p2, .int u.1.1, .int u.1.2])), (o, aJ g 1 (fun _ => u.2))]) A)) (by decide) (Nat.le_of_ble_eq_true rfl) ?_
  intro p e s m below meth c ls H A E hB hK hZ hP hD hS hA hl htab
  have hN := hZ.2.1
  obtain ⟨hx, hb, hml, hr, hown, hts, hlocks, hin⟩ := id E
  have hl : lv_has ls 5 [(0, .ref h0), (1, .int wh), (2, .int k), (3, .ref o)] := hl
  refine lv_aload_n hx hb d_Law_limit_0 rfl (lv_at hl 3 rfl) ?_
  refine lv_iconst (v := 0) hx hb d_Law_limit_1 (by decide) ?_
  refine lv_aload_n hx hb d_Law_limit_2 rfl (lv_at hl 0 rfl) ?_
  refine lv_iload_n hx hb d_Law_limit_3 rfl (lv_at hl 1 rfl) ?_
  refine lv_iload_n hx hb d_Law_limit_4 rfl (lv_at hl 2 rfl) ?_
  refine tw_callX (ws := [(h0, .inr (9, [.ref (q 0), .ref (q 1), .ref (q 2), .ref (q 3), .ref (q 4), .ref (q 5), .ref (q 6), .ref (q 7), .int ig])), ((q 2), .inr (6, [.ref p0, .ref p1, .ref p2, .int mm, .int mb])), (o, aJ g 1 (fun _ => o0))]) (wc := [(h0, .inr (9, [.ref (q 0), .ref (q 1), .ref (q 2), .ref (q 3), .ref (q 4), .ref (q 5), .ref (q 6), .ref (q 7), .int ig])), ((q 2), .inr (6, [.ref p0, .ref p1, .ref p2, .int mm, .int mb]))]) (wr := [(o, aJ g 1 (fun _ => o0))]) (As := [.int wh, .int k]) (rest := [.int 0, .ref o]) E hB hK hZ (c_Ship_limit l hfl g H.size h0 p0 p1 p2 q ig mm mb wh k) mc_Ship_limit mi_Ship_limit me_Ship_limit wd_1169 hP hD hS hA [0, 1] [2] rfl rfl (by decide) (by decide) (by decide) 0 rfl rfl rfl rfl rfl (by decide) rfl hl.1 rfl (Nat.le_of_ble_eq_true rfl) (by decide) d_Law_limit_5 (fun rv u1 H locs hr hP hD hS => ?_) (fun Y x H locs hth hce hP hD hS => ?_)
  · try dsimp only at hr
    have hP : va_P g.1 classes [(o, aJ g 1 (fun _ => o0)), (h0, .inr (9, [.ref (q 0), .ref (q 1), .ref (q 2), .ref (q 3), .ref (q 4), .ref (q 5), .ref (q 6), .ref (q 7), .int ig])), ((q 2), .inr (6, [.ref p0, .ref p1, .ref p2, .int u1.1, .int u1.2]))] H := hP
    have hD : va_D A [(o, aJ g 1 (fun _ => o0)), (h0, .inr (9, [.ref (q 0), .ref (q 1), .ref (q 2), .ref (q 3), .ref (q 4), .ref (q 5), .ref (q 6), .ref (q 7), .int ig])), ((q 2), .inr (6, [.ref p0, .ref p1, .ref p2, .int u1.1, .int u1.2]))] := hD
    refine W.widen (k := 1) (n := 6) (by decide) (by decide) ?_
    have hP : va_P g.1 classes [(h0, .inr (9, [.ref (q 0), .ref (q 1), .ref (q 2), .ref (q 3), .ref (q 4), .ref (q 5), .ref (q 6), .ref (q 7), .int ig])), ((q 2), .inr (6, [.ref p0, .ref p1, .ref p2, .int u1.1, .int u1.2])), (o, aJ g 1 (fun _ => o0))] H := hP.sub [1, 2, 0] rfl
    have hD : va_D A [(h0, .inr (9, [.ref (q 0), .ref (q 1), .ref (q 2), .ref (q 3), .ref (q 4), .ref (q 5), .ref (q 6), .ref (q 7), .int ig])), ((q 2), .inr (6, [.ref p0, .ref p1, .ref p2, .int u1.1, .int u1.2])), (o, aJ g 1 (fun _ => o0))] := hD.sub [1, 2, 0] (by decide) rfl
    refine lv_i2l (v := rv.toInt64) hx hb d_Law_limit_8 rfl ?_
    refine va_last hx hb hK hP hD hS 2 2 rfl rfl (vp_in_nI (n := 0) (by decide) (by decide)) d_Law_limit_9 (fun H locs hP hD hS => ?_)
    have hP : va_P g.1 classes [(h0, .inr (9, [.ref (q 0), .ref (q 1), .ref (q 2), .ref (q 3), .ref (q 4), .ref (q 5), .ref (q 6), .ref (q 7), .int ig])), ((q 2), .inr (6, [.ref p0, .ref p1, .ref p2, .int u1.1, .int u1.2])), (o, aJ g 1 (vp_updL (fun _ => o0) (0 : Int32).toNatClampNeg rv.toInt64))] H := hP
    have hD : va_D A [(h0, .inr (9, [.ref (q 0), .ref (q 1), .ref (q 2), .ref (q 3), .ref (q 4), .ref (q 5), .ref (q 6), .ref (q 7), .int ig])), ((q 2), .inr (6, [.ref p0, .ref p1, .ref p2, .int u1.1, .int u1.2])), (o, aJ g 1 (vp_updL (fun _ => o0) (0 : Int32).toNatClampNeg rv.toInt64))] := hD
    refine lv_goto (tgt := 17) hx hb d_Law_limit_10 (by decide) ?_
    refine lv_iconst (v := 0) hx hb d_Law_limit_17 (by decide) ?_
    exact tw_iret E hS (u1, rv.toInt64) (Or.inr ⟨rfl, hr.1, hr.2.1, hr.2.2.elim (fun h => Or.inl ⟨h.1, by rw [h.2.2, h.2.1]⟩) (fun h => Or.inr ⟨h.1, by rw [h.2.2, h.2.1]⟩)⟩) (tw_PextL hP 2 rfl (tn_out _ _)) (hD.set (p := 2) rfl) d_Law_limit_18
  · rcases hth with ⟨rfl, hc⟩
    · refine tw_catch1 (f := F0 m 5 ls [.int 0, .ref o]) (own := "ShippedClassLaw") rfl hown htab rfl (by decide) (hts _ wd_1024) (hts _ wd_1032) hce ?_
      refine W.eq (g2 := F0 m 13 ls [.ref x]) rfl ?_
      refine W.widen (k := 1) (n := 6) (by decide) (by decide) ?_
      refine lv_astore hx hb d_Law_limit_13 hl (by decide) rfl (fun ls hl => ?_)
      have hl : lv_has ls 5 [(4, .ref x), (0, .ref h0), (1, .int wh), (2, .int k), (3, .ref o)] := hl
      refine lv_iconst (v := 1) hx hb d_Law_limit_15 (by decide) ?_
      exact tw_iret E hS ((mm, mb), o0) (Or.inl ⟨rfl, hc, rfl⟩) hP hD d_Law_limit_16
set_option maxHeartbeats 4000000 in
set_option maxRecDepth 100000 in
theorem c_Law_rule0 (l : Launch) (hfl : l.flags = flags0) (g : tw_G) (sz : Nat) (h0 r o : Nat) (q : Nat → Nat) (ig al k : Int32) (o0 : Int64) : Met l y_Law_rule [.codeWith y_Law_rule b_Law_rule 5 (some .int) [(0, 10, 13, 13), (0, 10, 17, 15)]] ({ frames := 7, cells := 1, slots := 6, locals := 104 }) (tw_P g [.ref h0, .int al, .int k, .ref o] [(h0, .inr (9, [.ref (q 0), .ref (q 1), .ref (q 2), .ref (q 3), .ref (q 4), .ref (q 5), .ref (q 6), .ref (q 7), .int ig])), ((q 0), .inr (2, [.ref r, .int 0])), (o, aJ g 1 (fun _ => o0))] sz) (tw_Qi g (fun z _ => z = 1) (fun u : Unit => [(h0, .inr (9, [.ref (q 0), .ref (q 1), .ref (q 2), .ref (q 3), .ref (q 4), .ref (q 5), .ref (q 6), .ref (q 7), .int ig])), ((q 0), .inr (2, [.ref r, .int 0])), (o, aJ g 1 (fun _ => o0))]) (va_A [(h0, .inr (9, [.ref (q 0), .ref (q 1), .ref (q 2), .ref (q 3), .ref (q 4), .ref (q 5), .ref (q 6), .ref (q 7), .int ig])), ((q 0), .inr (2, [.ref r, .int 0])), (o, aJ g 1 (fun _ => o0))] sz)) 1 6 (va_A [(h0, .inr (9, [.ref (q 0), .ref (q 1), .ref (q 2), .ref (q 3), .ref (q 4), .ref (q 5), .ref (q 6), .ref (q 7), .int ig])), ((q 0), .inr (2, [.ref r, .int 0])), (o, aJ g 1 (fun _ => o0))] sz) := by
  refine tw_metL (l := l) (g := g) (y := y_Law_rule) (cc := b_Law_rule) (maxL := 5) (ret := (some .int)) (hh := [(0, 10, 13, 13), (0, 10, 17, 15)]) (rm := { frames := 7, cells := 1, slots := 6, locals := 104 }) (mc := 1) (ms := 6) (av := [.ref h0, .int al, .int k, .ref o]) (ws := [(h0, .inr (9, [.ref (q 0), .ref (q 1), .ref (q 2), .ref (q 3), .ref (q 4), .ref (q 5), .ref (q 6), .ref (q 7), .int ig])), ((q 0), .inr (2, [.ref r, .int 0])), (o, aJ g 1 (fun _ => o0))]) (sz := sz) (Qc := fun A => (tw_Qi g (fun z _ => z = 1) (fun u : Unit => [(h0, .inr (9, [.ref (q 0), .ref (q 1), .ref (q 2), .ref (q 3), .ref (q 4), .ref (q 5), .ref (q 6), .ref (q 7), .int ig])), ((q 0), .inr (2, [.ref r, .int 0])), (o, aJ g 1 (fun _ => o0))]) A)) (by decide) (Nat.le_of_ble_eq_true rfl) ?_
  intro p e s m below meth c ls H A E hB hK hZ hP hD hS hA hl htab
  have hN := hZ.2.1
  obtain ⟨hx, hb, hml, hr, hown, hts, hlocks, hin⟩ := id E
  have hl : lv_has ls 5 [(0, .ref h0), (1, .int al), (2, .int k), (3, .ref o)] := hl
  refine lv_aload_n hx hb d_Law_rule_0 rfl (lv_at hl 3 rfl) ?_
  refine lv_iconst (v := 0) hx hb d_Law_rule_1 (by decide) ?_
  refine lv_aload_n hx hb d_Law_rule_2 rfl (lv_at hl 0 rfl) ?_
  refine lv_iload_n hx hb d_Law_rule_3 rfl (lv_at hl 1 rfl) ?_
  refine lv_iload_n hx hb d_Law_rule_4 rfl (lv_at hl 2 rfl) ?_
  refine tw_callX (ws := [(h0, .inr (9, [.ref (q 0), .ref (q 1), .ref (q 2), .ref (q 3), .ref (q 4), .ref (q 5), .ref (q 6), .ref (q 7), .int ig])), ((q 0), .inr (2, [.ref r, .int 0])), (o, aJ g 1 (fun _ => o0))]) (wc := [(h0, .inr (9, [.ref (q 0), .ref (q 1), .ref (q 2), .ref (q 3), .ref (q 4), .ref (q 5), .ref (q 6), .ref (q 7), .int ig])), ((q 0), .inr (2, [.ref r, .int 0]))]) (wr := [(o, aJ g 1 (fun _ => o0))]) (As := [.int al, .int k]) (rest := [.int 0, .ref o]) E hB hK hZ (c_Ship_rule0 l hfl g H.size h0 r q ig al k) mc_Ship_rule mi_Ship_rule me_Ship_rule wd_1150 hP hD hS hA [0, 1] [2] rfl rfl (by decide) (by decide) (by decide) 0 rfl rfl rfl rfl rfl (by decide) rfl hl.1 rfl (Nat.le_of_ble_eq_true rfl) (by decide) d_Law_rule_5 (fun rv u1 H locs hr hP hD hS => ?_) (fun Y x H locs hth hce hP hD hS => ?_)
  · exact hr.elim
  · rcases hth with rfl
    · refine tw_catch1 (f := F0 m 5 ls [.int 0, .ref o]) (own := "ShippedClassLaw") rfl hown htab rfl (by decide) (hts _ wd_1024) (hts _ wd_1032) hce ?_
      refine W.eq (g2 := F0 m 13 ls [.ref x]) rfl ?_
      refine W.widen (k := 1) (n := 6) (by decide) (by decide) ?_
      refine lv_astore hx hb d_Law_rule_13 hl (by decide) rfl (fun ls hl => ?_)
      have hl : lv_has ls 5 [(4, .ref x), (0, .ref h0), (1, .int al), (2, .int k), (3, .ref o)] := hl
      refine lv_iconst (v := 1) hx hb d_Law_rule_15 (by decide) ?_
      exact tw_iret E hS () rfl hP hD d_Law_rule_16
set_option maxHeartbeats 4000000 in
set_option maxRecDepth 100000 in
theorem c_Law_count0 (l : Launch) (hfl : l.flags = flags0) (g : tw_G) (sz : Nat) (h0 o : Nat) (q : Nat → Nat) (a0 : Int32) (o0 : Int64) : Met l y_Law_count [.codeWith y_Law_count b_Law_count 4 (some .int) [(0, 9, 12, 15), (0, 9, 15, 13)]] ({ frames := 7, cells := 1, slots := 6, locals := 102 }) (tw_P g [.ref h0, .int a0, .ref o] [(h0, .inr (9, [.ref (q 0), .ref (q 1), .ref (q 2), .ref (q 3), .ref (q 4), .ref (q 5), .ref (q 6), .ref (q 7), .int 0])), (o, aJ g 1 (fun _ => o0))] sz) (tw_Qi g (fun z _ => z = 1) (fun u : Unit => [(h0, .inr (9, [.ref (q 0), .ref (q 1), .ref (q 2), .ref (q 3), .ref (q 4), .ref (q 5), .ref (q 6), .ref (q 7), .int 0])), (o, aJ g 1 (fun _ => o0))]) (va_A [(h0, .inr (9, [.ref (q 0), .ref (q 1), .ref (q 2), .ref (q 3), .ref (q 4), .ref (q 5), .ref (q 6), .ref (q 7), .int 0])), (o, aJ g 1 (fun _ => o0))] sz)) 1 6 (va_A [(h0, .inr (9, [.ref (q 0), .ref (q 1), .ref (q 2), .ref (q 3), .ref (q 4), .ref (q 5), .ref (q 6), .ref (q 7), .int 0])), (o, aJ g 1 (fun _ => o0))] sz) := by
  refine tw_metL (l := l) (g := g) (y := y_Law_count) (cc := b_Law_count) (maxL := 4) (ret := (some .int)) (hh := [(0, 9, 12, 15), (0, 9, 15, 13)]) (rm := { frames := 7, cells := 1, slots := 6, locals := 102 }) (mc := 1) (ms := 6) (av := [.ref h0, .int a0, .ref o]) (ws := [(h0, .inr (9, [.ref (q 0), .ref (q 1), .ref (q 2), .ref (q 3), .ref (q 4), .ref (q 5), .ref (q 6), .ref (q 7), .int 0])), (o, aJ g 1 (fun _ => o0))]) (sz := sz) (Qc := fun A => (tw_Qi g (fun z _ => z = 1) (fun u : Unit => [(h0, .inr (9, [.ref (q 0), .ref (q 1), .ref (q 2), .ref (q 3), .ref (q 4), .ref (q 5), .ref (q 6), .ref (q 7), .int 0])), (o, aJ g 1 (fun _ => o0))]) A)) (by decide) (Nat.le_of_ble_eq_true rfl) ?_
  intro p e s m below meth c ls H A E hB hK hZ hP hD hS hA hl htab
  have hN := hZ.2.1
  obtain ⟨hx, hb, hml, hr, hown, hts, hlocks, hin⟩ := id E
  have hl : lv_has ls 4 [(0, .ref h0), (1, .int a0), (2, .ref o)] := hl
  refine lv_aload_n hx hb d_Law_count_0 rfl (lv_at hl 2 rfl) ?_
  refine lv_iconst (v := 0) hx hb d_Law_count_1 (by decide) ?_
  refine lv_aload_n hx hb d_Law_count_2 rfl (lv_at hl 0 rfl) ?_
  refine lv_iload_n hx hb d_Law_count_3 rfl (lv_at hl 1 rfl) ?_
  refine tw_callX (ws := [(h0, .inr (9, [.ref (q 0), .ref (q 1), .ref (q 2), .ref (q 3), .ref (q 4), .ref (q 5), .ref (q 6), .ref (q 7), .int 0])), (o, aJ g 1 (fun _ => o0))]) (wc := [(h0, .inr (9, [.ref (q 0), .ref (q 1), .ref (q 2), .ref (q 3), .ref (q 4), .ref (q 5), .ref (q 6), .ref (q 7), .int 0]))]) (wr := [(o, aJ g 1 (fun _ => o0))]) (As := [.int a0]) (rest := [.int 0, .ref o]) E hB hK hZ (c_Ship_count0 l hfl g H.size h0 q a0) mc_Ship_count mi_Ship_count me_Ship_count wd_1176 hP hD hS hA [0] [1] rfl rfl (by decide) (by decide) (by decide) 0 rfl rfl rfl rfl rfl (by decide) rfl hl.1 rfl (Nat.le_of_ble_eq_true rfl) (by decide) d_Law_count_4 (fun rv u1 H locs hr hP hD hS => ?_) (fun Y x H locs hth hce hP hD hS => ?_)
  · exact hr.elim
  · rcases hth with rfl
    · refine tw_catch1 (f := F0 m 4 ls [.int 0, .ref o]) (own := "ShippedClassLaw") rfl hown htab rfl (by decide) (hts _ wd_1025) (hts _ wd_1095) hce ?_
      refine W.eq (g2 := F0 m 12 ls [.ref x]) rfl ?_
      refine W.widen (k := 1) (n := 6) (by decide) (by decide) ?_
      refine lv_astore_n hx hb d_Law_count_12 rfl hl (by decide) rfl (fun ls hl => ?_)
      have hl : lv_has ls 4 [(3, .ref x), (0, .ref h0), (1, .int a0), (2, .ref o)] := hl
      refine lv_iconst (v := 1) hx hb d_Law_count_13 (by decide) ?_
      exact tw_iret E hS () rfl hP hD d_Law_count_14
set_option maxHeartbeats 4000000 in
set_option maxRecDepth 100000 in
theorem c_Law_text0 (l : Launch) (hfl : l.flags = flags0) (g : tw_G) (sz : Nat) (h0 o : Nat) (q : Nat → Nat) (a0 : Int32) (a1 : Int32) (a2 : Int32) (o0 : Int64) : Met l y_Law_text [.codeWith y_Law_text b_Law_text 6 (some .int) [(0, 12, 15, 15), (0, 12, 19, 13)]] ({ frames := 7, cells := 1, slots := 6, locals := 104 }) (tw_P g [.ref h0, .int a0, .int a1, .int a2, .ref o] [(h0, .inr (9, [.ref (q 0), .ref (q 1), .ref (q 2), .ref (q 3), .ref (q 4), .ref (q 5), .ref (q 6), .ref (q 7), .int 0])), (o, aJ g 1 (fun _ => o0))] sz) (tw_Qi g (fun z _ => z = 1) (fun u : Unit => [(h0, .inr (9, [.ref (q 0), .ref (q 1), .ref (q 2), .ref (q 3), .ref (q 4), .ref (q 5), .ref (q 6), .ref (q 7), .int 0])), (o, aJ g 1 (fun _ => o0))]) (va_A [(h0, .inr (9, [.ref (q 0), .ref (q 1), .ref (q 2), .ref (q 3), .ref (q 4), .ref (q 5), .ref (q 6), .ref (q 7), .int 0])), (o, aJ g 1 (fun _ => o0))] sz)) 1 6 (va_A [(h0, .inr (9, [.ref (q 0), .ref (q 1), .ref (q 2), .ref (q 3), .ref (q 4), .ref (q 5), .ref (q 6), .ref (q 7), .int 0])), (o, aJ g 1 (fun _ => o0))] sz) := by
  refine tw_metL (l := l) (g := g) (y := y_Law_text) (cc := b_Law_text) (maxL := 6) (ret := (some .int)) (hh := [(0, 12, 15, 15), (0, 12, 19, 13)]) (rm := { frames := 7, cells := 1, slots := 6, locals := 104 }) (mc := 1) (ms := 6) (av := [.ref h0, .int a0, .int a1, .int a2, .ref o]) (ws := [(h0, .inr (9, [.ref (q 0), .ref (q 1), .ref (q 2), .ref (q 3), .ref (q 4), .ref (q 5), .ref (q 6), .ref (q 7), .int 0])), (o, aJ g 1 (fun _ => o0))]) (sz := sz) (Qc := fun A => (tw_Qi g (fun z _ => z = 1) (fun u : Unit => [(h0, .inr (9, [.ref (q 0), .ref (q 1), .ref (q 2), .ref (q 3), .ref (q 4), .ref (q 5), .ref (q 6), .ref (q 7), .int 0])), (o, aJ g 1 (fun _ => o0))]) A)) (by decide) (Nat.le_of_ble_eq_true rfl) ?_
  intro p e s m below meth c ls H A E hB hK hZ hP hD hS hA hl htab
  have hN := hZ.2.1
  obtain ⟨hx, hb, hml, hr, hown, hts, hlocks, hin⟩ := id E
  have hl : lv_has ls 6 [(0, .ref h0), (1, .int a0), (2, .int a1), (3, .int a2), (4, .ref o)] := hl
  refine lv_aload hx hb d_Law_text_0 (lv_at hl 4 rfl) ?_
  refine lv_iconst (v := 0) hx hb d_Law_text_2 (by decide) ?_
  refine lv_aload_n hx hb d_Law_text_3 rfl (lv_at hl 0 rfl) ?_
  refine lv_iload_n hx hb d_Law_text_4 rfl (lv_at hl 1 rfl) ?_
  refine lv_iload_n hx hb d_Law_text_5 rfl (lv_at hl 2 rfl) ?_
  refine lv_iload_n hx hb d_Law_text_6 rfl (lv_at hl 3 rfl) ?_
  refine tw_callX (ws := [(h0, .inr (9, [.ref (q 0), .ref (q 1), .ref (q 2), .ref (q 3), .ref (q 4), .ref (q 5), .ref (q 6), .ref (q 7), .int 0])), (o, aJ g 1 (fun _ => o0))]) (wc := [(h0, .inr (9, [.ref (q 0), .ref (q 1), .ref (q 2), .ref (q 3), .ref (q 4), .ref (q 5), .ref (q 6), .ref (q 7), .int 0]))]) (wr := [(o, aJ g 1 (fun _ => o0))]) (As := [.int a0, .int a1, .int a2]) (rest := [.int 0, .ref o]) E hB hK hZ (c_Ship_text0 l hfl g H.size h0 q a0 a1 a2) mc_Ship_text mi_Ship_text me_Ship_text wd_1198 hP hD hS hA [0] [1] rfl rfl (by decide) (by decide) (by decide) 0 rfl rfl rfl rfl rfl (by decide) rfl hl.1 rfl (Nat.le_of_ble_eq_true rfl) (by decide) d_Law_text_7 (fun rv u1 H locs hr hP hD hS => ?_) (fun Y x H locs hth hce hP hD hS => ?_)
  · exact hr.elim
  · rcases hth with rfl
    · refine tw_catch1 (f := F0 m 7 ls [.int 0, .ref o]) (own := "ShippedClassLaw") rfl hown htab rfl (by decide) (hts _ wd_1025) (hts _ wd_1095) hce ?_
      refine W.eq (g2 := F0 m 15 ls [.ref x]) rfl ?_
      refine W.widen (k := 1) (n := 6) (by decide) (by decide) ?_
      refine lv_astore hx hb d_Law_text_15 hl (by decide) rfl (fun ls hl => ?_)
      have hl : lv_has ls 6 [(5, .ref x), (0, .ref h0), (1, .int a0), (2, .int a1), (3, .int a2), (4, .ref o)] := hl
      refine lv_iconst (v := 1) hx hb d_Law_text_17 (by decide) ?_
      exact tw_iret E hS () rfl hP hD d_Law_text_18
set_option maxHeartbeats 4000000 in
set_option maxRecDepth 100000 in
theorem c_Law_depth0 (l : Launch) (hfl : l.flags = flags0) (g : tw_G) (sz : Nat) (h0 o : Nat) (q : Nat → Nat) (a0 : Int32) (a1 : Int32) (o0 : Int64) : Met l y_Law_depth [.codeWith y_Law_depth b_Law_depth 5 (some .int) [(0, 10, 13, 15)]] ({ frames := 7, cells := 1, slots := 6, locals := 103 }) (tw_P g [.ref h0, .int a0, .int a1, .ref o] [(h0, .inr (9, [.ref (q 0), .ref (q 1), .ref (q 2), .ref (q 3), .ref (q 4), .ref (q 5), .ref (q 6), .ref (q 7), .int 0])), (o, aJ g 1 (fun _ => o0))] sz) (tw_Qi g (fun z _ => z = 1) (fun u : Unit => [(h0, .inr (9, [.ref (q 0), .ref (q 1), .ref (q 2), .ref (q 3), .ref (q 4), .ref (q 5), .ref (q 6), .ref (q 7), .int 0])), (o, aJ g 1 (fun _ => o0))]) (va_A [(h0, .inr (9, [.ref (q 0), .ref (q 1), .ref (q 2), .ref (q 3), .ref (q 4), .ref (q 5), .ref (q 6), .ref (q 7), .int 0])), (o, aJ g 1 (fun _ => o0))] sz)) 1 6 (va_A [(h0, .inr (9, [.ref (q 0), .ref (q 1), .ref (q 2), .ref (q 3), .ref (q 4), .ref (q 5), .ref (q 6), .ref (q 7), .int 0])), (o, aJ g 1 (fun _ => o0))] sz) := by
  refine tw_metL (l := l) (g := g) (y := y_Law_depth) (cc := b_Law_depth) (maxL := 5) (ret := (some .int)) (hh := [(0, 10, 13, 15)]) (rm := { frames := 7, cells := 1, slots := 6, locals := 103 }) (mc := 1) (ms := 6) (av := [.ref h0, .int a0, .int a1, .ref o]) (ws := [(h0, .inr (9, [.ref (q 0), .ref (q 1), .ref (q 2), .ref (q 3), .ref (q 4), .ref (q 5), .ref (q 6), .ref (q 7), .int 0])), (o, aJ g 1 (fun _ => o0))]) (sz := sz) (Qc := fun A => (tw_Qi g (fun z _ => z = 1) (fun u : Unit => [(h0, .inr (9, [.ref (q 0), .ref (q 1), .ref (q 2), .ref (q 3), .ref (q 4), .ref (q 5), .ref (q 6), .ref (q 7), .int 0])), (o, aJ g 1 (fun _ => o0))]) A)) (by decide) (Nat.le_of_ble_eq_true rfl) ?_
  intro p e s m below meth c ls H A E hB hK hZ hP hD hS hA hl htab
  have hN := hZ.2.1
  obtain ⟨hx, hb, hml, hr, hown, hts, hlocks, hin⟩ := id E
  have hl : lv_has ls 5 [(0, .ref h0), (1, .int a0), (2, .int a1), (3, .ref o)] := hl
  refine lv_aload_n hx hb d_Law_depth_0 rfl (lv_at hl 3 rfl) ?_
  refine lv_iconst (v := 0) hx hb d_Law_depth_1 (by decide) ?_
  refine lv_aload_n hx hb d_Law_depth_2 rfl (lv_at hl 0 rfl) ?_
  refine lv_iload_n hx hb d_Law_depth_3 rfl (lv_at hl 1 rfl) ?_
  refine lv_iload_n hx hb d_Law_depth_4 rfl (lv_at hl 2 rfl) ?_
  refine tw_callX (ws := [(h0, .inr (9, [.ref (q 0), .ref (q 1), .ref (q 2), .ref (q 3), .ref (q 4), .ref (q 5), .ref (q 6), .ref (q 7), .int 0])), (o, aJ g 1 (fun _ => o0))]) (wc := [(h0, .inr (9, [.ref (q 0), .ref (q 1), .ref (q 2), .ref (q 3), .ref (q 4), .ref (q 5), .ref (q 6), .ref (q 7), .int 0]))]) (wr := [(o, aJ g 1 (fun _ => o0))]) (As := [.int a0, .int a1]) (rest := [.int 0, .ref o]) E hB hK hZ (c_Ship_depth0 l hfl g H.size h0 q a0 a1) mc_Ship_depth mi_Ship_depth me_Ship_depth wd_1218 hP hD hS hA [0] [1] rfl rfl (by decide) (by decide) (by decide) 0 rfl rfl rfl rfl rfl (by decide) rfl hl.1 rfl (Nat.le_of_ble_eq_true rfl) (by decide) d_Law_depth_5 (fun rv u1 H locs hr hP hD hS => ?_) (fun Y x H locs hth hce hP hD hS => ?_)
  · exact hr.elim
  · rcases hth with rfl
    · refine tw_catch1 (f := F0 m 5 ls [.int 0, .ref o]) (own := "ShippedClassLaw") rfl hown htab rfl (by decide) (hts _ wd_1025) (hts _ wd_1095) hce ?_
      refine W.eq (g2 := F0 m 13 ls [.ref x]) rfl ?_
      refine W.widen (k := 1) (n := 6) (by decide) (by decide) ?_
      refine lv_astore hx hb d_Law_depth_13 hl (by decide) rfl (fun ls hl => ?_)
      have hl : lv_has ls 5 [(4, .ref x), (0, .ref h0), (1, .int a0), (2, .int a1), (3, .ref o)] := hl
      refine lv_iconst (v := 1) hx hb d_Law_depth_15 (by decide) ?_
      exact tw_iret E hS () rfl hP hD d_Law_depth_16
set_option maxHeartbeats 4000000 in
set_option maxRecDepth 100000 in
theorem c_Law_kind0 (l : Launch) (hfl : l.flags = flags0) (g : tw_G) (sz : Nat) (h0 o : Nat) (q : Nat → Nat) (a0 : Int32) (a1 : Int32) (a2 : Int32) (a3 : Int32) (o0 : Int64) : Met l y_Law_kind [.codeWith y_Law_kind b_Law_kind 7 (some .int) [(0, 14, 17, 15)]] ({ frames := 7, cells := 1, slots := 6, locals := 108 }) (tw_P g [.ref h0, .int a0, .int a1, .int a2, .int a3, .ref o] [(h0, .inr (9, [.ref (q 0), .ref (q 1), .ref (q 2), .ref (q 3), .ref (q 4), .ref (q 5), .ref (q 6), .ref (q 7), .int 0])), (o, aJ g 1 (fun _ => o0))] sz) (tw_Qi g (fun z _ => z = 1) (fun u : Unit => [(h0, .inr (9, [.ref (q 0), .ref (q 1), .ref (q 2), .ref (q 3), .ref (q 4), .ref (q 5), .ref (q 6), .ref (q 7), .int 0])), (o, aJ g 1 (fun _ => o0))]) (va_A [(h0, .inr (9, [.ref (q 0), .ref (q 1), .ref (q 2), .ref (q 3), .ref (q 4), .ref (q 5), .ref (q 6), .ref (q 7), .int 0])), (o, aJ g 1 (fun _ => o0))] sz)) 1 6 (va_A [(h0, .inr (9, [.ref (q 0), .ref (q 1), .ref (q 2), .ref (q 3), .ref (q 4), .ref (q 5), .ref (q 6), .ref (q 7), .int 0])), (o, aJ g 1 (fun _ => o0))] sz) := by
  refine tw_metL (l := l) (g := g) (y := y_Law_kind) (cc := b_Law_kind) (maxL := 7) (ret := (some .int)) (hh := [(0, 14, 17, 15)]) (rm := { frames := 7, cells := 1, slots := 6, locals := 108 }) (mc := 1) (ms := 6) (av := [.ref h0, .int a0, .int a1, .int a2, .int a3, .ref o]) (ws := [(h0, .inr (9, [.ref (q 0), .ref (q 1), .ref (q 2), .ref (q 3), .ref (q 4), .ref (q 5), .ref (q 6), .ref (q 7), .int 0])), (o, aJ g 1 (fun _ => o0))]) (sz := sz) (Qc := fun A => (tw_Qi g (fun z _ => z = 1) (fun u : Unit => [(h0, .inr (9, [.ref (q 0), .ref (q 1), .ref (q 2), .ref (q 3), .ref (q 4), .ref (q 5), .ref (q 6), .ref (q 7), .int 0])), (o, aJ g 1 (fun _ => o0))]) A)) (by decide) (Nat.le_of_ble_eq_true rfl) ?_
  intro p e s m below meth c ls H A E hB hK hZ hP hD hS hA hl htab
  have hN := hZ.2.1
  obtain ⟨hx, hb, hml, hr, hown, hts, hlocks, hin⟩ := id E
  have hl : lv_has ls 7 [(0, .ref h0), (1, .int a0), (2, .int a1), (3, .int a2), (4, .int a3), (5, .ref o)] := hl
  refine lv_aload hx hb d_Law_kind_0 (lv_at hl 5 rfl) ?_
  refine lv_iconst (v := 0) hx hb d_Law_kind_2 (by decide) ?_
  refine lv_aload_n hx hb d_Law_kind_3 rfl (lv_at hl 0 rfl) ?_
  refine lv_iload_n hx hb d_Law_kind_4 rfl (lv_at hl 1 rfl) ?_
  refine lv_iload_n hx hb d_Law_kind_5 rfl (lv_at hl 2 rfl) ?_
  refine lv_iload_n hx hb d_Law_kind_6 rfl (lv_at hl 3 rfl) ?_
  refine lv_iload hx hb d_Law_kind_7 (lv_at hl 4 rfl) ?_
  refine tw_callX (ws := [(h0, .inr (9, [.ref (q 0), .ref (q 1), .ref (q 2), .ref (q 3), .ref (q 4), .ref (q 5), .ref (q 6), .ref (q 7), .int 0])), (o, aJ g 1 (fun _ => o0))]) (wc := [(h0, .inr (9, [.ref (q 0), .ref (q 1), .ref (q 2), .ref (q 3), .ref (q 4), .ref (q 5), .ref (q 6), .ref (q 7), .int 0]))]) (wr := [(o, aJ g 1 (fun _ => o0))]) (As := [.int a0, .int a1, .int a2, .int a3]) (rest := [.int 0, .ref o]) E hB hK hZ (c_Ship_kind0 l hfl g H.size h0 q a0 a1 a2 a3) mc_Ship_kind mi_Ship_kind me_Ship_kind wd_1234 hP hD hS hA [0] [1] rfl rfl (by decide) (by decide) (by decide) 0 rfl rfl rfl rfl rfl (by decide) rfl hl.1 rfl (Nat.le_of_ble_eq_true rfl) (by decide) d_Law_kind_9 (fun rv u1 H locs hr hP hD hS => ?_) (fun Y x H locs hth hce hP hD hS => ?_)
  · exact hr.elim
  · rcases hth with rfl
    · refine tw_catch1 (f := F0 m 9 ls [.int 0, .ref o]) (own := "ShippedClassLaw") rfl hown htab rfl (by decide) (hts _ wd_1025) (hts _ wd_1095) hce ?_
      refine W.eq (g2 := F0 m 17 ls [.ref x]) rfl ?_
      refine W.widen (k := 1) (n := 6) (by decide) (by decide) ?_
      refine lv_astore hx hb d_Law_kind_17 hl (by decide) rfl (fun ls hl => ?_)
      have hl : lv_has ls 7 [(6, .ref x), (0, .ref h0), (1, .int a0), (2, .int a1), (3, .int a2), (4, .int a3), (5, .ref o)] := hl
      refine lv_iconst (v := 1) hx hb d_Law_kind_19 (by decide) ?_
      exact tw_iret E hS () rfl hP hD d_Law_kind_20
end
section
/-! Where both answer to one call: the class's helper and the reference say the same. -/
theorem fd_no1 {many : Int32} {u : Nat} (h : many < 0 ∨ 16 < many) (e : many = nI u) (hu : u ≤ 16) : False := by
  subst e
  rcases h with h | h
  · exact nI_pos (by omega) h
  · exact nI_nlt (a := 16) (b := u) hu (by omega) h |>.elim
theorem fd_no2 {many : Int32} {n u : Nat} (h : 600 < nI n + many) (e : many = nI u) (hu : n + u ≤ 600) : False := by
  subst e
  rw [nI_add] at h
  exact nI_nlt (a := 600) (b := n + u) hu (by omega) h
theorem fd_no3 {many : Int32} (h : many < 0 ∨ 16 < many) (h1 : ¬ many < 0) (h2 : many ≤ 16) : False := by
  rcases h with h | h
  · exact h1 h
  · exact Int32.not_lt.mpr h2 h
theorem nI_inj {a b : Nat} (h : nI a = nI b) (ha : a < 2 ^ 31) (hb : b < 2 ^ 31) : a = b := (nI_eq ha hb).mp h
theorem ag_feed {n : Nat} {many k r : Int32} {u : Nat × Int64} {w : Int32 × Nat} {o0 : Int64}
    (h1 : (k = 1 ∧ (many < 0 ∨ 16 < many) ∧ u = (0, o0)) ∨ (k = 2 ∧ (¬ many < 0 ∧ many ≤ 16 ∧ 600 < nI n + many) ∧ u = (0, o0)) ∨ (k = 0 ∧ many = nI u.1 ∧ u.1 ≤ 16 ∧ n + u.1 ≤ 600 ∧ u.2 = (nI (n + u.1)).toInt64))
    (h2 : (w = (1, 0) ∧ (many < 0 ∨ 16 < many)) ∨ (w = (2, 0) ∧ ¬ many < 0 ∧ many ≤ 16 ∧ 600 < nI n + many) ∨ (w.1 = 0 ∧ many = nI w.2 ∧ w.2 ≤ 16 ∧ n + w.2 ≤ 600 ∧ r = nI (n + w.2))) : w.1 = k ∧ (k = 0 → u.2 = r.toInt64) := by
  rcases h1 with ⟨rfl, c1, -⟩ | ⟨rfl, c2, -⟩ | ⟨rfl, e1, e2, e3, e4⟩ <;> rcases h2 with ⟨rfl, d1⟩ | ⟨rfl, d2, d3, d4⟩ | ⟨d0, d1, d2, d3, d4⟩
  · exact ⟨rfl, fun h => absurd h (by decide)⟩
  · exact (fd_no3 c1 d2 d3).elim
  · exact (fd_no1 c1 d1 d2).elim
  · exact (fd_no3 d1 c2.1 c2.2.1).elim
  · exact ⟨rfl, fun h => absurd h (by decide)⟩
  · exact (fd_no2 c2.2.2 d1 d3).elim
  · exact (fd_no1 d1 e1 e2).elim
  · exact (fd_no2 d4 e1 e3).elim
  · have := nI_inj (e1.symm.trans d1) (by omega) (by omega)
    exact ⟨d0, fun _ => by rw [e4, d4, this]⟩
theorem ag_put {n : Nat} {pl v k r : Int32} {f fm : Nat → Int32} {u : Int32 × Nat × Int64} {w : Int32 × Nat} (hn : n ≤ 600) (hf : ∀ j, j < n → f j &&& 255 = fm j)
    (h1 : k = u.1 ∧ ((k = 1 ∧ (pl < 0 ∨ nI n ≤ pl)) ∨ (k = 2 ∧ (¬ pl < 0 ∧ pl < nI n ∧ (v < 0 ∨ 255 < v))) ∨ (k = 0 ∧ pl = nI u.2.1 ∧ u.2.1 < n ∧ ¬ v < 0 ∧ v ≤ 255 ∧ u.2.2 = (f u.2.1 &&& 255).toInt64)))
    (h2 : (w.1 = 1 ∧ (pl < 0 ∨ nI n ≤ pl)) ∨ (w.1 = 2 ∧ ¬ pl < 0 ∧ pl < nI n ∧ (v < 0 ∨ 255 < v)) ∨ (w.1 = 0 ∧ pl = nI w.2 ∧ w.2 < n ∧ ¬ v < 0 ∧ v ≤ 255 ∧ r = fm w.2)) : w.1 = k ∧ (k = 0 → u.2.2 = r.toInt64) := by
  have no1 : ∀ {j : Nat}, (pl < 0 ∨ nI n ≤ pl) → pl = nI j → j < n → False := by
    intro j h e hj
    subst e
    exact h.elim (nI_pos (by omega)) (nI_ge hj (by omega))
  have no2 : (pl < 0 ∨ nI n ≤ pl) → ¬ pl < 0 → pl < nI n → False := fun h h1 h2 => h.elim h1 (Int32.not_le.mpr h2)
  have no3 : (v < 0 ∨ 255 < v) → ¬ v < 0 → v ≤ 255 → False := fun h h1 h2 => h.elim h1 (Int32.not_lt.mpr h2)
  rcases h1 with ⟨-, ⟨rfl, c1⟩ | ⟨rfl, c2, c3, c4⟩ | ⟨rfl, e1, e2, e3, e4, e5⟩⟩ <;> rcases h2 with ⟨d0, d1⟩ | ⟨d0, d1, d2, d3⟩ | ⟨d0, d1, d2, d3, d4, d5⟩
  · exact ⟨d0, fun h => absurd h (by decide)⟩
  · exact (no2 c1 d1 d2).elim
  · exact (no1 c1 d1 d2).elim
  · exact (no2 d1 c2 c3).elim
  · exact ⟨d0, fun h => absurd h (by decide)⟩
  · exact (no3 c4 d3 d4).elim
  · exact (no1 d1 e1 e2).elim
  · exact (no3 d3 e3 e4).elim
  · have := nI_inj (e1.symm.trans d1) (by omega) (by omega)
    exact ⟨d0, fun _ => by rw [e5, d5, hf _ e2, this]⟩
theorem ag_cut {n : Nat} {kc k r : Int32} {u : Nat × Int64} {w : Int32 × Nat} {o0 : Int64} (hn : n ≤ 600)
    (h1 : (k = 1 ∧ (kc < 0 ∨ nI n < kc) ∧ u = (n, o0)) ∨ (k = 0 ∧ kc = nI u.1 ∧ u.1 ≤ n ∧ u.2 = (nI (n - u.1)).toInt64))
    (h2 : (w = (1, n) ∧ (kc < 0 ∨ nI n < kc)) ∨ (w.1 = 0 ∧ kc = nI w.2 ∧ w.2 ≤ n ∧ r = nI (n - w.2))) : w.1 = k ∧ (k = 0 → u.2 = r.toInt64) := by
  have no1 : ∀ {j : Nat}, (kc < 0 ∨ nI n < kc) → kc = nI j → j ≤ n → False := by
    intro j h e hj
    subst e
    exact h.elim (nI_pos (by omega)) (nI_nlt hj (by omega))
  rcases h1 with ⟨rfl, c1, -⟩ | ⟨rfl, e1, e2, e3⟩ <;> rcases h2 with ⟨rfl, d1⟩ | ⟨d0, d1, d2, d3⟩
  · exact ⟨rfl, fun h => absurd h (by decide)⟩
  · exact (no1 c1 d1 d2).elim
  · exact (no1 d1 e1 e2).elim
  · have := nI_inj (e1.symm.trans d1) (by omega) (by omega)
    exact ⟨d0, fun _ => by rw [e3, d3, this]⟩
theorem ag_limit {mm mb wh k z r : Int32} {u : (Int32 × Int32) × Int64} {w : Int32 × Int32 × Int32} {o0 : Int64}
    (h1 : (z = 1 ∧ (wh < 0 ∨ 1 < wh ∨ k < 0 ∨ 600 < k) ∧ u = ((mm, mb), o0)) ∨ (z = 0 ∧ ¬ k < 0 ∧ k ≤ 600 ∧ ((wh = 0 ∧ u = ((k, mb), mm.toInt64)) ∨ (wh = 1 ∧ u = ((mm, k), mb.toInt64)))))
    (h2 : (w = (1, mm, mb) ∧ (wh < 0 ∨ 1 < wh ∨ k < 0 ∨ 600 < k)) ∨ (w.1 = 0 ∧ ¬ k < 0 ∧ k ≤ 600 ∧ ((wh = 0 ∧ r = mm ∧ w.2 = (k, mb)) ∨ (wh = 1 ∧ r = mb ∧ w.2 = (mm, k))))) : w.1 = z ∧ (z = 0 → u.2 = r.toInt64) := by
  have no1 : (wh < 0 ∨ 1 < wh ∨ k < 0 ∨ 600 < k) → ¬ k < 0 → k ≤ 600 → (wh = 0 ∨ wh = 1) → False := by
    intro h g1 g2 g3
    rcases g3 with rfl | rfl <;> rcases h with h | h | h | h
    · exact absurd h (by decide)
    · exact absurd h (by decide)
    · exact g1 h
    · exact Int32.not_lt.mpr g2 h
    · exact absurd h (by decide)
    · exact absurd h (by decide)
    · exact g1 h
    · exact Int32.not_lt.mpr g2 h
  rcases h1 with ⟨rfl, c1, -⟩ | ⟨rfl, e1, e2, e3⟩ <;> rcases h2 with ⟨rfl, d1⟩ | ⟨d0, d1, d2, d3⟩
  · exact ⟨rfl, fun h => absurd h (by decide)⟩
  · exact (no1 c1 d1 d2 (d3.elim (fun h => Or.inl h.1) (fun h => Or.inr h.1))).elim
  · exact (no1 d1 e1 e2 (e3.elim (fun h => Or.inl h.1) (fun h => Or.inr h.1))).elim
  · refine ⟨d0, fun _ => ?_⟩
    rcases e3 with ⟨rfl, rfl⟩ | ⟨rfl, rfl⟩ <;> rcases d3 with ⟨q, d3, -⟩ | ⟨q, d3, -⟩
    · rw [d3]
    · exact absurd q (by decide)
    · exact absurd q (by decide)
    · rw [d3]
/-- which classes and array classes there are -/
theorem tw_Kex {s : State} (hB : tw_B s) (sk sv : Nat → Nat) : ∃ g : tw_G, va_K g.1 classes (tw_ty g) s ∧ g.2.2 = (sk, sv) := by
  have hts := hB.at (args := #[])
  have ar : ∀ {ty : FieldType}, (∀ (U : State) (q : ClassId), va_RA U q ty = (U.vm.findClass ("[" ++ ty.toString) = some q)) → (Cond.arrayClass ty).before #[] s = true → ∃ cA : ClassId, ArrOfT s cA ty ∧ va_RA s cA ty := by
    intro ty hra h
    obtain ⟨cA, kA, comp, hfind, hk, hkind⟩ := Cond.arrayClass_spec h
    exact ⟨cA, fun n z => ⟨fun k h => (by cases h), kA, hk, comp, hkind⟩, by rw [hra]; exact hfind⟩
  obtain ⟨c0, a0, b0⟩ := ar (ty := .int) (fun _ _ => rfl) (hts _ wd_94)
  obtain ⟨c1, a1, b1⟩ := ar (ty := .byte) (fun _ _ => rfl) (hts _ wd_52)
  obtain ⟨c2, a2, b2⟩ := ar (ty := .long) (fun _ _ => rfl) (hts _ wd_210)
  obtain ⟨c3, a3, b3⟩ := ar (ty := .boolean) (fun _ _ => rfl) (hts _ wd_1434)
  obtain ⟨k0, i0, h0⟩ := u_known hts in_Finding (hts _ wd_54)
  obtain ⟨k1, i1, h1⟩ := u_known hts in_Frames (hts _ wd_220)
  obtain ⟨k2, i2, h2⟩ := u_known hts in_Image (hts _ wd_37)
  obtain ⟨k3, i3, h3⟩ := u_known hts in_Layout (hts _ wd_212)
  obtain ⟨k4, i4, h4⟩ := u_known hts in_Linker (hts _ wd_115)
  obtain ⟨k5, i5, h5⟩ := u_known hts in_Machine (hts _ wd_137)
  obtain ⟨k6, i6, h6⟩ := u_known hts in_Policy (hts _ wd_70)
  obtain ⟨k7, i7, h7⟩ := u_known hts in_Reader (hts _ wd_96)
  obtain ⟨k8, i8, h8⟩ := u_known hts in_Verifier (hts _ wd_131)
  obtain ⟨k9, i9, h9⟩ := u_known hts in_Ship (hts _ wd_29)
  obtain ⟨k10, i10, h10⟩ := u_known hts in_Mod (hts _ wd_1244)
  refine ⟨((fun k => [k0, k1, k2, k3, k4, k5, k6, k7, k8, k9, k10].getD k 0, fun k => [i0, i1, i2, i3, i4, i5, i6, i7, i8, i9, i10].getD k (fun _ => 0)), (fun k => [c0, c1, c2, c3].getD k 0, sk, sv)), ⟨fun c q hc => ?_, fun k q hk => ?_⟩, rfl⟩
  · have hlt : c < 11 := (List.getElem?_eq_some_iff.mp hc).1
    rcases (show c = 0 ∨ c = 1 ∨ c = 2 ∨ c = 3 ∨ c = 4 ∨ c = 5 ∨ c = 6 ∨ c = 7 ∨ c = 8 ∨ c = 9 ∨ c = 10 by omega) with rfl | rfl | rfl | rfl | rfl | rfl | rfl | rfl | rfl | rfl | rfl <;> cases hc
    · exact h0
    · exact h1
    · exact h2
    · exact h3
    · exact h4
    · exact h5
    · exact h6
    · exact h7
    · exact h8
    · exact h9
    · exact h10
  · have hlt : k < 4 := (List.getElem?_eq_some_iff.mp hk).1
    rcases (show k = 0 ∨ k = 1 ∨ k = 2 ∨ k = 3 by omega) with rfl | rfl | rfl | rfl <;> cases hk
    · exact ⟨a0, b0⟩
    · exact ⟨a1, b1⟩
    · exact ⟨a2, b2⟩
    · exact ⟨a3, b3⟩
end
section
/-! Safety: what a layout holds, and what is always true of it. -/
abbrev LY : Type := Nat × (Nat → Int32) × Nat × (Nat → Int64) × (Nat → Int32) × (Nat → Int32) × (Nat → Int32) × (Nat → Int32) × (Nat → Int32) × (Nat → Int32) × (Nat → Int32) × (Nat → Int32) × (Nat → Int32) × (Nat → Int32) × Int32 × Int32 × Int32 × Nat × Nat × Int32
abbrev LY.n (v : LY) : Nat := v.1
abbrev LY.b (v : LY) : Nat → Int32 := v.2.1
abbrev LY.lo (v : LY) : Nat := v.2.2.1
abbrev LY.rw (v : LY) : Nat → Int64 := v.2.2.2.1
abbrev LY.bg (v : LY) : Nat → Int32 := v.2.2.2.2.1
abbrev LY.wt (v : LY) : Nat → Int32 := v.2.2.2.2.2.1
abbrev LY.dp (v : LY) : Nat → Int32 := v.2.2.2.2.2.2.1
abbrev LY.tg (v : LY) : Nat → Int32 := v.2.2.2.2.2.2.2.1
abbrev LY.ca (v : LY) : Nat → Int32 := v.2.2.2.2.2.2.2.2.1
abbrev LY.fs (v : LY) : Nat → Int32 := v.2.2.2.2.2.2.2.2.2.1
abbrev LY.sc (v : LY) : Nat → Int32 := v.2.2.2.2.2.2.2.2.2.2.1
abbrev LY.fa (v : LY) : Nat → Int32 := v.2.2.2.2.2.2.2.2.2.2.2.1
abbrev LY.ma (v : LY) : Nat → Int32 := v.2.2.2.2.2.2.2.2.2.2.2.2.1
abbrev LY.co (v : LY) : Nat → Int32 := v.2.2.2.2.2.2.2.2.2.2.2.2.2.1
abbrev LY.nu (v : LY) : Int32 := v.2.2.2.2.2.2.2.2.2.2.2.2.2.2.1
abbrev LY.th (v : LY) : Int32 := v.2.2.2.2.2.2.2.2.2.2.2.2.2.2.2.1
abbrev LY.it (v : LY) : Int32 := v.2.2.2.2.2.2.2.2.2.2.2.2.2.2.2.2.1
abbrev LY.fi (v : LY) : Nat := v.2.2.2.2.2.2.2.2.2.2.2.2.2.2.2.2.2.1
abbrev LY.me (v : LY) : Nat := v.2.2.2.2.2.2.2.2.2.2.2.2.2.2.2.2.2.2.1
abbrev LY.mp (v : LY) : Int32 := v.2.2.2.2.2.2.2.2.2.2.2.2.2.2.2.2.2.2.2
def LI (v : LY) : Prop := (v.n ≤ 600) ∧ (v.lo ≤ 600) ∧ (v.fi ≤ 75) ∧ (v.me ≤ 75) ∧ (∀ p, p < 600 → v.dp p = -1 ∨ ∃ d, d ≤ 64 ∧ v.dp p = nI d) ∧ (∀ p, p < 600 → (v.rw (8 * p)) &&& 15 ≠ 3) ∧ (∀ p, p < 600 → v.wt p = 1 → ¬ v.dp p = -1)
theorem LI.n {v : LY} (h : LI v) : v.n ≤ 600 := h.1
theorem LI.lo {v : LY} (h : LI v) : v.lo ≤ 600 := h.2.1
theorem LI.fi {v : LY} (h : LI v) : v.fi ≤ 75 := h.2.2.1
theorem LI.me {v : LY} (h : LI v) : v.me ≤ 75 := h.2.2.2.1
theorem LI.dp {v : LY} (h : LI v) : ∀ p, p < 600 → v.dp p = -1 ∨ ∃ d, d ≤ 64 ∧ v.dp p = nI d := h.2.2.2.2.1
theorem LI.s0 {v : LY} (h : LI v) : ∀ p, p < 600 → (v.rw (8 * p)) &&& 15 ≠ 3 := h.2.2.2.2.2.1
theorem LI.w0 {v : LY} (h : LI v) : ∀ p, p < 600 → v.wt p = 1 → ¬ v.dp p = -1 := h.2.2.2.2.2.2
/-- how far it is from one number to another -/
def ims (a b : Int32) : Nat := (b.toInt - a.toInt).toNat
theorem ims_succ {a b : Int32} (h : a < b) : (a + 1).toInt = a.toInt + 1 := by
  rw [Int32.lt_iff_toInt_lt] at h
  have h2 := Int32.toInt_lt b
  have h3 := Int32.le_toInt a
  rw [Int32.toInt_add]
  have e : (1 : Int32).toInt = 1 := by decide
  rw [e]
  apply Int.bmod_eq_of_le <;> omega
theorem ims_dec {a b : Int32} (h : ¬ b ≤ a) : ims (a + 1) b < ims a b := by
  have h := Int32.not_le.mp h
  have e := ims_succ h
  rw [Int32.lt_iff_toInt_lt] at h
  unfold ims
  omega
theorem tn_z {r : Int32} (h : r = 0 ∨ r = 1) : narrow .boolean (.int r) = .int r := by rcases h with rfl | rfl <;> decide
theorem tn_gin {k : Int32} {N : Nat} (h1 : ¬ k ≤ 0) (h2 : ¬ nI N ≤ k) (hN : N < 2 ^ 31) : vp_in k N := tn_in (n := N) (fun h => h1 (Int32.le_of_lt h)) h2 (Nat.le_refl _) hN
/-! where a switch goes to, whatever it is asked -/
theorem sw_nil (d x : Int) : Op.lookupswitch.offset [] d x = d := rfl
theorem sw_lk (T : List Int) : ∀ (ps : List (Int × Int)) (d x : Int), T.contains d = true → ps.all (fun q => T.contains q.2) = true → Op.lookupswitch.offset ps d x ∈ T := by
  intro ps
  induction ps with
  | nil => intro d x h1 _; rw [sw_nil]; exact List.contains_iff_mem.mp h1
  | cons q r ih =>
    intro d x h1 h2
    obtain ⟨a, o⟩ := q
    simp only [List.all_cons, Bool.and_eq_true] at h2
    rw [Op.lookupswitch.offset_cons]
    split
    · exact List.contains_iff_mem.mp h2.1
    · exact ih d x h1 h2.2
theorem sw_tb (T : List Int) (offs : Array Int) (lo hi x : Int) (h1 : ¬ x < lo) (h2 : ¬ hi < x) (h3 : (hi - lo + 1).toNat ≤ offs.size) (h4 : offs.toList.all (fun q => T.contains q) = true) : ∃ off ∈ T, offs[(x - lo).toNat]? = some off := by
  have hlt : (x - lo).toNat < offs.size := by omega
  refine ⟨offs[(x - lo).toNat], ?_, Array.getElem?_eq_getElem hlt⟩
  have := List.all_eq_true.mp h4 offs[(x - lo).toNat] (by simp)
  exact List.contains_iff_mem.mp this
theorem sf_two {f : Nat → Int32} {n : Nat} {i i2 r1 x2 r4 x5 : Int32} (h1 : r1 = im_b f n i) (h4 : r4 = im_b f n i2) (e2 : r1 <<< (8 &&& 31) = x2) (e5 : x2 ||| r4 = x5) : ∃ j, j < 65536 ∧ x5 = nI j := by
  obtain ⟨a, ha, hea⟩ := im_b_lt f n i
  obtain ⟨b, hb, heb⟩ := im_b_lt f n i2
  rw [hea] at h1
  rw [heb] at h4
  subst h1 h4
  refine ⟨a * 256 + b, by omega, ?_⟩
  rw [← e5, ← e2, ← tn_or8 ha hb]
  congr 1
  exact pk_shlN (n := a) (8 &&& 31) 8 (by decide) (by omega)
end
section
theorem d_Grammar_behindNames_0 : decode b_Grammar_behindNames 0 = .ok (.iload_n 1, 1) := by decide +kernel
theorem d_Grammar_behindNames_1 : decode b_Grammar_behindNames 1 = .ok (.istore_n 3, 1) := by decide +kernel
theorem d_Grammar_behindNames_2 : decode b_Grammar_behindNames 2 = .ok (.iload_n 1, 1) := by decide +kernel
theorem d_Grammar_behindNames_3 : decode b_Grammar_behindNames 3 = .ok (.istore 4, 2) := by decide +kernel
theorem d_Grammar_behindNames_5 : decode b_Grammar_behindNames 5 = .ok (.iload 4, 2) := by decide +kernel
theorem d_Grammar_behindNames_7 : decode b_Grammar_behindNames 7 = .ok (.iload_n 2, 1) := by decide +kernel
theorem d_Grammar_behindNames_8 : decode b_Grammar_behindNames 8 = .ok (.if_icmp .ge 49, 3) := by decide +kernel
theorem d_Grammar_behindNames_11 : decode b_Grammar_behindNames 11 = .ok (.aload_n 0, 1) := by decide +kernel
theorem d_Grammar_behindNames_12 : decode b_Grammar_behindNames 12 = .ok (.iload 4, 2) := by decide +kernel
theorem d_Grammar_behindNames_14 : decode b_Grammar_behindNames 14 = .ok (.invokevirtual 9, 3) := by decide +kernel
theorem d_Grammar_behindNames_17 : decode b_Grammar_behindNames 17 = .ok (.istore 5, 2) := by decide +kernel
theorem d_Grammar_behindNames_19 : decode b_Grammar_behindNames 19 = .ok (.iload 5, 2) := by decide +kernel
theorem d_Grammar_behindNames_21 : decode b_Grammar_behindNames 21 = .ok (.bipush 47, 2) := by decide +kernel
theorem d_Grammar_behindNames_23 : decode b_Grammar_behindNames 23 = .ok (.if_icmp .ne 17, 3) := by decide +kernel
theorem d_Grammar_behindNames_26 : decode b_Grammar_behindNames 26 = .ok (.iload 4, 2) := by decide +kernel
theorem d_Grammar_behindNames_28 : decode b_Grammar_behindNames 28 = .ok (.iload_n 3, 1) := by decide +kernel
theorem d_Grammar_behindNames_29 : decode b_Grammar_behindNames 29 = .ok (.if_icmp .le 11, 3) := by decide +kernel
theorem d_Grammar_behindNames_32 : decode b_Grammar_behindNames 32 = .ok (.iload 4, 2) := by decide +kernel
theorem d_Grammar_behindNames_34 : decode b_Grammar_behindNames 34 = .ok (.iconst 1, 1) := by decide +kernel
theorem d_Grammar_behindNames_35 : decode b_Grammar_behindNames 35 = .ok (.iadd, 1) := by decide +kernel
theorem d_Grammar_behindNames_36 : decode b_Grammar_behindNames 36 = .ok (.istore_n 3, 1) := by decide +kernel
theorem d_Grammar_behindNames_37 : decode b_Grammar_behindNames 37 = .ok (.goto 14, 3) := by decide +kernel
theorem d_Grammar_behindNames_40 : decode b_Grammar_behindNames 40 = .ok (.iload 5, 2) := by decide +kernel
theorem d_Grammar_behindNames_42 : decode b_Grammar_behindNames 42 = .ok (.invokestatic 15, 3) := by decide +kernel
theorem d_Grammar_behindNames_45 : decode b_Grammar_behindNames 45 = .ok (.ifCond .ne 6, 3) := by decide +kernel
theorem d_Grammar_behindNames_48 : decode b_Grammar_behindNames 48 = .ok (.goto 9, 3) := by decide +kernel
theorem d_Grammar_behindNames_51 : decode b_Grammar_behindNames 51 = .ok (.iinc 4 1, 3) := by decide +kernel
theorem d_Grammar_behindNames_54 : decode b_Grammar_behindNames 54 = .ok (.goto (-49), 3) := by decide +kernel
theorem d_Grammar_behindNames_57 : decode b_Grammar_behindNames 57 = .ok (.iload 4, 2) := by decide +kernel
theorem d_Grammar_behindNames_59 : decode b_Grammar_behindNames 59 = .ok (.iload_n 3, 1) := by decide +kernel
theorem d_Grammar_behindNames_60 : decode b_Grammar_behindNames 60 = .ok (.if_icmp .le 8, 3) := by decide +kernel
theorem d_Grammar_behindNames_63 : decode b_Grammar_behindNames 63 = .ok (.iload 4, 2) := by decide +kernel
theorem d_Grammar_behindNames_65 : decode b_Grammar_behindNames 65 = .ok (.goto 4, 3) := by decide +kernel
theorem d_Grammar_behindNames_68 : decode b_Grammar_behindNames 68 = .ok (.iconst (-1), 1) := by decide +kernel
theorem d_Grammar_behindNames_69 : decode b_Grammar_behindNames 69 = .ok (.ireturn, 1) := by decide +kernel
theorem d_Grammar_behindType_0 : decode b_Grammar_behindType 0 = .ok (.iload_n 1, 1) := by decide +kernel
theorem d_Grammar_behindType_1 : decode b_Grammar_behindType 1 = .ok (.istore_n 3, 1) := by decide +kernel
theorem d_Grammar_behindType_2 : decode b_Grammar_behindType 2 = .ok (.iload_n 3, 1) := by decide +kernel
theorem d_Grammar_behindType_3 : decode b_Grammar_behindType 3 = .ok (.iload_n 2, 1) := by decide +kernel
theorem d_Grammar_behindType_4 : decode b_Grammar_behindType 4 = .ok (.if_icmp .ge 19, 3) := by decide +kernel
theorem d_Grammar_behindType_7 : decode b_Grammar_behindType 7 = .ok (.aload_n 0, 1) := by decide +kernel
theorem d_Grammar_behindType_8 : decode b_Grammar_behindType 8 = .ok (.iload_n 3, 1) := by decide +kernel
theorem d_Grammar_behindType_9 : decode b_Grammar_behindType 9 = .ok (.invokevirtual 9, 3) := by decide +kernel
theorem d_Grammar_behindType_12 : decode b_Grammar_behindType 12 = .ok (.bipush 91, 2) := by decide +kernel
theorem d_Grammar_behindType_14 : decode b_Grammar_behindType 14 = .ok (.if_icmp .ne 9, 3) := by decide +kernel
theorem d_Grammar_behindType_17 : decode b_Grammar_behindType 17 = .ok (.iinc 3 1, 3) := by decide +kernel
theorem d_Grammar_behindType_20 : decode b_Grammar_behindType 20 = .ok (.goto (-18), 3) := by decide +kernel
theorem d_Grammar_behindType_23 : decode b_Grammar_behindType 23 = .ok (.iload_n 3, 1) := by decide +kernel
theorem d_Grammar_behindType_24 : decode b_Grammar_behindType 24 = .ok (.iload_n 2, 1) := by decide +kernel
theorem d_Grammar_behindType_25 : decode b_Grammar_behindType 25 = .ok (.if_icmp .lt 5, 3) := by decide +kernel
theorem d_Grammar_behindType_28 : decode b_Grammar_behindType 28 = .ok (.iconst (-1), 1) := by decide +kernel
theorem d_Grammar_behindType_29 : decode b_Grammar_behindType 29 = .ok (.ireturn, 1) := by decide +kernel
theorem d_Grammar_behindType_30 : decode b_Grammar_behindType 30 = .ok (.aload_n 0, 1) := by decide +kernel
theorem d_Grammar_behindType_31 : decode b_Grammar_behindType 31 = .ok (.iload_n 3, 1) := by decide +kernel
theorem d_Grammar_behindType_32 : decode b_Grammar_behindType 32 = .ok (.invokevirtual 9, 3) := by decide +kernel
theorem d_Grammar_behindType_35 : decode b_Grammar_behindType 35 = .ok (.istore 4, 2) := by decide +kernel
theorem d_Grammar_behindType_37 : decode b_Grammar_behindType 37 = .ok (.iload 4, 2) := by decide +kernel
theorem d_Grammar_behindType_39 : decode b_Grammar_behindType 39 = .ok (.bipush 76, 2) := by decide +kernel
theorem d_Grammar_behindType_41 : decode b_Grammar_behindType 41 = .ok (.if_icmp .ne 57, 3) := by decide +kernel
theorem d_Grammar_behindType_44 : decode b_Grammar_behindType 44 = .ok (.aload_n 0, 1) := by decide +kernel
theorem d_Grammar_behindType_45 : decode b_Grammar_behindType 45 = .ok (.iload_n 3, 1) := by decide +kernel
theorem d_Grammar_behindType_46 : decode b_Grammar_behindType 46 = .ok (.iconst 1, 1) := by decide +kernel
theorem d_Grammar_behindType_47 : decode b_Grammar_behindType 47 = .ok (.iadd, 1) := by decide +kernel
theorem d_Grammar_behindType_48 : decode b_Grammar_behindType 48 = .ok (.iload_n 2, 1) := by decide +kernel
theorem d_Grammar_behindType_49 : decode b_Grammar_behindType 49 = .ok (.invokestatic 21, 3) := by decide +kernel
theorem d_Grammar_behindType_52 : decode b_Grammar_behindType 52 = .ok (.istore 5, 2) := by decide +kernel
theorem d_Grammar_behindType_54 : decode b_Grammar_behindType 54 = .ok (.iload 5, 2) := by decide +kernel
theorem d_Grammar_behindType_56 : decode b_Grammar_behindType 56 = .ok (.iconst (-1), 1) := by decide +kernel
theorem d_Grammar_behindType_57 : decode b_Grammar_behindType 57 = .ok (.if_icmp .eq 24, 3) := by decide +kernel
theorem d_Grammar_behindType_60 : decode b_Grammar_behindType 60 = .ok (.iload 5, 2) := by decide +kernel
theorem d_Grammar_behindType_62 : decode b_Grammar_behindType 62 = .ok (.iload_n 2, 1) := by decide +kernel
theorem d_Grammar_behindType_63 : decode b_Grammar_behindType 63 = .ok (.if_icmp .ge 18, 3) := by decide +kernel
theorem d_Grammar_behindType_66 : decode b_Grammar_behindType 66 = .ok (.aload_n 0, 1) := by decide +kernel
theorem d_Grammar_behindType_67 : decode b_Grammar_behindType 67 = .ok (.iload 5, 2) := by decide +kernel
theorem d_Grammar_behindType_69 : decode b_Grammar_behindType 69 = .ok (.invokevirtual 9, 3) := by decide +kernel
theorem d_Grammar_behindType_72 : decode b_Grammar_behindType 72 = .ok (.bipush 59, 2) := by decide +kernel
theorem d_Grammar_behindType_74 : decode b_Grammar_behindType 74 = .ok (.if_icmp .ne 7, 3) := by decide +kernel
theorem d_Grammar_behindType_77 : decode b_Grammar_behindType 77 = .ok (.iconst 1, 1) := by decide +kernel
theorem d_Grammar_behindType_78 : decode b_Grammar_behindType 78 = .ok (.goto 4, 3) := by decide +kernel
theorem d_Grammar_behindType_81 : decode b_Grammar_behindType 81 = .ok (.iconst 0, 1) := by decide +kernel
theorem d_Grammar_behindType_82 : decode b_Grammar_behindType 82 = .ok (.istore 6, 2) := by decide +kernel
theorem d_Grammar_behindType_84 : decode b_Grammar_behindType 84 = .ok (.iload 6, 2) := by decide +kernel
theorem d_Grammar_behindType_86 : decode b_Grammar_behindType 86 = .ok (.ifCond .eq 10, 3) := by decide +kernel
theorem d_Grammar_behindType_89 : decode b_Grammar_behindType 89 = .ok (.iload 5, 2) := by decide +kernel
theorem d_Grammar_behindType_91 : decode b_Grammar_behindType 91 = .ok (.iconst 1, 1) := by decide +kernel
theorem d_Grammar_behindType_92 : decode b_Grammar_behindType 92 = .ok (.iadd, 1) := by decide +kernel
theorem d_Grammar_behindType_93 : decode b_Grammar_behindType 93 = .ok (.goto 4, 3) := by decide +kernel
theorem d_Grammar_behindType_96 : decode b_Grammar_behindType 96 = .ok (.iconst (-1), 1) := by decide +kernel
theorem d_Grammar_behindType_97 : decode b_Grammar_behindType 97 = .ok (.ireturn, 1) := by decide +kernel
theorem d_Grammar_behindType_98 : decode b_Grammar_behindType 98 = .ok (.iload 4, 2) := by decide +kernel
theorem d_Grammar_behindType_100 : decode b_Grammar_behindType 100 = .ok (.bipush 68, 2) := by decide +kernel
theorem d_Grammar_behindType_102 : decode b_Grammar_behindType 102 = .ok (.if_icmp .eq 26, 3) := by decide +kernel
theorem d_Grammar_behindType_105 : decode b_Grammar_behindType 105 = .ok (.iload 4, 2) := by decide +kernel
theorem d_Grammar_behindType_107 : decode b_Grammar_behindType 107 = .ok (.bipush 70, 2) := by decide +kernel
theorem d_Grammar_behindType_109 : decode b_Grammar_behindType 109 = .ok (.if_icmp .eq 19, 3) := by decide +kernel
theorem d_Grammar_behindType_112 : decode b_Grammar_behindType 112 = .ok (.iload 4, 2) := by decide +kernel
theorem d_Grammar_behindType_114 : decode b_Grammar_behindType 114 = .ok (.invokestatic 25, 3) := by decide +kernel
theorem d_Grammar_behindType_117 : decode b_Grammar_behindType 117 = .ok (.iconst 1, 1) := by decide +kernel
theorem d_Grammar_behindType_118 : decode b_Grammar_behindType 118 = .ok (.if_icmp .eq 10, 3) := by decide +kernel
theorem d_Grammar_behindType_121 : decode b_Grammar_behindType 121 = .ok (.iload 4, 2) := by decide +kernel
theorem d_Grammar_behindType_123 : decode b_Grammar_behindType 123 = .ok (.bipush 74, 2) := by decide +kernel
theorem d_Grammar_behindType_125 : decode b_Grammar_behindType 125 = .ok (.if_icmp .ne 9, 3) := by decide +kernel
theorem d_Grammar_behindType_128 : decode b_Grammar_behindType 128 = .ok (.iload_n 3, 1) := by decide +kernel
theorem d_Grammar_behindType_129 : decode b_Grammar_behindType 129 = .ok (.iconst 1, 1) := by decide +kernel
theorem d_Grammar_behindType_130 : decode b_Grammar_behindType 130 = .ok (.iadd, 1) := by decide +kernel
theorem d_Grammar_behindType_131 : decode b_Grammar_behindType 131 = .ok (.goto 4, 3) := by decide +kernel
theorem d_Grammar_behindType_134 : decode b_Grammar_behindType 134 = .ok (.iconst (-1), 1) := by decide +kernel
theorem d_Grammar_behindType_135 : decode b_Grammar_behindType 135 = .ok (.ireturn, 1) := by decide +kernel
theorem d_Grammar_isMethodType_0 : decode b_Grammar_isMethodType 0 = .ok (.aload_n 0, 1) := by decide +kernel
theorem d_Grammar_isMethodType_1 : decode b_Grammar_isMethodType 1 = .ok (.getfield 33, 3) := by decide +kernel
theorem d_Grammar_isMethodType_4 : decode b_Grammar_isMethodType 4 = .ok (.astore_n 2, 1) := by decide +kernel
theorem d_Grammar_isMethodType_5 : decode b_Grammar_isMethodType 5 = .ok (.aload_n 0, 1) := by decide +kernel
theorem d_Grammar_isMethodType_6 : decode b_Grammar_isMethodType 6 = .ok (.iload_n 1, 1) := by decide +kernel
theorem d_Grammar_isMethodType_7 : decode b_Grammar_isMethodType 7 = .ok (.invokevirtual 28, 3) := by decide +kernel
theorem d_Grammar_isMethodType_10 : decode b_Grammar_isMethodType 10 = .ok (.istore_n 3, 1) := by decide +kernel
theorem d_Grammar_isMethodType_11 : decode b_Grammar_isMethodType 11 = .ok (.aload_n 0, 1) := by decide +kernel
theorem d_Grammar_isMethodType_12 : decode b_Grammar_isMethodType 12 = .ok (.iload_n 1, 1) := by decide +kernel
theorem d_Grammar_isMethodType_13 : decode b_Grammar_isMethodType 13 = .ok (.invokevirtual 37, 3) := by decide +kernel
theorem d_Grammar_isMethodType_16 : decode b_Grammar_isMethodType 16 = .ok (.istore 4, 2) := by decide +kernel
theorem d_Grammar_isMethodType_18 : decode b_Grammar_isMethodType 18 = .ok (.iload 4, 2) := by decide +kernel
theorem d_Grammar_isMethodType_20 : decode b_Grammar_isMethodType 20 = .ok (.iload_n 3, 1) := by decide +kernel
theorem d_Grammar_isMethodType_21 : decode b_Grammar_isMethodType 21 = .ok (.if_icmp .ge 14, 3) := by decide +kernel
theorem d_Grammar_isMethodType_24 : decode b_Grammar_isMethodType 24 = .ok (.aload_n 2, 1) := by decide +kernel
theorem d_Grammar_isMethodType_25 : decode b_Grammar_isMethodType 25 = .ok (.iload 4, 2) := by decide +kernel
theorem d_Grammar_isMethodType_27 : decode b_Grammar_isMethodType 27 = .ok (.invokevirtual 9, 3) := by decide +kernel
theorem d_Grammar_isMethodType_30 : decode b_Grammar_isMethodType 30 = .ok (.bipush 40, 2) := by decide +kernel
theorem d_Grammar_isMethodType_32 : decode b_Grammar_isMethodType 32 = .ok (.if_icmp .eq 5, 3) := by decide +kernel
theorem d_Grammar_isMethodType_35 : decode b_Grammar_isMethodType 35 = .ok (.iconst 0, 1) := by decide +kernel
theorem d_Grammar_isMethodType_36 : decode b_Grammar_isMethodType 36 = .ok (.ireturn, 1) := by decide +kernel
theorem d_Grammar_isMethodType_37 : decode b_Grammar_isMethodType 37 = .ok (.iinc 4 1, 3) := by decide +kernel
theorem d_Grammar_isMethodType_40 : decode b_Grammar_isMethodType 40 = .ok (.iconst 0, 1) := by decide +kernel
theorem d_Grammar_isMethodType_41 : decode b_Grammar_isMethodType 41 = .ok (.istore 5, 2) := by decide +kernel
theorem d_Grammar_isMethodType_43 : decode b_Grammar_isMethodType 43 = .ok (.iload 5, 2) := by decide +kernel
theorem d_Grammar_isMethodType_45 : decode b_Grammar_isMethodType 45 = .ok (.sipush 600, 3) := by decide +kernel
theorem d_Grammar_isMethodType_48 : decode b_Grammar_isMethodType 48 = .ok (.if_icmp .ge 41, 3) := by decide +kernel
theorem d_Grammar_isMethodType_51 : decode b_Grammar_isMethodType 51 = .ok (.iload 4, 2) := by decide +kernel
theorem d_Grammar_isMethodType_53 : decode b_Grammar_isMethodType 53 = .ok (.iconst (-1), 1) := by decide +kernel
theorem d_Grammar_isMethodType_54 : decode b_Grammar_isMethodType 54 = .ok (.if_icmp .eq 35, 3) := by decide +kernel
theorem d_Grammar_isMethodType_57 : decode b_Grammar_isMethodType 57 = .ok (.iload 4, 2) := by decide +kernel
theorem d_Grammar_isMethodType_59 : decode b_Grammar_isMethodType 59 = .ok (.iload_n 3, 1) := by decide +kernel
theorem d_Grammar_isMethodType_60 : decode b_Grammar_isMethodType 60 = .ok (.if_icmp .ge 29, 3) := by decide +kernel
theorem d_Grammar_isMethodType_63 : decode b_Grammar_isMethodType 63 = .ok (.aload_n 2, 1) := by decide +kernel
theorem d_Grammar_isMethodType_64 : decode b_Grammar_isMethodType 64 = .ok (.iload 4, 2) := by decide +kernel
theorem d_Grammar_isMethodType_66 : decode b_Grammar_isMethodType 66 = .ok (.invokevirtual 9, 3) := by decide +kernel
theorem d_Grammar_isMethodType_69 : decode b_Grammar_isMethodType 69 = .ok (.bipush 41, 2) := by decide +kernel
theorem d_Grammar_isMethodType_71 : decode b_Grammar_isMethodType 71 = .ok (.if_icmp .eq 18, 3) := by decide +kernel
theorem d_Grammar_isMethodType_74 : decode b_Grammar_isMethodType 74 = .ok (.aload_n 2, 1) := by decide +kernel
theorem d_Grammar_isMethodType_75 : decode b_Grammar_isMethodType 75 = .ok (.iload 4, 2) := by decide +kernel
theorem d_Grammar_isMethodType_77 : decode b_Grammar_isMethodType 77 = .ok (.iload_n 3, 1) := by decide +kernel
theorem d_Grammar_isMethodType_78 : decode b_Grammar_isMethodType 78 = .ok (.invokestatic 40, 3) := by decide +kernel
theorem d_Grammar_isMethodType_81 : decode b_Grammar_isMethodType 81 = .ok (.istore 4, 2) := by decide +kernel
theorem d_Grammar_isMethodType_83 : decode b_Grammar_isMethodType 83 = .ok (.iinc 5 1, 3) := by decide +kernel
theorem d_Grammar_isMethodType_86 : decode b_Grammar_isMethodType 86 = .ok (.goto (-43), 3) := by decide +kernel
theorem d_Grammar_isMethodType_89 : decode b_Grammar_isMethodType 89 = .ok (.iload 4, 2) := by decide +kernel
theorem d_Grammar_isMethodType_91 : decode b_Grammar_isMethodType 91 = .ok (.iconst (-1), 1) := by decide +kernel
theorem d_Grammar_isMethodType_92 : decode b_Grammar_isMethodType 92 = .ok (.if_icmp .eq 11, 3) := by decide +kernel
theorem d_Grammar_isMethodType_95 : decode b_Grammar_isMethodType 95 = .ok (.iload 4, 2) := by decide +kernel
theorem d_Grammar_isMethodType_97 : decode b_Grammar_isMethodType 97 = .ok (.iconst 1, 1) := by decide +kernel
theorem d_Grammar_isMethodType_98 : decode b_Grammar_isMethodType 98 = .ok (.iadd, 1) := by decide +kernel
theorem d_Grammar_isMethodType_99 : decode b_Grammar_isMethodType 99 = .ok (.iload_n 3, 1) := by decide +kernel
theorem d_Grammar_isMethodType_100 : decode b_Grammar_isMethodType 100 = .ok (.if_icmp .lt 5, 3) := by decide +kernel
theorem d_Grammar_isMethodType_103 : decode b_Grammar_isMethodType 103 = .ok (.iconst 0, 1) := by decide +kernel
theorem d_Grammar_isMethodType_104 : decode b_Grammar_isMethodType 104 = .ok (.ireturn, 1) := by decide +kernel
theorem d_Grammar_isMethodType_105 : decode b_Grammar_isMethodType 105 = .ok (.aload_n 2, 1) := by decide +kernel
theorem d_Grammar_isMethodType_106 : decode b_Grammar_isMethodType 106 = .ok (.iload 4, 2) := by decide +kernel
theorem d_Grammar_isMethodType_108 : decode b_Grammar_isMethodType 108 = .ok (.iconst 1, 1) := by decide +kernel
theorem d_Grammar_isMethodType_109 : decode b_Grammar_isMethodType 109 = .ok (.iadd, 1) := by decide +kernel
theorem d_Grammar_isMethodType_110 : decode b_Grammar_isMethodType 110 = .ok (.invokevirtual 9, 3) := by decide +kernel
theorem d_Grammar_isMethodType_113 : decode b_Grammar_isMethodType 113 = .ok (.bipush 86, 2) := by decide +kernel
theorem d_Grammar_isMethodType_115 : decode b_Grammar_isMethodType 115 = .ok (.if_icmp .ne 15, 3) := by decide +kernel
theorem d_Grammar_isMethodType_118 : decode b_Grammar_isMethodType 118 = .ok (.iload 4, 2) := by decide +kernel
theorem d_Grammar_isMethodType_120 : decode b_Grammar_isMethodType 120 = .ok (.iconst 2, 1) := by decide +kernel
theorem d_Grammar_isMethodType_121 : decode b_Grammar_isMethodType 121 = .ok (.iadd, 1) := by decide +kernel
theorem d_Grammar_isMethodType_122 : decode b_Grammar_isMethodType 122 = .ok (.iload_n 3, 1) := by decide +kernel
theorem d_Grammar_isMethodType_123 : decode b_Grammar_isMethodType 123 = .ok (.if_icmp .ne 7, 3) := by decide +kernel
theorem d_Grammar_isMethodType_126 : decode b_Grammar_isMethodType 126 = .ok (.iconst 1, 1) := by decide +kernel
theorem d_Grammar_isMethodType_127 : decode b_Grammar_isMethodType 127 = .ok (.goto 4, 3) := by decide +kernel
theorem d_Grammar_isMethodType_130 : decode b_Grammar_isMethodType 130 = .ok (.iconst 0, 1) := by decide +kernel
theorem d_Grammar_isMethodType_131 : decode b_Grammar_isMethodType 131 = .ok (.istore 5, 2) := by decide +kernel
theorem d_Grammar_isMethodType_133 : decode b_Grammar_isMethodType 133 = .ok (.iload 5, 2) := by decide +kernel
theorem d_Grammar_isMethodType_135 : decode b_Grammar_isMethodType 135 = .ok (.ifCond .ne 16, 3) := by decide +kernel
theorem d_Grammar_isMethodType_138 : decode b_Grammar_isMethodType 138 = .ok (.aload_n 2, 1) := by decide +kernel
theorem d_Grammar_isMethodType_139 : decode b_Grammar_isMethodType 139 = .ok (.iload 4, 2) := by decide +kernel
theorem d_Grammar_isMethodType_141 : decode b_Grammar_isMethodType 141 = .ok (.iconst 1, 1) := by decide +kernel
theorem d_Grammar_isMethodType_142 : decode b_Grammar_isMethodType 142 = .ok (.iadd, 1) := by decide +kernel
theorem d_Grammar_isMethodType_143 : decode b_Grammar_isMethodType 143 = .ok (.iload_n 3, 1) := by decide +kernel
theorem d_Grammar_isMethodType_144 : decode b_Grammar_isMethodType 144 = .ok (.invokestatic 40, 3) := by decide +kernel
theorem d_Grammar_isMethodType_147 : decode b_Grammar_isMethodType 147 = .ok (.iload_n 3, 1) := by decide +kernel
theorem d_Grammar_isMethodType_148 : decode b_Grammar_isMethodType 148 = .ok (.if_icmp .ne 7, 3) := by decide +kernel
theorem d_Grammar_isMethodType_151 : decode b_Grammar_isMethodType 151 = .ok (.iconst 1, 1) := by decide +kernel
theorem d_Grammar_isMethodType_152 : decode b_Grammar_isMethodType 152 = .ok (.goto 4, 3) := by decide +kernel
theorem d_Grammar_isMethodType_155 : decode b_Grammar_isMethodType 155 = .ok (.iconst 0, 1) := by decide +kernel
theorem d_Grammar_isMethodType_156 : decode b_Grammar_isMethodType 156 = .ok (.ireturn, 1) := by decide +kernel
theorem d_Grammar_isName_0 : decode b_Grammar_isName 0 = .ok (.iload_n 1, 1) := by decide +kernel
theorem d_Grammar_isName_1 : decode b_Grammar_isName 1 = .ok (.istore_n 3, 1) := by decide +kernel
theorem d_Grammar_isName_2 : decode b_Grammar_isName 2 = .ok (.iload_n 3, 1) := by decide +kernel
theorem d_Grammar_isName_3 : decode b_Grammar_isName 3 = .ok (.iload_n 2, 1) := by decide +kernel
theorem d_Grammar_isName_4 : decode b_Grammar_isName 4 = .ok (.if_icmp .ge 22, 3) := by decide +kernel
theorem d_Grammar_isName_7 : decode b_Grammar_isName 7 = .ok (.aload_n 0, 1) := by decide +kernel
theorem d_Grammar_isName_8 : decode b_Grammar_isName 8 = .ok (.iload_n 3, 1) := by decide +kernel
theorem d_Grammar_isName_9 : decode b_Grammar_isName 9 = .ok (.invokevirtual 9, 3) := by decide +kernel
theorem d_Grammar_isName_12 : decode b_Grammar_isName 12 = .ok (.invokestatic 15, 3) := by decide +kernel
theorem d_Grammar_isName_15 : decode b_Grammar_isName 15 = .ok (.ifCond .ne 5, 3) := by decide +kernel
theorem d_Grammar_isName_18 : decode b_Grammar_isName 18 = .ok (.iconst 0, 1) := by decide +kernel
theorem d_Grammar_isName_19 : decode b_Grammar_isName 19 = .ok (.ireturn, 1) := by decide +kernel
theorem d_Grammar_isName_20 : decode b_Grammar_isName 20 = .ok (.iinc 3 1, 3) := by decide +kernel
theorem d_Grammar_isName_23 : decode b_Grammar_isName 23 = .ok (.goto (-21), 3) := by decide +kernel
theorem d_Grammar_isName_26 : decode b_Grammar_isName 26 = .ok (.iload_n 2, 1) := by decide +kernel
theorem d_Grammar_isName_27 : decode b_Grammar_isName 27 = .ok (.iload_n 1, 1) := by decide +kernel
theorem d_Grammar_isName_28 : decode b_Grammar_isName 28 = .ok (.if_icmp .le 7, 3) := by decide +kernel
theorem d_Grammar_isName_31 : decode b_Grammar_isName 31 = .ok (.iconst 1, 1) := by decide +kernel
theorem d_Grammar_isName_32 : decode b_Grammar_isName 32 = .ok (.goto 4, 3) := by decide +kernel
theorem d_Grammar_isName_35 : decode b_Grammar_isName 35 = .ok (.iconst 0, 1) := by decide +kernel
theorem d_Grammar_isName_36 : decode b_Grammar_isName 36 = .ok (.ireturn, 1) := by decide +kernel
theorem d_Grammar_isNameLetter_0 : decode b_Grammar_isNameLetter 0 = .ok (.iload_n 0, 1) := by decide +kernel
theorem d_Grammar_isNameLetter_1 : decode b_Grammar_isNameLetter 1 = .ok (.lookupswitch 61 #[(46, 59), (47, 59), (59, 59), (60, 59), (62, 59), (91, 59)], 59) := by decide +kernel
theorem d_Grammar_isNameLetter_60 : decode b_Grammar_isNameLetter 60 = .ok (.iconst 0, 1) := by decide +kernel
theorem d_Grammar_isNameLetter_61 : decode b_Grammar_isNameLetter 61 = .ok (.ireturn, 1) := by decide +kernel
theorem d_Grammar_isNameLetter_62 : decode b_Grammar_isNameLetter 62 = .ok (.iload_n 0, 1) := by decide +kernel
theorem d_Grammar_isNameLetter_63 : decode b_Grammar_isNameLetter 63 = .ok (.bipush 32, 2) := by decide +kernel
theorem d_Grammar_isNameLetter_65 : decode b_Grammar_isNameLetter 65 = .ok (.if_icmp .le 7, 3) := by decide +kernel
theorem d_Grammar_isNameLetter_68 : decode b_Grammar_isNameLetter 68 = .ok (.iconst 1, 1) := by decide +kernel
theorem d_Grammar_isNameLetter_69 : decode b_Grammar_isNameLetter 69 = .ok (.goto 4, 3) := by decide +kernel
theorem d_Grammar_isNameLetter_72 : decode b_Grammar_isNameLetter 72 = .ok (.iconst 0, 1) := by decide +kernel
theorem d_Grammar_isNameLetter_73 : decode b_Grammar_isNameLetter 73 = .ok (.ireturn, 1) := by decide +kernel
theorem d_Grammar_isType_0 : decode b_Grammar_isType 0 = .ok (.aload_n 0, 1) := by decide +kernel
theorem d_Grammar_isType_1 : decode b_Grammar_isType 1 = .ok (.iload_n 1, 1) := by decide +kernel
theorem d_Grammar_isType_2 : decode b_Grammar_isType 2 = .ok (.invokevirtual 28, 3) := by decide +kernel
theorem d_Grammar_isType_5 : decode b_Grammar_isType 5 = .ok (.istore_n 2, 1) := by decide +kernel
theorem d_Grammar_isType_6 : decode b_Grammar_isType 6 = .ok (.aload_n 0, 1) := by decide +kernel
theorem d_Grammar_isType_7 : decode b_Grammar_isType 7 = .ok (.getfield 33, 3) := by decide +kernel
theorem d_Grammar_isType_10 : decode b_Grammar_isType 10 = .ok (.aload_n 0, 1) := by decide +kernel
theorem d_Grammar_isType_11 : decode b_Grammar_isType 11 = .ok (.iload_n 1, 1) := by decide +kernel
theorem d_Grammar_isType_12 : decode b_Grammar_isType 12 = .ok (.invokevirtual 37, 3) := by decide +kernel
theorem d_Grammar_isType_15 : decode b_Grammar_isType 15 = .ok (.iload_n 2, 1) := by decide +kernel
theorem d_Grammar_isType_16 : decode b_Grammar_isType 16 = .ok (.invokestatic 40, 3) := by decide +kernel
theorem d_Grammar_isType_19 : decode b_Grammar_isType 19 = .ok (.iload_n 2, 1) := by decide +kernel
theorem d_Grammar_isType_20 : decode b_Grammar_isType 20 = .ok (.if_icmp .ne 7, 3) := by decide +kernel
theorem d_Grammar_isType_23 : decode b_Grammar_isType 23 = .ok (.iconst 1, 1) := by decide +kernel
theorem d_Grammar_isType_24 : decode b_Grammar_isType 24 = .ok (.goto 4, 3) := by decide +kernel
theorem d_Grammar_isType_27 : decode b_Grammar_isType 27 = .ok (.iconst 0, 1) := by decide +kernel
theorem d_Grammar_isType_28 : decode b_Grammar_isType 28 = .ok (.ireturn, 1) := by decide +kernel
theorem d_Grammar_kindOf_0 : decode b_Grammar_kindOf 0 = .ok (.iload_n 0, 1) := by decide +kernel
theorem d_Grammar_kindOf_1 : decode b_Grammar_kindOf 1 = .ok (.tableswitch 125 66 91 #[119, 119, 125, 125, 125, 125, 125, 119, 121, 125, 123, 125, 125, 125, 125, 125, 125, 119, 125, 125, 125, 125, 125, 125, 119, 123], 119) := by decide +kernel
theorem d_Grammar_kindOf_120 : decode b_Grammar_kindOf 120 = .ok (.iconst 1, 1) := by decide +kernel
theorem d_Grammar_kindOf_121 : decode b_Grammar_kindOf 121 = .ok (.ireturn, 1) := by decide +kernel
theorem d_Grammar_kindOf_122 : decode b_Grammar_kindOf 122 = .ok (.iconst 2, 1) := by decide +kernel
theorem d_Grammar_kindOf_123 : decode b_Grammar_kindOf 123 = .ok (.ireturn, 1) := by decide +kernel
theorem d_Grammar_kindOf_124 : decode b_Grammar_kindOf 124 = .ok (.iconst 4, 1) := by decide +kernel
theorem d_Grammar_kindOf_125 : decode b_Grammar_kindOf 125 = .ok (.ireturn, 1) := by decide +kernel
theorem d_Grammar_kindOf_126 : decode b_Grammar_kindOf 126 = .ok (.iconst 0, 1) := by decide +kernel
theorem d_Grammar_kindOf_127 : decode b_Grammar_kindOf 127 = .ok (.ireturn, 1) := by decide +kernel
theorem d_Image_fourAt_0 : decode b_Image_fourAt 0 = .ok (.aload_n 0, 1) := by decide +kernel
theorem d_Image_fourAt_1 : decode b_Image_fourAt 1 = .ok (.iload_n 1, 1) := by decide +kernel
theorem d_Image_fourAt_2 : decode b_Image_fourAt 2 = .ok (.invokevirtual 25, 3) := by decide +kernel
theorem d_Image_fourAt_5 : decode b_Image_fourAt 5 = .ok (.bipush 8, 2) := by decide +kernel
theorem d_Image_fourAt_7 : decode b_Image_fourAt 7 = .ok (.ishl, 1) := by decide +kernel
theorem d_Image_fourAt_8 : decode b_Image_fourAt 8 = .ok (.aload_n 0, 1) := by decide +kernel
theorem d_Image_fourAt_9 : decode b_Image_fourAt 9 = .ok (.iload_n 1, 1) := by decide +kernel
theorem d_Image_fourAt_10 : decode b_Image_fourAt 10 = .ok (.iconst 1, 1) := by decide +kernel
theorem d_Image_fourAt_11 : decode b_Image_fourAt 11 = .ok (.iadd, 1) := by decide +kernel
theorem d_Image_fourAt_12 : decode b_Image_fourAt 12 = .ok (.invokevirtual 25, 3) := by decide +kernel
theorem d_Image_fourAt_15 : decode b_Image_fourAt 15 = .ok (.ior, 1) := by decide +kernel
theorem d_Image_fourAt_16 : decode b_Image_fourAt 16 = .ok (.istore_n 2, 1) := by decide +kernel
theorem d_Image_fourAt_17 : decode b_Image_fourAt 17 = .ok (.aload_n 0, 1) := by decide +kernel
theorem d_Image_fourAt_18 : decode b_Image_fourAt 18 = .ok (.iload_n 1, 1) := by decide +kernel
theorem d_Image_fourAt_19 : decode b_Image_fourAt 19 = .ok (.iconst 2, 1) := by decide +kernel
theorem d_Image_fourAt_20 : decode b_Image_fourAt 20 = .ok (.iadd, 1) := by decide +kernel
theorem d_Image_fourAt_21 : decode b_Image_fourAt 21 = .ok (.invokevirtual 25, 3) := by decide +kernel
theorem d_Image_fourAt_24 : decode b_Image_fourAt 24 = .ok (.bipush 8, 2) := by decide +kernel
theorem d_Image_fourAt_26 : decode b_Image_fourAt 26 = .ok (.ishl, 1) := by decide +kernel
theorem d_Image_fourAt_27 : decode b_Image_fourAt 27 = .ok (.aload_n 0, 1) := by decide +kernel
theorem d_Image_fourAt_28 : decode b_Image_fourAt 28 = .ok (.iload_n 1, 1) := by decide +kernel
theorem d_Image_fourAt_29 : decode b_Image_fourAt 29 = .ok (.iconst 3, 1) := by decide +kernel
theorem d_Image_fourAt_30 : decode b_Image_fourAt 30 = .ok (.iadd, 1) := by decide +kernel
theorem d_Image_fourAt_31 : decode b_Image_fourAt 31 = .ok (.invokevirtual 25, 3) := by decide +kernel
theorem d_Image_fourAt_34 : decode b_Image_fourAt 34 = .ok (.ior, 1) := by decide +kernel
theorem d_Image_fourAt_35 : decode b_Image_fourAt 35 = .ok (.istore_n 3, 1) := by decide +kernel
theorem d_Image_fourAt_36 : decode b_Image_fourAt 36 = .ok (.iload_n 2, 1) := by decide +kernel
theorem d_Image_fourAt_37 : decode b_Image_fourAt 37 = .ok (.i2l, 1) := by decide +kernel
theorem d_Image_fourAt_38 : decode b_Image_fourAt 38 = .ok (.bipush 16, 2) := by decide +kernel
theorem d_Image_fourAt_40 : decode b_Image_fourAt 40 = .ok (.lshl, 1) := by decide +kernel
theorem d_Image_fourAt_41 : decode b_Image_fourAt 41 = .ok (.iload_n 3, 1) := by decide +kernel
theorem d_Image_fourAt_42 : decode b_Image_fourAt 42 = .ok (.i2l, 1) := by decide +kernel
theorem d_Image_fourAt_43 : decode b_Image_fourAt 43 = .ok (.lor, 1) := by decide +kernel
theorem d_Image_fourAt_44 : decode b_Image_fourAt 44 = .ok (.lreturn, 1) := by decide +kernel
theorem d_Image_twoAt_0 : decode b_Image_twoAt 0 = .ok (.aload_n 0, 1) := by decide +kernel
theorem d_Image_twoAt_1 : decode b_Image_twoAt 1 = .ok (.iload_n 1, 1) := by decide +kernel
theorem d_Image_twoAt_2 : decode b_Image_twoAt 2 = .ok (.invokevirtual 25, 3) := by decide +kernel
theorem d_Image_twoAt_5 : decode b_Image_twoAt 5 = .ok (.bipush 8, 2) := by decide +kernel
theorem d_Image_twoAt_7 : decode b_Image_twoAt 7 = .ok (.ishl, 1) := by decide +kernel
theorem d_Image_twoAt_8 : decode b_Image_twoAt 8 = .ok (.aload_n 0, 1) := by decide +kernel
theorem d_Image_twoAt_9 : decode b_Image_twoAt 9 = .ok (.iload_n 1, 1) := by decide +kernel
theorem d_Image_twoAt_10 : decode b_Image_twoAt 10 = .ok (.iconst 1, 1) := by decide +kernel
theorem d_Image_twoAt_11 : decode b_Image_twoAt 11 = .ok (.iadd, 1) := by decide +kernel
theorem d_Image_twoAt_12 : decode b_Image_twoAt 12 = .ok (.invokevirtual 25, 3) := by decide +kernel
theorem d_Image_twoAt_15 : decode b_Image_twoAt 15 = .ok (.ior, 1) := by decide +kernel
theorem d_Image_twoAt_16 : decode b_Image_twoAt 16 = .ok (.ireturn, 1) := by decide +kernel
theorem d_Layout_classTextAt_0 : decode b_Layout_classTextAt 0 = .ok (.aload_n 0, 1) := by decide +kernel
theorem d_Layout_classTextAt_1 : decode b_Layout_classTextAt 1 = .ok (.aload_n 0, 1) := by decide +kernel
theorem d_Layout_classTextAt_2 : decode b_Layout_classTextAt 2 = .ok (.getfield 12, 3) := by decide +kernel
theorem d_Layout_classTextAt_5 : decode b_Layout_classTextAt 5 = .ok (.iload_n 1, 1) := by decide +kernel
theorem d_Layout_classTextAt_6 : decode b_Layout_classTextAt 6 = .ok (.invokevirtual 73, 3) := by decide +kernel
theorem d_Layout_classTextAt_9 : decode b_Layout_classTextAt 9 = .ok (.invokevirtual 80, 3) := by decide +kernel
theorem d_Layout_classTextAt_12 : decode b_Layout_classTextAt 12 = .ok (.ireturn, 1) := by decide +kernel
theorem d_Layout_codeOf_0 : decode b_Layout_codeOf 0 = .ok (.iload_n 1, 1) := by decide +kernel
theorem d_Layout_codeOf_1 : decode b_Layout_codeOf 1 = .ok (.ifCond .lt 20, 3) := by decide +kernel
theorem d_Layout_codeOf_4 : decode b_Layout_codeOf 4 = .ok (.iload_n 1, 1) := by decide +kernel
theorem d_Layout_codeOf_5 : decode b_Layout_codeOf 5 = .ok (.aload_n 0, 1) := by decide +kernel
theorem d_Layout_codeOf_6 : decode b_Layout_codeOf 6 = .ok (.getfield 70, 3) := by decide +kernel
theorem d_Layout_codeOf_9 : decode b_Layout_codeOf 9 = .ok (.if_icmp .ge 12, 3) := by decide +kernel
theorem d_Layout_codeOf_12 : decode b_Layout_codeOf 12 = .ok (.aload_n 0, 1) := by decide +kernel
theorem d_Layout_codeOf_13 : decode b_Layout_codeOf 13 = .ok (.getfield 44, 3) := by decide +kernel
theorem d_Layout_codeOf_16 : decode b_Layout_codeOf 16 = .ok (.iload_n 1, 1) := by decide +kernel
theorem d_Layout_codeOf_17 : decode b_Layout_codeOf 17 = .ok (.iaload, 1) := by decide +kernel
theorem d_Layout_codeOf_18 : decode b_Layout_codeOf 18 = .ok (.goto 4, 3) := by decide +kernel
theorem d_Layout_codeOf_21 : decode b_Layout_codeOf 21 = .ok (.iconst 0, 1) := by decide +kernel
theorem d_Layout_codeOf_22 : decode b_Layout_codeOf 22 = .ok (.ireturn, 1) := by decide +kernel
theorem d_Layout_firstOf_0 : decode b_Layout_firstOf 0 = .ok (.iload_n 1, 1) := by decide +kernel
theorem d_Layout_firstOf_1 : decode b_Layout_firstOf 1 = .ok (.ifCond .le 19, 3) := by decide +kernel
theorem d_Layout_firstOf_4 : decode b_Layout_firstOf 4 = .ok (.iload_n 1, 1) := by decide +kernel
theorem d_Layout_firstOf_5 : decode b_Layout_firstOf 5 = .ok (.sipush 200, 3) := by decide +kernel
theorem d_Layout_firstOf_8 : decode b_Layout_firstOf 8 = .ok (.if_icmp .ge 12, 3) := by decide +kernel
theorem d_Layout_firstOf_11 : decode b_Layout_firstOf 11 = .ok (.aload_n 0, 1) := by decide +kernel
theorem d_Layout_firstOf_12 : decode b_Layout_firstOf 12 = .ok (.getfield 32, 3) := by decide +kernel
theorem d_Layout_firstOf_15 : decode b_Layout_firstOf 15 = .ok (.iload_n 1, 1) := by decide +kernel
theorem d_Layout_firstOf_16 : decode b_Layout_firstOf 16 = .ok (.iaload, 1) := by decide +kernel
theorem d_Layout_firstOf_17 : decode b_Layout_firstOf 17 = .ok (.goto 4, 3) := by decide +kernel
theorem d_Layout_firstOf_20 : decode b_Layout_firstOf 20 = .ok (.iconst 0, 1) := by decide +kernel
theorem d_Layout_firstOf_21 : decode b_Layout_firstOf 21 = .ok (.ireturn, 1) := by decide +kernel
theorem d_Layout_instructionAt_0 : decode b_Layout_instructionAt 0 = .ok (.iload_n 2, 1) := by decide +kernel
theorem d_Layout_instructionAt_1 : decode b_Layout_instructionAt 1 = .ok (.ifCond .lt 22, 3) := by decide +kernel
theorem d_Layout_instructionAt_4 : decode b_Layout_instructionAt 4 = .ok (.iload_n 2, 1) := by decide +kernel
theorem d_Layout_instructionAt_5 : decode b_Layout_instructionAt 5 = .ok (.aload_n 0, 1) := by decide +kernel
theorem d_Layout_instructionAt_6 : decode b_Layout_instructionAt 6 = .ok (.iload_n 1, 1) := by decide +kernel
theorem d_Layout_instructionAt_7 : decode b_Layout_instructionAt 7 = .ok (.invokevirtual 93, 3) := by decide +kernel
theorem d_Layout_instructionAt_10 : decode b_Layout_instructionAt 10 = .ok (.if_icmp .ge 13, 3) := by decide +kernel
theorem d_Layout_instructionAt_13 : decode b_Layout_instructionAt 13 = .ok (.aload_n 0, 1) := by decide +kernel
theorem d_Layout_instructionAt_14 : decode b_Layout_instructionAt 14 = .ok (.iload_n 1, 1) := by decide +kernel
theorem d_Layout_instructionAt_15 : decode b_Layout_instructionAt 15 = .ok (.invokevirtual 96, 3) := by decide +kernel
theorem d_Layout_instructionAt_18 : decode b_Layout_instructionAt 18 = .ok (.iload_n 2, 1) := by decide +kernel
theorem d_Layout_instructionAt_19 : decode b_Layout_instructionAt 19 = .ok (.iadd, 1) := by decide +kernel
theorem d_Layout_instructionAt_20 : decode b_Layout_instructionAt 20 = .ok (.goto 4, 3) := by decide +kernel
theorem d_Layout_instructionAt_23 : decode b_Layout_instructionAt 23 = .ok (.iconst (-1), 1) := by decide +kernel
theorem d_Layout_instructionAt_24 : decode b_Layout_instructionAt 24 = .ok (.ireturn, 1) := by decide +kernel
theorem d_Layout_instructionBytes_0 : decode b_Layout_instructionBytes 0 = .ok (.iconst 0, 1) := by decide +kernel
theorem d_Layout_instructionBytes_1 : decode b_Layout_instructionBytes 1 = .ok (.istore_n 1, 1) := by decide +kernel
theorem d_Layout_instructionBytes_2 : decode b_Layout_instructionBytes 2 = .ok (.iconst 0, 1) := by decide +kernel
theorem d_Layout_instructionBytes_3 : decode b_Layout_instructionBytes 3 = .ok (.istore_n 2, 1) := by decide +kernel
theorem d_Layout_instructionBytes_4 : decode b_Layout_instructionBytes 4 = .ok (.iload_n 2, 1) := by decide +kernel
theorem d_Layout_instructionBytes_5 : decode b_Layout_instructionBytes 5 = .ok (.aload_n 0, 1) := by decide +kernel
theorem d_Layout_instructionBytes_6 : decode b_Layout_instructionBytes 6 = .ok (.getfield 70, 3) := by decide +kernel
theorem d_Layout_instructionBytes_9 : decode b_Layout_instructionBytes 9 = .ok (.if_icmp .ge 17, 3) := by decide +kernel
theorem d_Layout_instructionBytes_12 : decode b_Layout_instructionBytes 12 = .ok (.iload_n 1, 1) := by decide +kernel
theorem d_Layout_instructionBytes_13 : decode b_Layout_instructionBytes 13 = .ok (.aload_n 0, 1) := by decide +kernel
theorem d_Layout_instructionBytes_14 : decode b_Layout_instructionBytes 14 = .ok (.iload_n 2, 1) := by decide +kernel
theorem d_Layout_instructionBytes_15 : decode b_Layout_instructionBytes 15 = .ok (.invokevirtual 93, 3) := by decide +kernel
theorem d_Layout_instructionBytes_18 : decode b_Layout_instructionBytes 18 = .ok (.iadd, 1) := by decide +kernel
theorem d_Layout_instructionBytes_19 : decode b_Layout_instructionBytes 19 = .ok (.istore_n 1, 1) := by decide +kernel
theorem d_Layout_instructionBytes_20 : decode b_Layout_instructionBytes 20 = .ok (.iinc 2 1, 3) := by decide +kernel
theorem d_Layout_instructionBytes_23 : decode b_Layout_instructionBytes 23 = .ok (.goto (-19), 3) := by decide +kernel
theorem d_Layout_instructionBytes_26 : decode b_Layout_instructionBytes 26 = .ok (.iload_n 1, 1) := by decide +kernel
theorem d_Layout_instructionBytes_27 : decode b_Layout_instructionBytes 27 = .ok (.ireturn, 1) := by decide +kernel
theorem d_Layout_instructionsAt_0 : decode b_Layout_instructionsAt 0 = .ok (.aload_n 0, 1) := by decide +kernel
theorem d_Layout_instructionsAt_1 : decode b_Layout_instructionsAt 1 = .ok (.iload_n 1, 1) := by decide +kernel
theorem d_Layout_instructionsAt_2 : decode b_Layout_instructionsAt 2 = .ok (.invokevirtual 86, 3) := by decide +kernel
theorem d_Layout_instructionsAt_5 : decode b_Layout_instructionsAt 5 = .ok (.bipush 14, 2) := by decide +kernel
theorem d_Layout_instructionsAt_7 : decode b_Layout_instructionsAt 7 = .ok (.iadd, 1) := by decide +kernel
theorem d_Layout_instructionsAt_8 : decode b_Layout_instructionsAt 8 = .ok (.ireturn, 1) := by decide +kernel
theorem d_Layout_interfaceAt_0 : decode b_Layout_interfaceAt 0 = .ok (.aload_n 0, 1) := by decide +kernel
theorem d_Layout_interfaceAt_1 : decode b_Layout_interfaceAt 1 = .ok (.getfield 83, 3) := by decide +kernel
theorem d_Layout_interfaceAt_4 : decode b_Layout_interfaceAt 4 = .ok (.bipush 6, 2) := by decide +kernel
theorem d_Layout_interfaceAt_6 : decode b_Layout_interfaceAt 6 = .ok (.iadd, 1) := by decide +kernel
theorem d_Layout_interfaceAt_7 : decode b_Layout_interfaceAt 7 = .ok (.iconst 2, 1) := by decide +kernel
theorem d_Layout_interfaceAt_8 : decode b_Layout_interfaceAt 8 = .ok (.iload_n 1, 1) := by decide +kernel
theorem d_Layout_interfaceAt_9 : decode b_Layout_interfaceAt 9 = .ok (.imul, 1) := by decide +kernel
theorem d_Layout_interfaceAt_10 : decode b_Layout_interfaceAt 10 = .ok (.iadd, 1) := by decide +kernel
theorem d_Layout_interfaceAt_11 : decode b_Layout_interfaceAt 11 = .ok (.ireturn, 1) := by decide +kernel
theorem d_Layout_isSame_0 : decode b_Layout_isSame 0 = .ok (.aload_n 0, 1) := by decide +kernel
theorem d_Layout_isSame_1 : decode b_Layout_isSame 1 = .ok (.iload_n 1, 1) := by decide +kernel
theorem d_Layout_isSame_2 : decode b_Layout_isSame 2 = .ok (.invokevirtual 80, 3) := by decide +kernel
theorem d_Layout_isSame_5 : decode b_Layout_isSame 5 = .ok (.istore_n 3, 1) := by decide +kernel
theorem d_Layout_isSame_6 : decode b_Layout_isSame 6 = .ok (.aload_n 0, 1) := by decide +kernel
theorem d_Layout_isSame_7 : decode b_Layout_isSame 7 = .ok (.iload_n 1, 1) := by decide +kernel
theorem d_Layout_isSame_8 : decode b_Layout_isSame 8 = .ok (.invokevirtual 115, 3) := by decide +kernel
theorem d_Layout_isSame_11 : decode b_Layout_isSame 11 = .ok (.istore 4, 2) := by decide +kernel
theorem d_Layout_isSame_13 : decode b_Layout_isSame 13 = .ok (.aload_n 0, 1) := by decide +kernel
theorem d_Layout_isSame_14 : decode b_Layout_isSame 14 = .ok (.iload_n 2, 1) := by decide +kernel
theorem d_Layout_isSame_15 : decode b_Layout_isSame 15 = .ok (.invokevirtual 115, 3) := by decide +kernel
theorem d_Layout_isSame_18 : decode b_Layout_isSame 18 = .ok (.istore 5, 2) := by decide +kernel
theorem d_Layout_isSame_20 : decode b_Layout_isSame 20 = .ok (.iload_n 3, 1) := by decide +kernel
theorem d_Layout_isSame_21 : decode b_Layout_isSame 21 = .ok (.aload_n 0, 1) := by decide +kernel
theorem d_Layout_isSame_22 : decode b_Layout_isSame 22 = .ok (.iload_n 2, 1) := by decide +kernel
theorem d_Layout_isSame_23 : decode b_Layout_isSame 23 = .ok (.invokevirtual 80, 3) := by decide +kernel
theorem d_Layout_isSame_26 : decode b_Layout_isSame 26 = .ok (.if_icmp .eq 5, 3) := by decide +kernel
theorem d_Layout_isSame_29 : decode b_Layout_isSame 29 = .ok (.iconst 0, 1) := by decide +kernel
theorem d_Layout_isSame_30 : decode b_Layout_isSame 30 = .ok (.ireturn, 1) := by decide +kernel
theorem d_Layout_isSame_31 : decode b_Layout_isSame 31 = .ok (.iconst 0, 1) := by decide +kernel
theorem d_Layout_isSame_32 : decode b_Layout_isSame 32 = .ok (.istore 6, 2) := by decide +kernel
theorem d_Layout_isSame_34 : decode b_Layout_isSame 34 = .ok (.iload 6, 2) := by decide +kernel
theorem d_Layout_isSame_36 : decode b_Layout_isSame 36 = .ok (.iload_n 3, 1) := by decide +kernel
theorem d_Layout_isSame_37 : decode b_Layout_isSame 37 = .ok (.if_icmp .ge 38, 3) := by decide +kernel
theorem d_Layout_isSame_40 : decode b_Layout_isSame 40 = .ok (.aload_n 0, 1) := by decide +kernel
theorem d_Layout_isSame_41 : decode b_Layout_isSame 41 = .ok (.getfield 12, 3) := by decide +kernel
theorem d_Layout_isSame_44 : decode b_Layout_isSame 44 = .ok (.iload 4, 2) := by decide +kernel
theorem d_Layout_isSame_46 : decode b_Layout_isSame 46 = .ok (.iload 6, 2) := by decide +kernel
theorem d_Layout_isSame_48 : decode b_Layout_isSame 48 = .ok (.iadd, 1) := by decide +kernel
theorem d_Layout_isSame_49 : decode b_Layout_isSame 49 = .ok (.invokevirtual 118, 3) := by decide +kernel
theorem d_Layout_isSame_52 : decode b_Layout_isSame 52 = .ok (.aload_n 0, 1) := by decide +kernel
theorem d_Layout_isSame_53 : decode b_Layout_isSame 53 = .ok (.getfield 12, 3) := by decide +kernel
theorem d_Layout_isSame_56 : decode b_Layout_isSame 56 = .ok (.iload 5, 2) := by decide +kernel
theorem d_Layout_isSame_58 : decode b_Layout_isSame 58 = .ok (.iload 6, 2) := by decide +kernel
theorem d_Layout_isSame_60 : decode b_Layout_isSame 60 = .ok (.iadd, 1) := by decide +kernel
theorem d_Layout_isSame_61 : decode b_Layout_isSame 61 = .ok (.invokevirtual 118, 3) := by decide +kernel
theorem d_Layout_isSame_64 : decode b_Layout_isSame 64 = .ok (.if_icmp .eq 5, 3) := by decide +kernel
theorem d_Layout_isSame_67 : decode b_Layout_isSame 67 = .ok (.iconst 0, 1) := by decide +kernel
theorem d_Layout_isSame_68 : decode b_Layout_isSame 68 = .ok (.ireturn, 1) := by decide +kernel
theorem d_Layout_isSame_69 : decode b_Layout_isSame 69 = .ok (.iinc 6 1, 3) := by decide +kernel
theorem d_Layout_isSame_72 : decode b_Layout_isSame 72 = .ok (.goto (-38), 3) := by decide +kernel
theorem d_Layout_isSame_75 : decode b_Layout_isSame 75 = .ok (.iconst 1, 1) := by decide +kernel
theorem d_Layout_isSame_76 : decode b_Layout_isSame 76 = .ok (.ireturn, 1) := by decide +kernel
theorem d_Layout_lengthOf_0 : decode b_Layout_lengthOf 0 = .ok (.aload_n 0, 1) := by decide +kernel
theorem d_Layout_lengthOf_1 : decode b_Layout_lengthOf 1 = .ok (.iload_n 1, 1) := by decide +kernel
theorem d_Layout_lengthOf_2 : decode b_Layout_lengthOf 2 = .ok (.invokevirtual 86, 3) := by decide +kernel
theorem d_Layout_lengthOf_5 : decode b_Layout_lengthOf 5 = .ok (.ifCond .ne 7, 3) := by decide +kernel
theorem d_Layout_lengthOf_8 : decode b_Layout_lengthOf 8 = .ok (.iconst 0, 1) := by decide +kernel
theorem d_Layout_lengthOf_9 : decode b_Layout_lengthOf 9 = .ok (.goto 19, 3) := by decide +kernel
theorem d_Layout_lengthOf_12 : decode b_Layout_lengthOf 12 = .ok (.aload_n 0, 1) := by decide +kernel
theorem d_Layout_lengthOf_13 : decode b_Layout_lengthOf 13 = .ok (.getfield 12, 3) := by decide +kernel
theorem d_Layout_lengthOf_16 : decode b_Layout_lengthOf 16 = .ok (.aload_n 0, 1) := by decide +kernel
theorem d_Layout_lengthOf_17 : decode b_Layout_lengthOf 17 = .ok (.iload_n 1, 1) := by decide +kernel
theorem d_Layout_lengthOf_18 : decode b_Layout_lengthOf 18 = .ok (.invokevirtual 86, 3) := by decide +kernel
theorem d_Layout_lengthOf_21 : decode b_Layout_lengthOf 21 = .ok (.bipush 10, 2) := by decide +kernel
theorem d_Layout_lengthOf_23 : decode b_Layout_lengthOf 23 = .ok (.iadd, 1) := by decide +kernel
theorem d_Layout_lengthOf_24 : decode b_Layout_lengthOf 24 = .ok (.invokevirtual 89, 3) := by decide +kernel
theorem d_Layout_lengthOf_27 : decode b_Layout_lengthOf 27 = .ok (.l2i, 1) := by decide +kernel
theorem d_Layout_lengthOf_28 : decode b_Layout_lengthOf 28 = .ok (.ireturn, 1) := by decide +kernel
theorem d_Layout_localsOf_0 : decode b_Layout_localsOf 0 = .ok (.aload_n 0, 1) := by decide +kernel
theorem d_Layout_localsOf_1 : decode b_Layout_localsOf 1 = .ok (.getfield 12, 3) := by decide +kernel
theorem d_Layout_localsOf_4 : decode b_Layout_localsOf 4 = .ok (.aload_n 0, 1) := by decide +kernel
theorem d_Layout_localsOf_5 : decode b_Layout_localsOf 5 = .ok (.iload_n 1, 1) := by decide +kernel
theorem d_Layout_localsOf_6 : decode b_Layout_localsOf 6 = .ok (.invokevirtual 86, 3) := by decide +kernel
theorem d_Layout_localsOf_9 : decode b_Layout_localsOf 9 = .ok (.bipush 8, 2) := by decide +kernel
theorem d_Layout_localsOf_11 : decode b_Layout_localsOf 11 = .ok (.iadd, 1) := by decide +kernel
theorem d_Layout_localsOf_12 : decode b_Layout_localsOf 12 = .ok (.invokevirtual 73, 3) := by decide +kernel
theorem d_Layout_localsOf_15 : decode b_Layout_localsOf 15 = .ok (.ireturn, 1) := by decide +kernel
theorem d_Layout_memberAt_0 : decode b_Layout_memberAt 0 = .ok (.iload_n 2, 1) := by decide +kernel
theorem d_Layout_memberAt_1 : decode b_Layout_memberAt 1 = .ok (.ifCond .lt 22, 3) := by decide +kernel
theorem d_Layout_memberAt_4 : decode b_Layout_memberAt 4 = .ok (.iload_n 2, 1) := by decide +kernel
theorem d_Layout_memberAt_5 : decode b_Layout_memberAt 5 = .ok (.iload_n 1, 1) := by decide +kernel
theorem d_Layout_memberAt_6 : decode b_Layout_memberAt 6 = .ok (.ifCond .eq 10, 3) := by decide +kernel
theorem d_Layout_memberAt_9 : decode b_Layout_memberAt 9 = .ok (.aload_n 0, 1) := by decide +kernel
theorem d_Layout_memberAt_10 : decode b_Layout_memberAt 10 = .ok (.getfield 70, 3) := by decide +kernel
theorem d_Layout_memberAt_13 : decode b_Layout_memberAt 13 = .ok (.goto 7, 3) := by decide +kernel
theorem d_Layout_memberAt_16 : decode b_Layout_memberAt 16 = .ok (.aload_n 0, 1) := by decide +kernel
theorem d_Layout_memberAt_17 : decode b_Layout_memberAt 17 = .ok (.getfield 67, 3) := by decide +kernel
theorem d_Layout_memberAt_20 : decode b_Layout_memberAt 20 = .ok (.if_icmp .lt 5, 3) := by decide +kernel
theorem d_Layout_memberAt_23 : decode b_Layout_memberAt 23 = .ok (.iconst (-1), 1) := by decide +kernel
theorem d_Layout_memberAt_24 : decode b_Layout_memberAt 24 = .ok (.ireturn, 1) := by decide +kernel
theorem d_Layout_memberAt_25 : decode b_Layout_memberAt 25 = .ok (.iload_n 1, 1) := by decide +kernel
theorem d_Layout_memberAt_26 : decode b_Layout_memberAt 26 = .ok (.ifCond .eq 12, 3) := by decide +kernel
theorem d_Layout_memberAt_29 : decode b_Layout_memberAt 29 = .ok (.aload_n 0, 1) := by decide +kernel
theorem d_Layout_memberAt_30 : decode b_Layout_memberAt 30 = .ok (.getfield 41, 3) := by decide +kernel
theorem d_Layout_memberAt_33 : decode b_Layout_memberAt 33 = .ok (.iload_n 2, 1) := by decide +kernel
theorem d_Layout_memberAt_34 : decode b_Layout_memberAt 34 = .ok (.iaload, 1) := by decide +kernel
theorem d_Layout_memberAt_35 : decode b_Layout_memberAt 35 = .ok (.goto 9, 3) := by decide +kernel
theorem d_Layout_memberAt_38 : decode b_Layout_memberAt 38 = .ok (.aload_n 0, 1) := by decide +kernel
theorem d_Layout_memberAt_39 : decode b_Layout_memberAt 39 = .ok (.getfield 38, 3) := by decide +kernel
theorem d_Layout_memberAt_42 : decode b_Layout_memberAt 42 = .ok (.iload_n 2, 1) := by decide +kernel
theorem d_Layout_memberAt_43 : decode b_Layout_memberAt 43 = .ok (.iaload, 1) := by decide +kernel
theorem d_Layout_memberAt_44 : decode b_Layout_memberAt 44 = .ok (.ireturn, 1) := by decide +kernel
theorem d_Layout_nameAt_0 : decode b_Layout_nameAt 0 = .ok (.aload_n 0, 1) := by decide +kernel
theorem d_Layout_nameAt_1 : decode b_Layout_nameAt 1 = .ok (.getfield 12, 3) := by decide +kernel
theorem d_Layout_nameAt_4 : decode b_Layout_nameAt 4 = .ok (.iload_n 1, 1) := by decide +kernel
theorem d_Layout_nameAt_5 : decode b_Layout_nameAt 5 = .ok (.iconst 2, 1) := by decide +kernel
theorem d_Layout_nameAt_6 : decode b_Layout_nameAt 6 = .ok (.iadd, 1) := by decide +kernel
theorem d_Layout_nameAt_7 : decode b_Layout_nameAt 7 = .ok (.invokevirtual 73, 3) := by decide +kernel
theorem d_Layout_nameAt_10 : decode b_Layout_nameAt 10 = .ok (.ireturn, 1) := by decide +kernel
theorem d_Layout_placeOf_0 : decode b_Layout_placeOf 0 = .ok (.iload_n 1, 1) := by decide +kernel
theorem d_Layout_placeOf_1 : decode b_Layout_placeOf 1 = .ok (.ifCond .le 19, 3) := by decide +kernel
theorem d_Layout_placeOf_4 : decode b_Layout_placeOf 4 = .ok (.iload_n 1, 1) := by decide +kernel
theorem d_Layout_placeOf_5 : decode b_Layout_placeOf 5 = .ok (.sipush 200, 3) := by decide +kernel
theorem d_Layout_placeOf_8 : decode b_Layout_placeOf 8 = .ok (.if_icmp .ge 12, 3) := by decide +kernel
theorem d_Layout_placeOf_11 : decode b_Layout_placeOf 11 = .ok (.aload_n 0, 1) := by decide +kernel
theorem d_Layout_placeOf_12 : decode b_Layout_placeOf 12 = .ok (.getfield 29, 3) := by decide +kernel
theorem d_Layout_placeOf_15 : decode b_Layout_placeOf 15 = .ok (.iload_n 1, 1) := by decide +kernel
theorem d_Layout_placeOf_16 : decode b_Layout_placeOf 16 = .ok (.iaload, 1) := by decide +kernel
theorem d_Layout_placeOf_17 : decode b_Layout_placeOf 17 = .ok (.goto 4, 3) := by decide +kernel
theorem d_Layout_placeOf_20 : decode b_Layout_placeOf 20 = .ok (.iconst 0, 1) := by decide +kernel
theorem d_Layout_placeOf_21 : decode b_Layout_placeOf 21 = .ok (.ireturn, 1) := by decide +kernel
theorem d_Layout_secondOf_0 : decode b_Layout_secondOf 0 = .ok (.iload_n 1, 1) := by decide +kernel
theorem d_Layout_secondOf_1 : decode b_Layout_secondOf 1 = .ok (.ifCond .le 19, 3) := by decide +kernel
theorem d_Layout_secondOf_4 : decode b_Layout_secondOf 4 = .ok (.iload_n 1, 1) := by decide +kernel
theorem d_Layout_secondOf_5 : decode b_Layout_secondOf 5 = .ok (.sipush 200, 3) := by decide +kernel
theorem d_Layout_secondOf_8 : decode b_Layout_secondOf 8 = .ok (.if_icmp .ge 12, 3) := by decide +kernel
theorem d_Layout_secondOf_11 : decode b_Layout_secondOf 11 = .ok (.aload_n 0, 1) := by decide +kernel
theorem d_Layout_secondOf_12 : decode b_Layout_secondOf 12 = .ok (.getfield 35, 3) := by decide +kernel
theorem d_Layout_secondOf_15 : decode b_Layout_secondOf 15 = .ok (.iload_n 1, 1) := by decide +kernel
theorem d_Layout_secondOf_16 : decode b_Layout_secondOf 16 = .ok (.iaload, 1) := by decide +kernel
theorem d_Layout_secondOf_17 : decode b_Layout_secondOf 17 = .ok (.goto 4, 3) := by decide +kernel
theorem d_Layout_secondOf_20 : decode b_Layout_secondOf 20 = .ok (.iconst 0, 1) := by decide +kernel
theorem d_Layout_secondOf_21 : decode b_Layout_secondOf 21 = .ok (.ireturn, 1) := by decide +kernel
theorem d_Layout_stackOf_0 : decode b_Layout_stackOf 0 = .ok (.aload_n 0, 1) := by decide +kernel
theorem d_Layout_stackOf_1 : decode b_Layout_stackOf 1 = .ok (.getfield 12, 3) := by decide +kernel
theorem d_Layout_stackOf_4 : decode b_Layout_stackOf 4 = .ok (.aload_n 0, 1) := by decide +kernel
theorem d_Layout_stackOf_5 : decode b_Layout_stackOf 5 = .ok (.iload_n 1, 1) := by decide +kernel
theorem d_Layout_stackOf_6 : decode b_Layout_stackOf 6 = .ok (.invokevirtual 86, 3) := by decide +kernel
theorem d_Layout_stackOf_9 : decode b_Layout_stackOf 9 = .ok (.bipush 6, 2) := by decide +kernel
theorem d_Layout_stackOf_11 : decode b_Layout_stackOf 11 = .ok (.iadd, 1) := by decide +kernel
theorem d_Layout_stackOf_12 : decode b_Layout_stackOf 12 = .ok (.invokevirtual 73, 3) := by decide +kernel
theorem d_Layout_stackOf_15 : decode b_Layout_stackOf 15 = .ok (.ireturn, 1) := by decide +kernel
theorem d_Layout_tagOf_0 : decode b_Layout_tagOf 0 = .ok (.iload_n 1, 1) := by decide +kernel
theorem d_Layout_tagOf_1 : decode b_Layout_tagOf 1 = .ok (.ifCond .le 19, 3) := by decide +kernel
theorem d_Layout_tagOf_4 : decode b_Layout_tagOf 4 = .ok (.iload_n 1, 1) := by decide +kernel
theorem d_Layout_tagOf_5 : decode b_Layout_tagOf 5 = .ok (.sipush 200, 3) := by decide +kernel
theorem d_Layout_tagOf_8 : decode b_Layout_tagOf 8 = .ok (.if_icmp .ge 12, 3) := by decide +kernel
theorem d_Layout_tagOf_11 : decode b_Layout_tagOf 11 = .ok (.aload_n 0, 1) := by decide +kernel
theorem d_Layout_tagOf_12 : decode b_Layout_tagOf 12 = .ok (.getfield 25, 3) := by decide +kernel
theorem d_Layout_tagOf_15 : decode b_Layout_tagOf 15 = .ok (.iload_n 1, 1) := by decide +kernel
theorem d_Layout_tagOf_16 : decode b_Layout_tagOf 16 = .ok (.iaload, 1) := by decide +kernel
theorem d_Layout_tagOf_17 : decode b_Layout_tagOf 17 = .ok (.goto 4, 3) := by decide +kernel
theorem d_Layout_tagOf_20 : decode b_Layout_tagOf 20 = .ok (.iconst 0, 1) := by decide +kernel
theorem d_Layout_tagOf_21 : decode b_Layout_tagOf 21 = .ok (.ireturn, 1) := by decide +kernel
theorem d_Layout_textEnd_0 : decode b_Layout_textEnd 0 = .ok (.aload_n 0, 1) := by decide +kernel
theorem d_Layout_textEnd_1 : decode b_Layout_textEnd 1 = .ok (.iload_n 1, 1) := by decide +kernel
theorem d_Layout_textEnd_2 : decode b_Layout_textEnd 2 = .ok (.invokevirtual 77, 3) := by decide +kernel
theorem d_Layout_textEnd_5 : decode b_Layout_textEnd 5 = .ok (.iconst 3, 1) := by decide +kernel
theorem d_Layout_textEnd_6 : decode b_Layout_textEnd 6 = .ok (.iadd, 1) := by decide +kernel
theorem d_Layout_textEnd_7 : decode b_Layout_textEnd 7 = .ok (.aload_n 0, 1) := by decide +kernel
theorem d_Layout_textEnd_8 : decode b_Layout_textEnd 8 = .ok (.iload_n 1, 1) := by decide +kernel
theorem d_Layout_textEnd_9 : decode b_Layout_textEnd 9 = .ok (.invokevirtual 80, 3) := by decide +kernel
theorem d_Layout_textEnd_12 : decode b_Layout_textEnd 12 = .ok (.iadd, 1) := by decide +kernel
theorem d_Layout_textEnd_13 : decode b_Layout_textEnd 13 = .ok (.ireturn, 1) := by decide +kernel
theorem d_Layout_textFrom_0 : decode b_Layout_textFrom 0 = .ok (.aload_n 0, 1) := by decide +kernel
theorem d_Layout_textFrom_1 : decode b_Layout_textFrom 1 = .ok (.iload_n 1, 1) := by decide +kernel
theorem d_Layout_textFrom_2 : decode b_Layout_textFrom 2 = .ok (.invokevirtual 77, 3) := by decide +kernel
theorem d_Layout_textFrom_5 : decode b_Layout_textFrom 5 = .ok (.iconst 3, 1) := by decide +kernel
theorem d_Layout_textFrom_6 : decode b_Layout_textFrom 6 = .ok (.iadd, 1) := by decide +kernel
theorem d_Layout_textFrom_7 : decode b_Layout_textFrom 7 = .ok (.ireturn, 1) := by decide +kernel
theorem d_Layout_textNumber_0 : decode b_Layout_textNumber 0 = .ok (.iload_n 1, 1) := by decide +kernel
theorem d_Layout_textNumber_1 : decode b_Layout_textNumber 1 = .ok (.iconst 2, 1) := by decide +kernel
theorem d_Layout_textNumber_2 : decode b_Layout_textNumber 2 = .ok (.if_icmp .ge 16, 3) := by decide +kernel
theorem d_Layout_textNumber_5 : decode b_Layout_textNumber 5 = .ok (.aload_n 0, 1) := by decide +kernel
theorem d_Layout_textNumber_6 : decode b_Layout_textNumber 6 = .ok (.aload_n 0, 1) := by decide +kernel
theorem d_Layout_textNumber_7 : decode b_Layout_textNumber 7 = .ok (.getfield 83, 3) := by decide +kernel
theorem d_Layout_textNumber_10 : decode b_Layout_textNumber 10 = .ok (.iconst 2, 1) := by decide +kernel
theorem d_Layout_textNumber_11 : decode b_Layout_textNumber 11 = .ok (.iload_n 1, 1) := by decide +kernel
theorem d_Layout_textNumber_12 : decode b_Layout_textNumber 12 = .ok (.imul, 1) := by decide +kernel
theorem d_Layout_textNumber_13 : decode b_Layout_textNumber 13 = .ok (.iadd, 1) := by decide +kernel
theorem d_Layout_textNumber_14 : decode b_Layout_textNumber 14 = .ok (.invokevirtual 99, 3) := by decide +kernel
theorem d_Layout_textNumber_17 : decode b_Layout_textNumber 17 = .ok (.ireturn, 1) := by decide +kernel
theorem d_Layout_textNumber_18 : decode b_Layout_textNumber 18 = .ok (.iload_n 1, 1) := by decide +kernel
theorem d_Layout_textNumber_19 : decode b_Layout_textNumber 19 = .ok (.iconst 2, 1) := by decide +kernel
theorem d_Layout_textNumber_20 : decode b_Layout_textNumber 20 = .ok (.if_icmp .ne 29, 3) := by decide +kernel
theorem d_Layout_textNumber_23 : decode b_Layout_textNumber 23 = .ok (.iload_n 2, 1) := by decide +kernel
theorem d_Layout_textNumber_24 : decode b_Layout_textNumber 24 = .ok (.ifCond .lt 23, 3) := by decide +kernel
theorem d_Layout_textNumber_27 : decode b_Layout_textNumber 27 = .ok (.iload_n 2, 1) := by decide +kernel
theorem d_Layout_textNumber_28 : decode b_Layout_textNumber 28 = .ok (.aload_n 0, 1) := by decide +kernel
theorem d_Layout_textNumber_29 : decode b_Layout_textNumber 29 = .ok (.getfield 64, 3) := by decide +kernel
theorem d_Layout_textNumber_32 : decode b_Layout_textNumber 32 = .ok (.if_icmp .ge 15, 3) := by decide +kernel
theorem d_Layout_textNumber_35 : decode b_Layout_textNumber 35 = .ok (.aload_n 0, 1) := by decide +kernel
theorem d_Layout_textNumber_36 : decode b_Layout_textNumber 36 = .ok (.aload_n 0, 1) := by decide +kernel
theorem d_Layout_textNumber_37 : decode b_Layout_textNumber 37 = .ok (.iload_n 2, 1) := by decide +kernel
theorem d_Layout_textNumber_38 : decode b_Layout_textNumber 38 = .ok (.invokevirtual 102, 3) := by decide +kernel
theorem d_Layout_textNumber_41 : decode b_Layout_textNumber 41 = .ok (.invokevirtual 99, 3) := by decide +kernel
theorem d_Layout_textNumber_44 : decode b_Layout_textNumber 44 = .ok (.goto 4, 3) := by decide +kernel
theorem d_Layout_textNumber_47 : decode b_Layout_textNumber 47 = .ok (.iconst 0, 1) := by decide +kernel
theorem d_Layout_textNumber_48 : decode b_Layout_textNumber 48 = .ok (.ireturn, 1) := by decide +kernel
theorem d_Layout_textNumber_49 : decode b_Layout_textNumber 49 = .ok (.aload_n 0, 1) := by decide +kernel
theorem d_Layout_textNumber_50 : decode b_Layout_textNumber 50 = .ok (.iload_n 1, 1) := by decide +kernel
theorem d_Layout_textNumber_51 : decode b_Layout_textNumber 51 = .ok (.iconst 4, 1) := by decide +kernel
theorem d_Layout_textNumber_52 : decode b_Layout_textNumber 52 = .ok (.if_icmp .le 7, 3) := by decide +kernel
theorem d_Layout_textNumber_55 : decode b_Layout_textNumber 55 = .ok (.iconst 1, 1) := by decide +kernel
theorem d_Layout_textNumber_56 : decode b_Layout_textNumber 56 = .ok (.goto 4, 3) := by decide +kernel
theorem d_Layout_textNumber_59 : decode b_Layout_textNumber 59 = .ok (.iconst 0, 1) := by decide +kernel
theorem d_Layout_textNumber_60 : decode b_Layout_textNumber 60 = .ok (.iload_n 2, 1) := by decide +kernel
theorem d_Layout_textNumber_61 : decode b_Layout_textNumber 61 = .ok (.invokevirtual 105, 3) := by decide +kernel
theorem d_Layout_textNumber_64 : decode b_Layout_textNumber 64 = .ok (.istore_n 3, 1) := by decide +kernel
theorem d_Layout_textNumber_65 : decode b_Layout_textNumber 65 = .ok (.iload_n 3, 1) := by decide +kernel
theorem d_Layout_textNumber_66 : decode b_Layout_textNumber 66 = .ok (.iconst (-1), 1) := by decide +kernel
theorem d_Layout_textNumber_67 : decode b_Layout_textNumber 67 = .ok (.if_icmp .ne 5, 3) := by decide +kernel
theorem d_Layout_textNumber_70 : decode b_Layout_textNumber 70 = .ok (.iconst 0, 1) := by decide +kernel
theorem d_Layout_textNumber_71 : decode b_Layout_textNumber 71 = .ok (.ireturn, 1) := by decide +kernel
theorem d_Layout_textNumber_72 : decode b_Layout_textNumber 72 = .ok (.iload_n 1, 1) := by decide +kernel
theorem d_Layout_textNumber_73 : decode b_Layout_textNumber 73 = .ok (.iconst 3, 1) := by decide +kernel
theorem d_Layout_textNumber_74 : decode b_Layout_textNumber 74 = .ok (.if_icmp .eq 8, 3) := by decide +kernel
theorem d_Layout_textNumber_77 : decode b_Layout_textNumber 77 = .ok (.iload_n 1, 1) := by decide +kernel
theorem d_Layout_textNumber_78 : decode b_Layout_textNumber 78 = .ok (.iconst 5, 1) := by decide +kernel
theorem d_Layout_textNumber_79 : decode b_Layout_textNumber 79 = .ok (.if_icmp .ne 11, 3) := by decide +kernel
theorem d_Layout_textNumber_82 : decode b_Layout_textNumber 82 = .ok (.aload_n 0, 1) := by decide +kernel
theorem d_Layout_textNumber_83 : decode b_Layout_textNumber 83 = .ok (.iload_n 3, 1) := by decide +kernel
theorem d_Layout_textNumber_84 : decode b_Layout_textNumber 84 = .ok (.invokevirtual 109, 3) := by decide +kernel
theorem d_Layout_textNumber_87 : decode b_Layout_textNumber 87 = .ok (.goto 8, 3) := by decide +kernel
theorem d_Layout_textNumber_90 : decode b_Layout_textNumber 90 = .ok (.aload_n 0, 1) := by decide +kernel
theorem d_Layout_textNumber_91 : decode b_Layout_textNumber 91 = .ok (.iload_n 3, 1) := by decide +kernel
theorem d_Layout_textNumber_92 : decode b_Layout_textNumber 92 = .ok (.invokevirtual 112, 3) := by decide +kernel
theorem d_Layout_textNumber_95 : decode b_Layout_textNumber 95 = .ok (.ireturn, 1) := by decide +kernel
theorem d_Layout_typeAt_0 : decode b_Layout_typeAt 0 = .ok (.aload_n 0, 1) := by decide +kernel
theorem d_Layout_typeAt_1 : decode b_Layout_typeAt 1 = .ok (.getfield 12, 3) := by decide +kernel
theorem d_Layout_typeAt_4 : decode b_Layout_typeAt 4 = .ok (.iload_n 1, 1) := by decide +kernel
theorem d_Layout_typeAt_5 : decode b_Layout_typeAt 5 = .ok (.iconst 4, 1) := by decide +kernel
theorem d_Layout_typeAt_6 : decode b_Layout_typeAt 6 = .ok (.iadd, 1) := by decide +kernel
theorem d_Layout_typeAt_7 : decode b_Layout_typeAt 7 = .ok (.invokevirtual 73, 3) := by decide +kernel
theorem d_Layout_typeAt_10 : decode b_Layout_typeAt 10 = .ok (.ireturn, 1) := by decide +kernel
theorem d_Opcodes_goesOn_0 : decode b_Opcodes_goesOn 0 = .ok (.iload_n 0, 1) := by decide +kernel
theorem d_Opcodes_goesOn_1 : decode b_Opcodes_goesOn 1 = .ok (.sipush 167, 3) := by decide +kernel
theorem d_Opcodes_goesOn_4 : decode b_Opcodes_goesOn 4 = .ok (.if_icmp .eq 21, 3) := by decide +kernel
theorem d_Opcodes_goesOn_7 : decode b_Opcodes_goesOn 7 = .ok (.iload_n 0, 1) := by decide +kernel
theorem d_Opcodes_goesOn_8 : decode b_Opcodes_goesOn 8 = .ok (.sipush 191, 3) := by decide +kernel
theorem d_Opcodes_goesOn_11 : decode b_Opcodes_goesOn 11 = .ok (.if_icmp .eq 14, 3) := by decide +kernel
theorem d_Opcodes_goesOn_14 : decode b_Opcodes_goesOn 14 = .ok (.iload_n 0, 1) := by decide +kernel
theorem d_Opcodes_goesOn_15 : decode b_Opcodes_goesOn 15 = .ok (.invokestatic 31, 3) := by decide +kernel
theorem d_Opcodes_goesOn_18 : decode b_Opcodes_goesOn 18 = .ok (.ifCond .ne 7, 3) := by decide +kernel
theorem d_Opcodes_goesOn_21 : decode b_Opcodes_goesOn 21 = .ok (.iconst 1, 1) := by decide +kernel
theorem d_Opcodes_goesOn_22 : decode b_Opcodes_goesOn 22 = .ok (.goto 4, 3) := by decide +kernel
theorem d_Opcodes_goesOn_25 : decode b_Opcodes_goesOn 25 = .ok (.iconst 0, 1) := by decide +kernel
theorem d_Opcodes_goesOn_26 : decode b_Opcodes_goesOn 26 = .ok (.ireturn, 1) := by decide +kernel
theorem d_Opcodes_isAlone_0 : decode b_Opcodes_isAlone 0 = .ok (.iload_n 0, 1) := by decide +kernel
theorem d_Opcodes_isAlone_1 : decode b_Opcodes_isAlone 1 = .ok (.lookupswitch 93 #[(92, 91), (95, 91), (133, 91), (136, 91), (172, 91), (173, 91), (176, 91), (177, 91), (190, 91), (191, 91)], 91) := by decide +kernel
theorem d_Opcodes_isAlone_92 : decode b_Opcodes_isAlone 92 = .ok (.iconst 1, 1) := by decide +kernel
theorem d_Opcodes_isAlone_93 : decode b_Opcodes_isAlone 93 = .ok (.ireturn, 1) := by decide +kernel
theorem d_Opcodes_isAlone_94 : decode b_Opcodes_isAlone 94 = .ok (.iload_n 0, 1) := by decide +kernel
theorem d_Opcodes_isAlone_95 : decode b_Opcodes_isAlone 95 = .ok (.iconst 0, 1) := by decide +kernel
theorem d_Opcodes_isAlone_96 : decode b_Opcodes_isAlone 96 = .ok (.bipush 10, 2) := by decide +kernel
theorem d_Opcodes_isAlone_98 : decode b_Opcodes_isAlone 98 = .ok (.invokestatic 9, 3) := by decide +kernel
theorem d_Opcodes_isAlone_101 : decode b_Opcodes_isAlone 101 = .ok (.ifCond .ne 78, 3) := by decide +kernel
theorem d_Opcodes_isAlone_104 : decode b_Opcodes_isAlone 104 = .ok (.iload_n 0, 1) := by decide +kernel
theorem d_Opcodes_isAlone_105 : decode b_Opcodes_isAlone 105 = .ok (.bipush 26, 2) := by decide +kernel
theorem d_Opcodes_isAlone_107 : decode b_Opcodes_isAlone 107 = .ok (.bipush 33, 2) := by decide +kernel
theorem d_Opcodes_isAlone_109 : decode b_Opcodes_isAlone 109 = .ok (.invokestatic 9, 3) := by decide +kernel
theorem d_Opcodes_isAlone_112 : decode b_Opcodes_isAlone 112 = .ok (.ifCond .ne 67, 3) := by decide +kernel
theorem d_Opcodes_isAlone_115 : decode b_Opcodes_isAlone 115 = .ok (.iload_n 0, 1) := by decide +kernel
theorem d_Opcodes_isAlone_116 : decode b_Opcodes_isAlone 116 = .ok (.bipush 42, 2) := by decide +kernel
theorem d_Opcodes_isAlone_118 : decode b_Opcodes_isAlone 118 = .ok (.bipush 45, 2) := by decide +kernel
theorem d_Opcodes_isAlone_120 : decode b_Opcodes_isAlone 120 = .ok (.invokestatic 9, 3) := by decide +kernel
theorem d_Opcodes_isAlone_123 : decode b_Opcodes_isAlone 123 = .ok (.ifCond .ne 56, 3) := by decide +kernel
theorem d_Opcodes_isAlone_126 : decode b_Opcodes_isAlone 126 = .ok (.iload_n 0, 1) := by decide +kernel
theorem d_Opcodes_isAlone_127 : decode b_Opcodes_isAlone 127 = .ok (.bipush 59, 2) := by decide +kernel
theorem d_Opcodes_isAlone_129 : decode b_Opcodes_isAlone 129 = .ok (.bipush 66, 2) := by decide +kernel
theorem d_Opcodes_isAlone_131 : decode b_Opcodes_isAlone 131 = .ok (.invokestatic 9, 3) := by decide +kernel
theorem d_Opcodes_isAlone_134 : decode b_Opcodes_isAlone 134 = .ok (.ifCond .ne 45, 3) := by decide +kernel
theorem d_Opcodes_isAlone_137 : decode b_Opcodes_isAlone 137 = .ok (.iload_n 0, 1) := by decide +kernel
theorem d_Opcodes_isAlone_138 : decode b_Opcodes_isAlone 138 = .ok (.bipush 75, 2) := by decide +kernel
theorem d_Opcodes_isAlone_140 : decode b_Opcodes_isAlone 140 = .ok (.bipush 78, 2) := by decide +kernel
theorem d_Opcodes_isAlone_142 : decode b_Opcodes_isAlone 142 = .ok (.invokestatic 9, 3) := by decide +kernel
theorem d_Opcodes_isAlone_145 : decode b_Opcodes_isAlone 145 = .ok (.ifCond .ne 34, 3) := by decide +kernel
theorem d_Opcodes_isAlone_148 : decode b_Opcodes_isAlone 148 = .ok (.iload_n 0, 1) := by decide +kernel
theorem d_Opcodes_isAlone_149 : decode b_Opcodes_isAlone 149 = .ok (.bipush 87, 2) := by decide +kernel
theorem d_Opcodes_isAlone_151 : decode b_Opcodes_isAlone 151 = .ok (.bipush 89, 2) := by decide +kernel
theorem d_Opcodes_isAlone_153 : decode b_Opcodes_isAlone 153 = .ok (.invokestatic 9, 3) := by decide +kernel
theorem d_Opcodes_isAlone_156 : decode b_Opcodes_isAlone 156 = .ok (.ifCond .ne 23, 3) := by decide +kernel
theorem d_Opcodes_isAlone_159 : decode b_Opcodes_isAlone 159 = .ok (.iload_n 0, 1) := by decide +kernel
theorem d_Opcodes_isAlone_160 : decode b_Opcodes_isAlone 160 = .ok (.invokestatic 19, 3) := by decide +kernel
theorem d_Opcodes_isAlone_163 : decode b_Opcodes_isAlone 163 = .ok (.ifCond .ne 16, 3) := by decide +kernel
theorem d_Opcodes_isAlone_166 : decode b_Opcodes_isAlone 166 = .ok (.iload_n 0, 1) := by decide +kernel
theorem d_Opcodes_isAlone_167 : decode b_Opcodes_isAlone 167 = .ok (.sipush 145, 3) := by decide +kernel
theorem d_Opcodes_isAlone_170 : decode b_Opcodes_isAlone 170 = .ok (.sipush 148, 3) := by decide +kernel
theorem d_Opcodes_isAlone_173 : decode b_Opcodes_isAlone 173 = .ok (.invokestatic 9, 3) := by decide +kernel
theorem d_Opcodes_isAlone_176 : decode b_Opcodes_isAlone 176 = .ok (.ifCond .eq 7, 3) := by decide +kernel
theorem d_Opcodes_isAlone_179 : decode b_Opcodes_isAlone 179 = .ok (.iconst 1, 1) := by decide +kernel
theorem d_Opcodes_isAlone_180 : decode b_Opcodes_isAlone 180 = .ok (.goto 4, 3) := by decide +kernel
theorem d_Opcodes_isAlone_183 : decode b_Opcodes_isAlone 183 = .ok (.iconst 0, 1) := by decide +kernel
theorem d_Opcodes_isAlone_184 : decode b_Opcodes_isAlone 184 = .ok (.ireturn, 1) := by decide +kernel
theorem d_Opcodes_isArithmetic_0 : decode b_Opcodes_isArithmetic 0 = .ok (.iload_n 0, 1) := by decide +kernel
theorem d_Opcodes_isArithmetic_1 : decode b_Opcodes_isArithmetic 1 = .ok (.bipush 96, 2) := by decide +kernel
theorem d_Opcodes_isArithmetic_3 : decode b_Opcodes_isArithmetic 3 = .ok (.bipush 117, 2) := by decide +kernel
theorem d_Opcodes_isArithmetic_5 : decode b_Opcodes_isArithmetic 5 = .ok (.invokestatic 9, 3) := by decide +kernel
theorem d_Opcodes_isArithmetic_8 : decode b_Opcodes_isArithmetic 8 = .ok (.ifCond .eq 10, 3) := by decide +kernel
theorem d_Opcodes_isArithmetic_11 : decode b_Opcodes_isArithmetic 11 = .ok (.iload_n 0, 1) := by decide +kernel
theorem d_Opcodes_isArithmetic_12 : decode b_Opcodes_isArithmetic 12 = .ok (.iconst 3, 1) := by decide +kernel
theorem d_Opcodes_isArithmetic_13 : decode b_Opcodes_isArithmetic 13 = .ok (.iand, 1) := by decide +kernel
theorem d_Opcodes_isArithmetic_14 : decode b_Opcodes_isArithmetic 14 = .ok (.iconst 2, 1) := by decide +kernel
theorem d_Opcodes_isArithmetic_15 : decode b_Opcodes_isArithmetic 15 = .ok (.if_icmp .lt 15, 3) := by decide +kernel
theorem d_Opcodes_isArithmetic_18 : decode b_Opcodes_isArithmetic 18 = .ok (.iload_n 0, 1) := by decide +kernel
theorem d_Opcodes_isArithmetic_19 : decode b_Opcodes_isArithmetic 19 = .ok (.bipush 120, 2) := by decide +kernel
theorem d_Opcodes_isArithmetic_21 : decode b_Opcodes_isArithmetic 21 = .ok (.sipush 131, 3) := by decide +kernel
theorem d_Opcodes_isArithmetic_24 : decode b_Opcodes_isArithmetic 24 = .ok (.invokestatic 9, 3) := by decide +kernel
theorem d_Opcodes_isArithmetic_27 : decode b_Opcodes_isArithmetic 27 = .ok (.ifCond .eq 7, 3) := by decide +kernel
theorem d_Opcodes_isArithmetic_30 : decode b_Opcodes_isArithmetic 30 = .ok (.iconst 1, 1) := by decide +kernel
theorem d_Opcodes_isArithmetic_31 : decode b_Opcodes_isArithmetic 31 = .ok (.goto 4, 3) := by decide +kernel
theorem d_Opcodes_isArithmetic_34 : decode b_Opcodes_isArithmetic 34 = .ok (.iconst 0, 1) := by decide +kernel
theorem d_Opcodes_isArithmetic_35 : decode b_Opcodes_isArithmetic 35 = .ok (.ireturn, 1) := by decide +kernel
theorem d_Opcodes_isCall_0 : decode b_Opcodes_isCall 0 = .ok (.iload_n 0, 1) := by decide +kernel
theorem d_Opcodes_isCall_1 : decode b_Opcodes_isCall 1 = .ok (.sipush 182, 3) := by decide +kernel
theorem d_Opcodes_isCall_4 : decode b_Opcodes_isCall 4 = .ok (.sipush 184, 3) := by decide +kernel
theorem d_Opcodes_isCall_7 : decode b_Opcodes_isCall 7 = .ok (.invokestatic 9, 3) := by decide +kernel
theorem d_Opcodes_isCall_10 : decode b_Opcodes_isCall 10 = .ok (.ireturn, 1) := by decide +kernel
theorem d_Opcodes_isFieldUse_0 : decode b_Opcodes_isFieldUse 0 = .ok (.iload_n 0, 1) := by decide +kernel
theorem d_Opcodes_isFieldUse_1 : decode b_Opcodes_isFieldUse 1 = .ok (.sipush 178, 3) := by decide +kernel
theorem d_Opcodes_isFieldUse_4 : decode b_Opcodes_isFieldUse 4 = .ok (.sipush 181, 3) := by decide +kernel
theorem d_Opcodes_isFieldUse_7 : decode b_Opcodes_isFieldUse 7 = .ok (.invokestatic 9, 3) := by decide +kernel
theorem d_Opcodes_isFieldUse_10 : decode b_Opcodes_isFieldUse 10 = .ok (.ireturn, 1) := by decide +kernel
theorem d_Opcodes_isReturn_0 : decode b_Opcodes_isReturn 0 = .ok (.iload_n 0, 1) := by decide +kernel
theorem d_Opcodes_isReturn_1 : decode b_Opcodes_isReturn 1 = .ok (.sipush 172, 3) := by decide +kernel
theorem d_Opcodes_isReturn_4 : decode b_Opcodes_isReturn 4 = .ok (.sipush 177, 3) := by decide +kernel
theorem d_Opcodes_isReturn_7 : decode b_Opcodes_isReturn 7 = .ok (.invokestatic 9, 3) := by decide +kernel
theorem d_Opcodes_isReturn_10 : decode b_Opcodes_isReturn 10 = .ok (.ireturn, 1) := by decide +kernel
theorem d_Opcodes_isShuffle_0 : decode b_Opcodes_isShuffle 0 = .ok (.iload_n 0, 1) := by decide +kernel
theorem d_Opcodes_isShuffle_1 : decode b_Opcodes_isShuffle 1 = .ok (.bipush 87, 2) := by decide +kernel
theorem d_Opcodes_isShuffle_3 : decode b_Opcodes_isShuffle 3 = .ok (.bipush 95, 2) := by decide +kernel
theorem d_Opcodes_isShuffle_5 : decode b_Opcodes_isShuffle 5 = .ok (.invokestatic 9, 3) := by decide +kernel
theorem d_Opcodes_isShuffle_8 : decode b_Opcodes_isShuffle 8 = .ok (.ireturn, 1) := by decide +kernel
theorem d_Opcodes_isStore_0 : decode b_Opcodes_isStore 0 = .ok (.iload_n 0, 1) := by decide +kernel
theorem d_Opcodes_isStore_1 : decode b_Opcodes_isStore 1 = .ok (.bipush 54, 2) := by decide +kernel
theorem d_Opcodes_isStore_3 : decode b_Opcodes_isStore 3 = .ok (.bipush 78, 2) := by decide +kernel
theorem d_Opcodes_isStore_5 : decode b_Opcodes_isStore 5 = .ok (.invokestatic 9, 3) := by decide +kernel
theorem d_Opcodes_isStore_8 : decode b_Opcodes_isStore 8 = .ok (.ireturn, 1) := by decide +kernel
theorem d_Opcodes_isWithin_0 : decode b_Opcodes_isWithin 0 = .ok (.iload_n 0, 1) := by decide +kernel
theorem d_Opcodes_isWithin_1 : decode b_Opcodes_isWithin 1 = .ok (.iload_n 1, 1) := by decide +kernel
theorem d_Opcodes_isWithin_2 : decode b_Opcodes_isWithin 2 = .ok (.if_icmp .lt 12, 3) := by decide +kernel
theorem d_Opcodes_isWithin_5 : decode b_Opcodes_isWithin 5 = .ok (.iload_n 0, 1) := by decide +kernel
theorem d_Opcodes_isWithin_6 : decode b_Opcodes_isWithin 6 = .ok (.iload_n 2, 1) := by decide +kernel
theorem d_Opcodes_isWithin_7 : decode b_Opcodes_isWithin 7 = .ok (.if_icmp .gt 7, 3) := by decide +kernel
theorem d_Opcodes_isWithin_10 : decode b_Opcodes_isWithin 10 = .ok (.iconst 1, 1) := by decide +kernel
theorem d_Opcodes_isWithin_11 : decode b_Opcodes_isWithin 11 = .ok (.goto 4, 3) := by decide +kernel
theorem d_Opcodes_isWithin_14 : decode b_Opcodes_isWithin 14 = .ok (.iconst 0, 1) := by decide +kernel
theorem d_Opcodes_isWithin_15 : decode b_Opcodes_isWithin 15 = .ok (.ireturn, 1) := by decide +kernel
theorem d_Opcodes_lengthOf_0 : decode b_Opcodes_lengthOf 0 = .ok (.iload_n 0, 1) := by decide +kernel
theorem d_Opcodes_lengthOf_1 : decode b_Opcodes_lengthOf 1 = .ok (.lookupswitch 143 #[(16, 139), (17, 141), (18, 139), (20, 141), (21, 139), (22, 139), (25, 139), (54, 139), (55, 139), (58, 139), (132, 141), (187, 141), (192, 141), (193, 141), (198, 141), (199, 141)], 139) := by decide +kernel
theorem d_Opcodes_lengthOf_140 : decode b_Opcodes_lengthOf 140 = .ok (.iconst 2, 1) := by decide +kernel
theorem d_Opcodes_lengthOf_141 : decode b_Opcodes_lengthOf 141 = .ok (.ireturn, 1) := by decide +kernel
theorem d_Opcodes_lengthOf_142 : decode b_Opcodes_lengthOf 142 = .ok (.iconst 3, 1) := by decide +kernel
theorem d_Opcodes_lengthOf_143 : decode b_Opcodes_lengthOf 143 = .ok (.ireturn, 1) := by decide +kernel
theorem d_Opcodes_lengthOf_144 : decode b_Opcodes_lengthOf 144 = .ok (.iload_n 0, 1) := by decide +kernel
theorem d_Opcodes_lengthOf_145 : decode b_Opcodes_lengthOf 145 = .ok (.sipush 153, 3) := by decide +kernel
theorem d_Opcodes_lengthOf_148 : decode b_Opcodes_lengthOf 148 = .ok (.sipush 167, 3) := by decide +kernel
theorem d_Opcodes_lengthOf_151 : decode b_Opcodes_lengthOf 151 = .ok (.invokestatic 9, 3) := by decide +kernel
theorem d_Opcodes_lengthOf_154 : decode b_Opcodes_lengthOf 154 = .ok (.ifCond .ne 16, 3) := by decide +kernel
theorem d_Opcodes_lengthOf_157 : decode b_Opcodes_lengthOf 157 = .ok (.iload_n 0, 1) := by decide +kernel
theorem d_Opcodes_lengthOf_158 : decode b_Opcodes_lengthOf 158 = .ok (.sipush 178, 3) := by decide +kernel
theorem d_Opcodes_lengthOf_161 : decode b_Opcodes_lengthOf 161 = .ok (.sipush 184, 3) := by decide +kernel
theorem d_Opcodes_lengthOf_164 : decode b_Opcodes_lengthOf 164 = .ok (.invokestatic 9, 3) := by decide +kernel
theorem d_Opcodes_lengthOf_167 : decode b_Opcodes_lengthOf 167 = .ok (.ifCond .eq 5, 3) := by decide +kernel
theorem d_Opcodes_lengthOf_170 : decode b_Opcodes_lengthOf 170 = .ok (.iconst 3, 1) := by decide +kernel
theorem d_Opcodes_lengthOf_171 : decode b_Opcodes_lengthOf 171 = .ok (.ireturn, 1) := by decide +kernel
theorem d_Opcodes_lengthOf_172 : decode b_Opcodes_lengthOf 172 = .ok (.iload_n 0, 1) := by decide +kernel
theorem d_Opcodes_lengthOf_173 : decode b_Opcodes_lengthOf 173 = .ok (.invokestatic 15, 3) := by decide +kernel
theorem d_Opcodes_lengthOf_176 : decode b_Opcodes_lengthOf 176 = .ok (.ifCond .eq 7, 3) := by decide +kernel
theorem d_Opcodes_lengthOf_179 : decode b_Opcodes_lengthOf 179 = .ok (.iconst 1, 1) := by decide +kernel
theorem d_Opcodes_lengthOf_180 : decode b_Opcodes_lengthOf 180 = .ok (.goto 4, 3) := by decide +kernel
theorem d_Opcodes_lengthOf_183 : decode b_Opcodes_lengthOf 183 = .ok (.iconst 0, 1) := by decide +kernel
theorem d_Opcodes_lengthOf_184 : decode b_Opcodes_lengthOf 184 = .ok (.ireturn, 1) := by decide +kernel
theorem d_Opcodes_localKindOf_0 : decode b_Opcodes_localKindOf 0 = .ok (.iload_n 0, 1) := by decide +kernel
theorem d_Opcodes_localKindOf_1 : decode b_Opcodes_localKindOf 1 = .ok (.bipush 22, 2) := by decide +kernel
theorem d_Opcodes_localKindOf_3 : decode b_Opcodes_localKindOf 3 = .ok (.if_icmp .eq 31, 3) := by decide +kernel
theorem d_Opcodes_localKindOf_6 : decode b_Opcodes_localKindOf 6 = .ok (.iload_n 0, 1) := by decide +kernel
theorem d_Opcodes_localKindOf_7 : decode b_Opcodes_localKindOf 7 = .ok (.bipush 55, 2) := by decide +kernel
theorem d_Opcodes_localKindOf_9 : decode b_Opcodes_localKindOf 9 = .ok (.if_icmp .eq 25, 3) := by decide +kernel
theorem d_Opcodes_localKindOf_12 : decode b_Opcodes_localKindOf 12 = .ok (.iload_n 0, 1) := by decide +kernel
theorem d_Opcodes_localKindOf_13 : decode b_Opcodes_localKindOf 13 = .ok (.bipush 30, 2) := by decide +kernel
theorem d_Opcodes_localKindOf_15 : decode b_Opcodes_localKindOf 15 = .ok (.bipush 33, 2) := by decide +kernel
theorem d_Opcodes_localKindOf_17 : decode b_Opcodes_localKindOf 17 = .ok (.invokestatic 9, 3) := by decide +kernel
theorem d_Opcodes_localKindOf_20 : decode b_Opcodes_localKindOf 20 = .ok (.ifCond .ne 14, 3) := by decide +kernel
theorem d_Opcodes_localKindOf_23 : decode b_Opcodes_localKindOf 23 = .ok (.iload_n 0, 1) := by decide +kernel
theorem d_Opcodes_localKindOf_24 : decode b_Opcodes_localKindOf 24 = .ok (.bipush 63, 2) := by decide +kernel
theorem d_Opcodes_localKindOf_26 : decode b_Opcodes_localKindOf 26 = .ok (.bipush 66, 2) := by decide +kernel
theorem d_Opcodes_localKindOf_28 : decode b_Opcodes_localKindOf 28 = .ok (.invokestatic 9, 3) := by decide +kernel
theorem d_Opcodes_localKindOf_31 : decode b_Opcodes_localKindOf 31 = .ok (.ifCond .eq 5, 3) := by decide +kernel
theorem d_Opcodes_localKindOf_34 : decode b_Opcodes_localKindOf 34 = .ok (.iconst 2, 1) := by decide +kernel
theorem d_Opcodes_localKindOf_35 : decode b_Opcodes_localKindOf 35 = .ok (.ireturn, 1) := by decide +kernel
theorem d_Opcodes_localKindOf_36 : decode b_Opcodes_localKindOf 36 = .ok (.iload_n 0, 1) := by decide +kernel
theorem d_Opcodes_localKindOf_37 : decode b_Opcodes_localKindOf 37 = .ok (.bipush 25, 2) := by decide +kernel
theorem d_Opcodes_localKindOf_39 : decode b_Opcodes_localKindOf 39 = .ok (.if_icmp .eq 31, 3) := by decide +kernel
theorem d_Opcodes_localKindOf_42 : decode b_Opcodes_localKindOf 42 = .ok (.iload_n 0, 1) := by decide +kernel
theorem d_Opcodes_localKindOf_43 : decode b_Opcodes_localKindOf 43 = .ok (.bipush 58, 2) := by decide +kernel
theorem d_Opcodes_localKindOf_45 : decode b_Opcodes_localKindOf 45 = .ok (.if_icmp .eq 25, 3) := by decide +kernel
theorem d_Opcodes_localKindOf_48 : decode b_Opcodes_localKindOf 48 = .ok (.iload_n 0, 1) := by decide +kernel
theorem d_Opcodes_localKindOf_49 : decode b_Opcodes_localKindOf 49 = .ok (.bipush 42, 2) := by decide +kernel
theorem d_Opcodes_localKindOf_51 : decode b_Opcodes_localKindOf 51 = .ok (.bipush 45, 2) := by decide +kernel
theorem d_Opcodes_localKindOf_53 : decode b_Opcodes_localKindOf 53 = .ok (.invokestatic 9, 3) := by decide +kernel
theorem d_Opcodes_localKindOf_56 : decode b_Opcodes_localKindOf 56 = .ok (.ifCond .ne 14, 3) := by decide +kernel
theorem d_Opcodes_localKindOf_59 : decode b_Opcodes_localKindOf 59 = .ok (.iload_n 0, 1) := by decide +kernel
theorem d_Opcodes_localKindOf_60 : decode b_Opcodes_localKindOf 60 = .ok (.bipush 75, 2) := by decide +kernel
theorem d_Opcodes_localKindOf_62 : decode b_Opcodes_localKindOf 62 = .ok (.bipush 78, 2) := by decide +kernel
theorem d_Opcodes_localKindOf_64 : decode b_Opcodes_localKindOf 64 = .ok (.invokestatic 9, 3) := by decide +kernel
theorem d_Opcodes_localKindOf_67 : decode b_Opcodes_localKindOf 67 = .ok (.ifCond .eq 7, 3) := by decide +kernel
theorem d_Opcodes_localKindOf_70 : decode b_Opcodes_localKindOf 70 = .ok (.iconst 4, 1) := by decide +kernel
theorem d_Opcodes_localKindOf_71 : decode b_Opcodes_localKindOf 71 = .ok (.goto 4, 3) := by decide +kernel
theorem d_Opcodes_localKindOf_74 : decode b_Opcodes_localKindOf 74 = .ok (.iconst 1, 1) := by decide +kernel
theorem d_Opcodes_localKindOf_75 : decode b_Opcodes_localKindOf 75 = .ok (.ireturn, 1) := by decide +kernel
theorem d_Opcodes_localOf_0 : decode b_Opcodes_localOf 0 = .ok (.iload_n 0, 1) := by decide +kernel
theorem d_Opcodes_localOf_1 : decode b_Opcodes_localOf 1 = .ok (.bipush 26, 2) := by decide +kernel
theorem d_Opcodes_localOf_3 : decode b_Opcodes_localOf 3 = .ok (.bipush 45, 2) := by decide +kernel
theorem d_Opcodes_localOf_5 : decode b_Opcodes_localOf 5 = .ok (.invokestatic 9, 3) := by decide +kernel
theorem d_Opcodes_localOf_8 : decode b_Opcodes_localOf 8 = .ok (.ifCond .eq 10, 3) := by decide +kernel
theorem d_Opcodes_localOf_11 : decode b_Opcodes_localOf 11 = .ok (.iload_n 0, 1) := by decide +kernel
theorem d_Opcodes_localOf_12 : decode b_Opcodes_localOf 12 = .ok (.bipush 26, 2) := by decide +kernel
theorem d_Opcodes_localOf_14 : decode b_Opcodes_localOf 14 = .ok (.isub, 1) := by decide +kernel
theorem d_Opcodes_localOf_15 : decode b_Opcodes_localOf 15 = .ok (.iconst 3, 1) := by decide +kernel
theorem d_Opcodes_localOf_16 : decode b_Opcodes_localOf 16 = .ok (.iand, 1) := by decide +kernel
theorem d_Opcodes_localOf_17 : decode b_Opcodes_localOf 17 = .ok (.ireturn, 1) := by decide +kernel
theorem d_Opcodes_localOf_18 : decode b_Opcodes_localOf 18 = .ok (.iload_n 0, 1) := by decide +kernel
theorem d_Opcodes_localOf_19 : decode b_Opcodes_localOf 19 = .ok (.bipush 59, 2) := by decide +kernel
theorem d_Opcodes_localOf_21 : decode b_Opcodes_localOf 21 = .ok (.bipush 78, 2) := by decide +kernel
theorem d_Opcodes_localOf_23 : decode b_Opcodes_localOf 23 = .ok (.invokestatic 9, 3) := by decide +kernel
theorem d_Opcodes_localOf_26 : decode b_Opcodes_localOf 26 = .ok (.ifCond .eq 12, 3) := by decide +kernel
theorem d_Opcodes_localOf_29 : decode b_Opcodes_localOf 29 = .ok (.iload_n 0, 1) := by decide +kernel
theorem d_Opcodes_localOf_30 : decode b_Opcodes_localOf 30 = .ok (.bipush 59, 2) := by decide +kernel
theorem d_Opcodes_localOf_32 : decode b_Opcodes_localOf 32 = .ok (.isub, 1) := by decide +kernel
theorem d_Opcodes_localOf_33 : decode b_Opcodes_localOf 33 = .ok (.iconst 3, 1) := by decide +kernel
theorem d_Opcodes_localOf_34 : decode b_Opcodes_localOf 34 = .ok (.iand, 1) := by decide +kernel
theorem d_Opcodes_localOf_35 : decode b_Opcodes_localOf 35 = .ok (.goto 4, 3) := by decide +kernel
theorem d_Opcodes_localOf_38 : decode b_Opcodes_localOf 38 = .ok (.iload_n 1, 1) := by decide +kernel
theorem d_Opcodes_localOf_39 : decode b_Opcodes_localOf 39 = .ok (.ireturn, 1) := by decide +kernel
theorem d_Opcodes_mayJump_0 : decode b_Opcodes_mayJump 0 = .ok (.iload_n 0, 1) := by decide +kernel
theorem d_Opcodes_mayJump_1 : decode b_Opcodes_mayJump 1 = .ok (.sipush 153, 3) := by decide +kernel
theorem d_Opcodes_mayJump_4 : decode b_Opcodes_mayJump 4 = .ok (.sipush 167, 3) := by decide +kernel
theorem d_Opcodes_mayJump_7 : decode b_Opcodes_mayJump 7 = .ok (.invokestatic 9, 3) := by decide +kernel
theorem d_Opcodes_mayJump_10 : decode b_Opcodes_mayJump 10 = .ok (.ifCond .ne 17, 3) := by decide +kernel
theorem d_Opcodes_mayJump_13 : decode b_Opcodes_mayJump 13 = .ok (.iload_n 0, 1) := by decide +kernel
theorem d_Opcodes_mayJump_14 : decode b_Opcodes_mayJump 14 = .ok (.sipush 198, 3) := by decide +kernel
theorem d_Opcodes_mayJump_17 : decode b_Opcodes_mayJump 17 = .ok (.if_icmp .eq 10, 3) := by decide +kernel
theorem d_Opcodes_mayJump_20 : decode b_Opcodes_mayJump 20 = .ok (.iload_n 0, 1) := by decide +kernel
theorem d_Opcodes_mayJump_21 : decode b_Opcodes_mayJump 21 = .ok (.sipush 199, 3) := by decide +kernel
theorem d_Opcodes_mayJump_24 : decode b_Opcodes_mayJump 24 = .ok (.if_icmp .ne 7, 3) := by decide +kernel
theorem d_Opcodes_mayJump_27 : decode b_Opcodes_mayJump 27 = .ok (.iconst 1, 1) := by decide +kernel
theorem d_Opcodes_mayJump_28 : decode b_Opcodes_mayJump 28 = .ok (.goto 4, 3) := by decide +kernel
theorem d_Opcodes_mayJump_31 : decode b_Opcodes_mayJump 31 = .ok (.iconst 0, 1) := by decide +kernel
theorem d_Opcodes_mayJump_32 : decode b_Opcodes_mayJump 32 = .ok (.ireturn, 1) := by decide +kernel
theorem d_Opcodes_tagOf_0 : decode b_Opcodes_tagOf 0 = .ok (.iload_n 0, 1) := by decide +kernel
theorem d_Opcodes_tagOf_1 : decode b_Opcodes_tagOf 1 = .ok (.bipush 20, 2) := by decide +kernel
theorem d_Opcodes_tagOf_3 : decode b_Opcodes_tagOf 3 = .ok (.if_icmp .ne 5, 3) := by decide +kernel
theorem d_Opcodes_tagOf_6 : decode b_Opcodes_tagOf 6 = .ok (.iconst 5, 1) := by decide +kernel
theorem d_Opcodes_tagOf_7 : decode b_Opcodes_tagOf 7 = .ok (.ireturn, 1) := by decide +kernel
theorem d_Opcodes_tagOf_8 : decode b_Opcodes_tagOf 8 = .ok (.iload_n 0, 1) := by decide +kernel
theorem d_Opcodes_tagOf_9 : decode b_Opcodes_tagOf 9 = .ok (.invokestatic 25, 3) := by decide +kernel
theorem d_Opcodes_tagOf_12 : decode b_Opcodes_tagOf 12 = .ok (.ifCond .eq 6, 3) := by decide +kernel
theorem d_Opcodes_tagOf_15 : decode b_Opcodes_tagOf 15 = .ok (.bipush 9, 2) := by decide +kernel
theorem d_Opcodes_tagOf_17 : decode b_Opcodes_tagOf 17 = .ok (.ireturn, 1) := by decide +kernel
theorem d_Opcodes_tagOf_18 : decode b_Opcodes_tagOf 18 = .ok (.iload_n 0, 1) := by decide +kernel
theorem d_Opcodes_tagOf_19 : decode b_Opcodes_tagOf 19 = .ok (.invokestatic 28, 3) := by decide +kernel
theorem d_Opcodes_tagOf_22 : decode b_Opcodes_tagOf 22 = .ok (.ifCond .eq 8, 3) := by decide +kernel
theorem d_Opcodes_tagOf_25 : decode b_Opcodes_tagOf 25 = .ok (.bipush 10, 2) := by decide +kernel
theorem d_Opcodes_tagOf_27 : decode b_Opcodes_tagOf 27 = .ok (.goto 5, 3) := by decide +kernel
theorem d_Opcodes_tagOf_30 : decode b_Opcodes_tagOf 30 = .ok (.bipush 7, 2) := by decide +kernel
theorem d_Opcodes_tagOf_32 : decode b_Opcodes_tagOf 32 = .ok (.ireturn, 1) := by decide +kernel
theorem d_Opcodes_tellsConstant_0 : decode b_Opcodes_tellsConstant 0 = .ok (.iload_n 0, 1) := by decide +kernel
theorem d_Opcodes_tellsConstant_1 : decode b_Opcodes_tellsConstant 1 = .ok (.bipush 20, 2) := by decide +kernel
theorem d_Opcodes_tellsConstant_3 : decode b_Opcodes_tellsConstant 3 = .ok (.if_icmp .eq 38, 3) := by decide +kernel
theorem d_Opcodes_tellsConstant_6 : decode b_Opcodes_tellsConstant 6 = .ok (.iload_n 0, 1) := by decide +kernel
theorem d_Opcodes_tellsConstant_7 : decode b_Opcodes_tellsConstant 7 = .ok (.sipush 187, 3) := by decide +kernel
theorem d_Opcodes_tellsConstant_10 : decode b_Opcodes_tellsConstant 10 = .ok (.if_icmp .eq 31, 3) := by decide +kernel
theorem d_Opcodes_tellsConstant_13 : decode b_Opcodes_tellsConstant 13 = .ok (.iload_n 0, 1) := by decide +kernel
theorem d_Opcodes_tellsConstant_14 : decode b_Opcodes_tellsConstant 14 = .ok (.sipush 192, 3) := by decide +kernel
theorem d_Opcodes_tellsConstant_17 : decode b_Opcodes_tellsConstant 17 = .ok (.if_icmp .eq 24, 3) := by decide +kernel
theorem d_Opcodes_tellsConstant_20 : decode b_Opcodes_tellsConstant 20 = .ok (.iload_n 0, 1) := by decide +kernel
theorem d_Opcodes_tellsConstant_21 : decode b_Opcodes_tellsConstant 21 = .ok (.sipush 193, 3) := by decide +kernel
theorem d_Opcodes_tellsConstant_24 : decode b_Opcodes_tellsConstant 24 = .ok (.if_icmp .eq 17, 3) := by decide +kernel
theorem d_Opcodes_tellsConstant_27 : decode b_Opcodes_tellsConstant 27 = .ok (.iload_n 0, 1) := by decide +kernel
theorem d_Opcodes_tellsConstant_28 : decode b_Opcodes_tellsConstant 28 = .ok (.invokestatic 25, 3) := by decide +kernel
theorem d_Opcodes_tellsConstant_31 : decode b_Opcodes_tellsConstant 31 = .ok (.ifCond .ne 10, 3) := by decide +kernel
theorem d_Opcodes_tellsConstant_34 : decode b_Opcodes_tellsConstant 34 = .ok (.iload_n 0, 1) := by decide +kernel
theorem d_Opcodes_tellsConstant_35 : decode b_Opcodes_tellsConstant 35 = .ok (.invokestatic 28, 3) := by decide +kernel
theorem d_Opcodes_tellsConstant_38 : decode b_Opcodes_tellsConstant 38 = .ok (.ifCond .eq 7, 3) := by decide +kernel
theorem d_Opcodes_tellsConstant_41 : decode b_Opcodes_tellsConstant 41 = .ok (.iconst 1, 1) := by decide +kernel
theorem d_Opcodes_tellsConstant_42 : decode b_Opcodes_tellsConstant 42 = .ok (.goto 4, 3) := by decide +kernel
theorem d_Opcodes_tellsConstant_45 : decode b_Opcodes_tellsConstant 45 = .ok (.iconst 0, 1) := by decide +kernel
theorem d_Opcodes_tellsConstant_46 : decode b_Opcodes_tellsConstant 46 = .ok (.ireturn, 1) := by decide +kernel
theorem d_Opcodes_tellsLocal_0 : decode b_Opcodes_tellsLocal 0 = .ok (.iload_n 0, 1) := by decide +kernel
theorem d_Opcodes_tellsLocal_1 : decode b_Opcodes_tellsLocal 1 = .ok (.sipush 132, 3) := by decide +kernel
theorem d_Opcodes_tellsLocal_4 : decode b_Opcodes_tellsLocal 4 = .ok (.if_icmp .eq 21, 3) := by decide +kernel
theorem d_Opcodes_tellsLocal_7 : decode b_Opcodes_tellsLocal 7 = .ok (.iload_n 0, 1) := by decide +kernel
theorem d_Opcodes_tellsLocal_8 : decode b_Opcodes_tellsLocal 8 = .ok (.bipush 21, 2) := by decide +kernel
theorem d_Opcodes_tellsLocal_10 : decode b_Opcodes_tellsLocal 10 = .ok (.bipush 45, 2) := by decide +kernel
theorem d_Opcodes_tellsLocal_12 : decode b_Opcodes_tellsLocal 12 = .ok (.invokestatic 9, 3) := by decide +kernel
theorem d_Opcodes_tellsLocal_15 : decode b_Opcodes_tellsLocal 15 = .ok (.ifCond .ne 10, 3) := by decide +kernel
theorem d_Opcodes_tellsLocal_18 : decode b_Opcodes_tellsLocal 18 = .ok (.iload_n 0, 1) := by decide +kernel
theorem d_Opcodes_tellsLocal_19 : decode b_Opcodes_tellsLocal 19 = .ok (.invokestatic 22, 3) := by decide +kernel
theorem d_Opcodes_tellsLocal_22 : decode b_Opcodes_tellsLocal 22 = .ok (.ifCond .eq 7, 3) := by decide +kernel
theorem d_Opcodes_tellsLocal_25 : decode b_Opcodes_tellsLocal 25 = .ok (.iconst 1, 1) := by decide +kernel
theorem d_Opcodes_tellsLocal_26 : decode b_Opcodes_tellsLocal 26 = .ok (.goto 4, 3) := by decide +kernel
theorem d_Opcodes_tellsLocal_29 : decode b_Opcodes_tellsLocal 29 = .ok (.iconst 0, 1) := by decide +kernel
theorem d_Opcodes_tellsLocal_30 : decode b_Opcodes_tellsLocal 30 = .ok (.ireturn, 1) := by decide +kernel
end
