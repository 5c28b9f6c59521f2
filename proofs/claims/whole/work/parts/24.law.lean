set_option maxHeartbeats 4000000 in
set_option maxRecDepth 100000 in
theorem c_Law_feed (l : Launch) (hfl : l.flags = flags0) (g : tw_G) (sz : Nat) (h0 r n o : Nat) (q : Nat → Nat) (f : Nat → Int32) (ig many a b c1 d : Int32) (o0 : Int64) (hn : n ≤ 600) : Met l y_Law_feed [.codeWith y_Law_feed b_Law_feed 8 (some .int) [(0, 16, 19, 13), (0, 16, 23, 15)]] ({ frames := 7, cells := 1, slots := 6, locals := 108 }) (tw_P g [.ref h0, .int many, .int a, .int b, .int c1, .int d, .ref o] [(h0, .inr (9, [.ref (q 0), .ref (q 1), .ref (q 2), .ref (q 3), .ref (q 4), .ref (q 5), .ref (q 6), .ref (q 7), .int ig])), ((q 0), .inr (2, [.ref r, .int (nI n)])), (r, aB g 600 f), (o, aJ g 1 (fun _ => o0))] sz) (tw_Qi g (fun k (u : Nat × Int64) => (k = 1 ∧ (many < 0 ∨ 16 < many) ∧ u = (0, o0)) ∨ (k = 2 ∧ (¬ many < 0 ∧ many ≤ 16 ∧ 600 < nI n + many) ∧ u = (0, o0)) ∨ (k = 0 ∧ many = nI u.1 ∧ u.1 ≤ 16 ∧ n + u.1 ≤ 600 ∧ u.2 = (nI (n + u.1)).toInt64)) (fun u : Nat × Int64 => [(h0, .inr (9, [.ref (q 0), .ref (q 1), .ref (q 2), .ref (q 3), .ref (q 4), .ref (q 5), .ref (q 6), .ref (q 7), .int ig])), ((q 0), .inr (2, [.ref r, .int (nI (n + u.1))])), (r, aB g 600 (fd_f f n a b c1 d u.1)), (o, aJ g 1 (fun _ => u.2))]) (va_A [(h0, .inr (9, [.ref (q 0), .ref (q 1), .ref (q 2), .ref (q 3), .ref (q 4), .ref (q 5), .ref (q 6), .ref (q 7), .int ig])), ((q 0), .inr (2, [.ref r, .int (nI n)])), (r, aB g 600 f), (o, aJ g 1 (fun _ => o0))] sz)) 1 6 (va_A [(h0, .inr (9, [.ref (q 0), .ref (q 1), .ref (q 2), .ref (q 3), .ref (q 4), .ref (q 5), .ref (q 6), .ref (q 7), .int ig])), ((q 0), .inr (2, [.ref r, .int (nI n)])), (r, aB g 600 f), (o, aJ g 1 (fun _ => o0))] sz) := by
  refine tw_metL (l := l) (g := g) (y := y_Law_feed) (cc := b_Law_feed) (maxL := 8) (ret := (some .int)) (hh := [(0, 16, 19, 13), (0, 16, 23, 15)]) (rm := { frames := 7, cells := 1, slots := 6, locals := 108 }) (mc := 1) (ms := 6) (av := [.ref h0, .int many, .int a, .int b, .int c1, .int d, .ref o]) (ws := [(h0, .inr (9, [.ref (q 0), .ref (q 1), .ref (q 2), .ref (q 3), .ref (q 4), .ref (q 5), .ref (q 6), .ref (q 7), .int ig])), ((q 0), .inr (2, [.ref r, .int (nI n)])), (r, aB g 600 f), (o, aJ g 1 (fun _ => o0))]) (sz := sz) (Qc := fun A => (tw_Qi g (fun k (u : Nat × Int64) => (k = 1 ∧ (many < 0 ∨ 16 < many) ∧ u = (0, o0)) ∨ (k = 2 ∧ (¬ many < 0 ∧ many ≤ 16 ∧ 600 < nI n + many) ∧ u = (0, o0)) ∨ (k = 0 ∧ many = nI u.1 ∧ u.1 ≤ 16 ∧ n + u.1 ≤ 600 ∧ u.2 = (nI (n + u.1)).toInt64)) (fun u : Nat × Int64 => [(h0, .inr (9, [.ref (q 0), .ref (q 1), .ref (q 2), .ref (q 3), .ref (q 4), .ref (q 5), .ref (q 6), .ref (q 7), .int ig])), ((q 0), .inr (2, [.ref r, .int (nI (n + u.1))])), (r, aB g 600 (fd_f f n a b c1 d u.1)), (o, aJ g 1 (fun _ => u.2))]) A)) (by decide) (Nat.le_of_ble_eq_true rfl) ?_
  intro p e s m below meth c ls H A E hB hK hZ hP hD hS hA hl htab
  have hN := hZ.2.1
  obtain ⟨hx, hb, hml, hr, hown, hts, hlocks, hin⟩ := id E
  have hl : lv_has ls 8 [(0, .ref h0), (1, .int many), (2, .int a), (3, .int b), (4, .int c1), (5, .int d), (6, .ref o)] := hl
  refine lv_aload hx hb d_Law_feed_0 (lv_at hl 6 rfl) ?_
  refine lv_iconst (v := 0) hx hb d_Law_feed_2 (by decide) ?_
  refine lv_aload_n hx hb d_Law_feed_3 rfl (lv_at hl 0 rfl) ?_
  refine lv_iload_n hx hb d_Law_feed_4 rfl (lv_at hl 1 rfl) ?_
  refine lv_iload_n hx hb d_Law_feed_5 rfl (lv_at hl 2 rfl) ?_
  refine lv_iload_n hx hb d_Law_feed_6 rfl (lv_at hl 3 rfl) ?_
  refine lv_iload hx hb d_Law_feed_7 (lv_at hl 4 rfl) ?_
  refine lv_iload hx hb d_Law_feed_9 (lv_at hl 5 rfl) ?_
  refine tw_callX (ws := [(h0, .inr (9, [.ref (q 0), .ref (q 1), .ref (q 2), .ref (q 3), .ref (q 4), .ref (q 5), .ref (q 6), .ref (q 7), .int ig])), ((q 0), .inr (2, [.ref r, .int (nI n)])), (r, aB g 600 f), (o, aJ g 1 (fun _ => o0))]) (wc := [(h0, .inr (9, [.ref (q 0), .ref (q 1), .ref (q 2), .ref (q 3), .ref (q 4), .ref (q 5), .ref (q 6), .ref (q 7), .int ig])), ((q 0), .inr (2, [.ref r, .int (nI n)])), (r, aB g 600 f)]) (wr := [(o, aJ g 1 (fun _ => o0))]) (As := [.int many, .int a, .int b, .int c1, .int d]) (rest := [.int 0, .ref o]) E hB hK hZ (c_Ship_feed l hfl g H.size h0 r n q f ig many a b c1 d hn) mc_Ship_feed mi_Ship_feed me_Ship_feed wd_1026 hP hD hS hA [0, 1, 2] [3] rfl rfl (by decide) (by decide) (by decide) 0 rfl rfl rfl rfl rfl (by decide) rfl hl.1 rfl (Nat.le_of_ble_eq_true rfl) (by decide) d_Law_feed_11 (fun rv u1 H locs hr hP hD hS => ?_) (fun Y x H locs hth hce hP hD hS => ?_)
  · try dsimp only at hr
    have hP : va_P g.1 classes [(o, aJ g 1 (fun _ => o0)), (h0, .inr (9, [.ref (q 0), .ref (q 1), .ref (q 2), .ref (q 3), .ref (q 4), .ref (q 5), .ref (q 6), .ref (q 7), .int ig])), ((q 0), .inr (2, [.ref r, .int (nI (n + u1))])), (r, aB g 600 (fd_f f n a b c1 d u1))] H := hP
    have hD : va_D A [(o, aJ g 1 (fun _ => o0)), (h0, .inr (9, [.ref (q 0), .ref (q 1), .ref (q 2), .ref (q 3), .ref (q 4), .ref (q 5), .ref (q 6), .ref (q 7), .int ig])), ((q 0), .inr (2, [.ref r, .int (nI (n + u1))])), (r, aB g 600 (fd_f f n a b c1 d u1))] := hD
    refine W.widen (k := 1) (n := 6) (by decide) (by decide) ?_
    have hP : va_P g.1 classes [(h0, .inr (9, [.ref (q 0), .ref (q 1), .ref (q 2), .ref (q 3), .ref (q 4), .ref (q 5), .ref (q 6), .ref (q 7), .int ig])), ((q 0), .inr (2, [.ref r, .int (nI (n + u1))])), (r, aB g 600 (fd_f f n a b c1 d u1)), (o, aJ g 1 (fun _ => o0))] H := hP.sub [1, 2, 3, 0] rfl
    have hD : va_D A [(h0, .inr (9, [.ref (q 0), .ref (q 1), .ref (q 2), .ref (q 3), .ref (q 4), .ref (q 5), .ref (q 6), .ref (q 7), .int ig])), ((q 0), .inr (2, [.ref r, .int (nI (n + u1))])), (r, aB g 600 (fd_f f n a b c1 d u1)), (o, aJ g 1 (fun _ => o0))] := hD.sub [1, 2, 3, 0] (by decide) rfl
    refine lv_i2l (v := rv.toInt64) hx hb d_Law_feed_14 rfl ?_
    refine va_last hx hb hK hP hD hS 3 2 rfl rfl (vp_in_nI (n := 0) (by decide) (by decide)) d_Law_feed_15 (fun H locs hP hD hS => ?_)
    have hP : va_P g.1 classes [(h0, .inr (9, [.ref (q 0), .ref (q 1), .ref (q 2), .ref (q 3), .ref (q 4), .ref (q 5), .ref (q 6), .ref (q 7), .int ig])), ((q 0), .inr (2, [.ref r, .int (nI (n + u1))])), (r, aB g 600 (fd_f f n a b c1 d u1)), (o, aJ g 1 (vp_updL (fun _ => o0) (0 : Int32).toNatClampNeg rv.toInt64))] H := hP
    have hD : va_D A [(h0, .inr (9, [.ref (q 0), .ref (q 1), .ref (q 2), .ref (q 3), .ref (q 4), .ref (q 5), .ref (q 6), .ref (q 7), .int ig])), ((q 0), .inr (2, [.ref r, .int (nI (n + u1))])), (r, aB g 600 (fd_f f n a b c1 d u1)), (o, aJ g 1 (vp_updL (fun _ => o0) (0 : Int32).toNatClampNeg rv.toInt64))] := hD
    refine lv_goto (tgt := 27) hx hb d_Law_feed_16 (by decide) ?_
    refine lv_iconst (v := 0) hx hb d_Law_feed_27 (by decide) ?_
    exact tw_iret E hS (u1, rv.toInt64) (Or.inr (Or.inr ⟨rfl, hr.1, hr.2.1, hr.2.2.1, by rw [hr.2.2.2]⟩)) (tw_PextL hP 3 rfl (tn_out _ _)) (hD.set (p := 3) rfl) d_Law_feed_28
  · rcases hth with ⟨rfl, hc⟩ | ⟨rfl, hc⟩
    · refine tw_catch1 (f := F0 m 11 ls [.int 0, .ref o]) (own := "ShippedClassLaw") rfl hown htab rfl (by decide) (hts _ wd_1024) (hts _ wd_1032) hce ?_
      refine W.eq (g2 := F0 m 19 ls [.ref x]) rfl ?_
      refine W.widen (k := 1) (n := 6) (by decide) (by decide) ?_
      refine lv_astore hx hb d_Law_feed_19 hl (by decide) rfl (fun ls hl => ?_)
      have hl : lv_has ls 8 [(7, .ref x), (0, .ref h0), (1, .int many), (2, .int a), (3, .int b), (4, .int c1), (5, .int d), (6, .ref o)] := hl
      refine lv_iconst (v := 1) hx hb d_Law_feed_21 (by decide) ?_
      exact tw_iret E hS (0, o0) (Or.inl ⟨rfl, hc, rfl⟩) hP hD d_Law_feed_22
    · refine tw_catch2 (f := F0 m 11 ls [.int 0, .ref o]) (own := "ShippedClassLaw") rfl hown htab rfl rfl (by decide) (by decide) (hts _ wd_1024) (hts _ wd_1025) (hts _ wd_1095) (tw_nc (Vm.Alike.refl s.vm) hN.1) hce ?_
      refine W.eq (g2 := F0 m 23 ls [.ref x]) rfl ?_
      refine W.widen (k := 1) (n := 6) (by decide) (by decide) ?_
      refine lv_astore hx hb d_Law_feed_23 hl (by decide) rfl (fun ls hl => ?_)
      have hl : lv_has ls 8 [(7, .ref x), (0, .ref h0), (1, .int many), (2, .int a), (3, .int b), (4, .int c1), (5, .int d), (6, .ref o)] := hl
      refine lv_iconst (v := 2) hx hb d_Law_feed_25 (by decide) ?_
      exact tw_iret E hS (0, o0) (Or.inr (Or.inl ⟨rfl, hc, rfl⟩)) hP hD d_Law_feed_26
set_option maxHeartbeats 4000000 in
set_option maxRecDepth 100000 in
theorem c_Law_put (l : Launch) (hfl : l.flags = flags0) (g : tw_G) (sz : Nat) (h0 r n o : Nat) (q : Nat → Nat) (f : Nat → Int32) (ig pl v : Int32) (o0 : Int64) (hn : n ≤ 600) : Met l y_Law_put [.codeWith y_Law_put b_Law_put 5 (some .int) [(0, 10, 13, 21), (0, 10, 17, 13)]] ({ frames := 7, cells := 1, slots := 6, locals := 104 }) (tw_P g [.ref h0, .int pl, .int v, .ref o] [(h0, .inr (9, [.ref (q 0), .ref (q 1), .ref (q 2), .ref (q 3), .ref (q 4), .ref (q 5), .ref (q 6), .ref (q 7), .int ig])), ((q 0), .inr (2, [.ref r, .int (nI n)])), (r, aB g 600 f), (o, aJ g 1 (fun _ => o0))] sz) (tw_Qi g (fun k (u : Int32 × Nat × Int64) => k = u.1 ∧ ((k = 1 ∧ (pl < 0 ∨ nI n ≤ pl)) ∨ (k = 2 ∧ (¬ pl < 0 ∧ pl < nI n ∧ (v < 0 ∨ 255 < v))) ∨ (k = 0 ∧ pl = nI u.2.1 ∧ u.2.1 < n ∧ ¬ v < 0 ∧ v ≤ 255 ∧ u.2.2 = (f u.2.1 &&& 255).toInt64))) (fun u : Int32 × Nat × Int64 => [(h0, .inr (9, [.ref (q 0), .ref (q 1), .ref (q 2), .ref (q 3), .ref (q 4), .ref (q 5), .ref (q 6), .ref (q 7), .int ig])), ((q 0), .inr (2, [.ref r, .int (nI n)])), (r, aB g 600 (if u.1 = 0 then upd f u.2.1 v.toInt8.toInt32 else f)), (o, aJ g 1 (fun _ => u.2.2))]) (va_A [(h0, .inr (9, [.ref (q 0), .ref (q 1), .ref (q 2), .ref (q 3), .ref (q 4), .ref (q 5), .ref (q 6), .ref (q 7), .int ig])), ((q 0), .inr (2, [.ref r, .int (nI n)])), (r, aB g 600 f), (o, aJ g 1 (fun _ => o0))] sz)) 1 6 (va_A [(h0, .inr (9, [.ref (q 0), .ref (q 1), .ref (q 2), .ref (q 3), .ref (q 4), .ref (q 5), .ref (q 6), .ref (q 7), .int ig])), ((q 0), .inr (2, [.ref r, .int (nI n)])), (r, aB g 600 f), (o, aJ g 1 (fun _ => o0))] sz) := by
  refine tw_metL (l := l) (g := g) (y := y_Law_put) (cc := b_Law_put) (maxL := 5) (ret := (some .int)) (hh := [(0, 10, 13, 21), (0, 10, 17, 13)]) (rm := { frames := 7, cells := 1, slots := 6, locals := 104 }) (mc := 1) (ms := 6) (av := [.ref h0, .int pl, .int v, .ref o]) (ws := [(h0, .inr (9, [.ref (q 0), .ref (q 1), .ref (q 2), .ref (q 3), .ref (q 4), .ref (q 5), .ref (q 6), .ref (q 7), .int ig])), ((q 0), .inr (2, [.ref r, .int (nI n)])), (r, aB g 600 f), (o, aJ g 1 (fun _ => o0))]) (sz := sz) (Qc := fun A => (tw_Qi g (fun k (u : Int32 × Nat × Int64) => k = u.1 ∧ ((k = 1 ∧ (pl < 0 ∨ nI n ≤ pl)) ∨ (k = 2 ∧ (¬ pl < 0 ∧ pl < nI n ∧ (v < 0 ∨ 255 < v))) ∨ (k = 0 ∧ pl = nI u.2.1 ∧ u.2.1 < n ∧ ¬ v < 0 ∧ v ≤ 255 ∧ u.2.2 = (f u.2.1 &&& 255).toInt64))) (fun u : Int32 × Nat × Int64 => [(h0, .inr (9, [.ref (q 0), .ref (q 1), .ref (q 2), .ref (q 3), .ref (q 4), .ref (q 5), .ref (q 6), .ref (q 7), .int ig])), ((q 0), .inr (2, [.ref r, .int (nI n)])), (r, aB g 600 (if u.1 = 0 then upd f u.2.1 v.toInt8.toInt32 else f)), (o, aJ g 1 (fun _ => u.2.2))]) A)) (by decide) (Nat.le_of_ble_eq_true rfl) ?_
  intro p e s m below meth c ls H A E hB hK hZ hP hD hS hA hl htab
  have hN := hZ.2.1
  obtain ⟨hx, hb, hml, hr, hown, hts, hlocks, hin⟩ := id E
  have hl : lv_has ls 5 [(0, .ref h0), (1, .int pl), (2, .int v), (3, .ref o)] := hl
  refine lv_aload_n hx hb d_Law_put_0 rfl (lv_at hl 3 rfl) ?_
  refine lv_iconst (v := 0) hx hb d_Law_put_1 (by decide) ?_
  refine lv_aload_n hx hb d_Law_put_2 rfl (lv_at hl 0 rfl) ?_
  refine lv_iload_n hx hb d_Law_put_3 rfl (lv_at hl 1 rfl) ?_
  refine lv_iload_n hx hb d_Law_put_4 rfl (lv_at hl 2 rfl) ?_
  refine tw_callX (ws := [(h0, .inr (9, [.ref (q 0), .ref (q 1), .ref (q 2), .ref (q 3), .ref (q 4), .ref (q 5), .ref (q 6), .ref (q 7), .int ig])), ((q 0), .inr (2, [.ref r, .int (nI n)])), (r, aB g 600 f), (o, aJ g 1 (fun _ => o0))]) (wc := [(h0, .inr (9, [.ref (q 0), .ref (q 1), .ref (q 2), .ref (q 3), .ref (q 4), .ref (q 5), .ref (q 6), .ref (q 7), .int ig])), ((q 0), .inr (2, [.ref r, .int (nI n)])), (r, aB g 600 f)]) (wr := [(o, aJ g 1 (fun _ => o0))]) (As := [.int pl, .int v]) (rest := [.int 0, .ref o]) E hB hK hZ (c_Ship_put l hfl g H.size h0 r n q f ig pl v hn) mc_Ship_put mi_Ship_put me_Ship_put wd_1116 hP hD hS hA [0, 1, 2] [3] rfl rfl (by decide) (by decide) (by decide) 0 rfl rfl rfl rfl rfl (by decide) rfl hl.1 rfl (Nat.le_of_ble_eq_true rfl) (by decide) d_Law_put_5 (fun rv u1 H locs hr hP hD hS => ?_) (fun Y x H locs hth hce hP hD hS => ?_)
  · try dsimp only at hr
    have hP : va_P g.1 classes [(o, aJ g 1 (fun _ => o0)), (h0, .inr (9, [.ref (q 0), .ref (q 1), .ref (q 2), .ref (q 3), .ref (q 4), .ref (q 5), .ref (q 6), .ref (q 7), .int ig])), ((q 0), .inr (2, [.ref r, .int (nI n)])), (r, aB g 600 (upd f u1 v.toInt8.toInt32))] H := hP
    have hD : va_D A [(o, aJ g 1 (fun _ => o0)), (h0, .inr (9, [.ref (q 0), .ref (q 1), .ref (q 2), .ref (q 3), .ref (q 4), .ref (q 5), .ref (q 6), .ref (q 7), .int ig])), ((q 0), .inr (2, [.ref r, .int (nI n)])), (r, aB g 600 (upd f u1 v.toInt8.toInt32))] := hD
    refine W.widen (k := 1) (n := 6) (by decide) (by decide) ?_
    have hP : va_P g.1 classes [(h0, .inr (9, [.ref (q 0), .ref (q 1), .ref (q 2), .ref (q 3), .ref (q 4), .ref (q 5), .ref (q 6), .ref (q 7), .int ig])), ((q 0), .inr (2, [.ref r, .int (nI n)])), (r, aB g 600 (upd f u1 v.toInt8.toInt32)), (o, aJ g 1 (fun _ => o0))] H := hP.sub [1, 2, 3, 0] rfl
    have hD : va_D A [(h0, .inr (9, [.ref (q 0), .ref (q 1), .ref (q 2), .ref (q 3), .ref (q 4), .ref (q 5), .ref (q 6), .ref (q 7), .int ig])), ((q 0), .inr (2, [.ref r, .int (nI n)])), (r, aB g 600 (upd f u1 v.toInt8.toInt32)), (o, aJ g 1 (fun _ => o0))] := hD.sub [1, 2, 3, 0] (by decide) rfl
    refine lv_i2l (v := rv.toInt64) hx hb d_Law_put_8 rfl ?_
    refine va_last hx hb hK hP hD hS 3 2 rfl rfl (vp_in_nI (n := 0) (by decide) (by decide)) d_Law_put_9 (fun H locs hP hD hS => ?_)
    have hP : va_P g.1 classes [(h0, .inr (9, [.ref (q 0), .ref (q 1), .ref (q 2), .ref (q 3), .ref (q 4), .ref (q 5), .ref (q 6), .ref (q 7), .int ig])), ((q 0), .inr (2, [.ref r, .int (nI n)])), (r, aB g 600 (upd f u1 v.toInt8.toInt32)), (o, aJ g 1 (vp_updL (fun _ => o0) (0 : Int32).toNatClampNeg rv.toInt64))] H := hP
    have hD : va_D A [(h0, .inr (9, [.ref (q 0), .ref (q 1), .ref (q 2), .ref (q 3), .ref (q 4), .ref (q 5), .ref (q 6), .ref (q 7), .int ig])), ((q 0), .inr (2, [.ref r, .int (nI n)])), (r, aB g 600 (upd f u1 v.toInt8.toInt32)), (o, aJ g 1 (vp_updL (fun _ => o0) (0 : Int32).toNatClampNeg rv.toInt64))] := hD
    refine lv_goto (tgt := 21) hx hb d_Law_put_10 (by decide) ?_
    refine lv_iconst (v := 0) hx hb d_Law_put_21 (by decide) ?_
    exact tw_iret E hS (0, u1, rv.toInt64) (⟨rfl, Or.inr (Or.inr ⟨rfl, hr.1, hr.2.1, hr.2.2.1, hr.2.2.2.1, by rw [hr.2.2.2.2]⟩)⟩) (tw_PextL hP 3 rfl (tn_out _ _)) (hD.set (p := 3) rfl) d_Law_put_22
  · rcases hth with ⟨rfl, hc⟩ | ⟨rfl, hc⟩
    · refine tw_catch1 (f := F0 m 5 ls [.int 0, .ref o]) (own := "ShippedClassLaw") rfl hown htab rfl (by decide) (hts _ wd_1115) (hts _ wd_1122) hce ?_
      refine W.eq (g2 := F0 m 13 ls [.ref x]) rfl ?_
      refine W.widen (k := 1) (n := 6) (by decide) (by decide) ?_
      refine lv_astore hx hb d_Law_put_13 hl (by decide) rfl (fun ls hl => ?_)
      have hl : lv_has ls 5 [(4, .ref x), (0, .ref h0), (1, .int pl), (2, .int v), (3, .ref o)] := hl
      refine lv_iconst (v := 1) hx hb d_Law_put_15 (by decide) ?_
      exact tw_iret E hS (1, 0, o0) (⟨rfl, Or.inl ⟨rfl, hc⟩⟩) hP hD d_Law_put_16
    · refine tw_catch2 (f := F0 m 5 ls [.int 0, .ref o]) (own := "ShippedClassLaw") rfl hown htab rfl rfl (by decide) (by decide) (hts _ wd_1115) (hts _ wd_1024) (hts _ wd_1032) (tw_nc (Vm.Alike.refl s.vm) hN.2.1) hce ?_
      refine W.eq (g2 := F0 m 17 ls [.ref x]) rfl ?_
      refine W.widen (k := 1) (n := 6) (by decide) (by decide) ?_
      refine lv_astore hx hb d_Law_put_17 hl (by decide) rfl (fun ls hl => ?_)
      have hl : lv_has ls 5 [(4, .ref x), (0, .ref h0), (1, .int pl), (2, .int v), (3, .ref o)] := hl
      refine lv_iconst (v := 2) hx hb d_Law_put_19 (by decide) ?_
      exact tw_iret E hS (2, 0, o0) (⟨rfl, Or.inr (Or.inl ⟨rfl, hc⟩)⟩) hP hD d_Law_put_20
set_option maxHeartbeats 4000000 in
set_option maxRecDepth 100000 in
theorem c_Law_cut (l : Launch) (hfl : l.flags = flags0) (g : tw_G) (sz : Nat) (h0 r n o : Nat) (q : Nat → Nat) (ig kc : Int32) (o0 : Int64) (hn : n ≤ 600) : Met l y_Law_cut [.codeWith y_Law_cut b_Law_cut 4 (some .int) [(0, 9, 12, 13)]] ({ frames := 7, cells := 1, slots := 6, locals := 103 }) (tw_P g [.ref h0, .int kc, .ref o] [(h0, .inr (9, [.ref (q 0), .ref (q 1), .ref (q 2), .ref (q 3), .ref (q 4), .ref (q 5), .ref (q 6), .ref (q 7), .int ig])), ((q 0), .inr (2, [.ref r, .int (nI n)])), (o, aJ g 1 (fun _ => o0))] sz) (tw_Qi g (fun k (u : Nat × Int64) => (k = 1 ∧ (kc < 0 ∨ nI n < kc) ∧ u = (n, o0)) ∨ (k = 0 ∧ kc = nI u.1 ∧ u.1 ≤ n ∧ u.2 = (nI (n - u.1)).toInt64)) (fun u : Nat × Int64 => [(h0, .inr (9, [.ref (q 0), .ref (q 1), .ref (q 2), .ref (q 3), .ref (q 4), .ref (q 5), .ref (q 6), .ref (q 7), .int ig])), ((q 0), .inr (2, [.ref r, .int (nI u.1)])), (o, aJ g 1 (fun _ => u.2))]) (va_A [(h0, .inr (9, [.ref (q 0), .ref (q 1), .ref (q 2), .ref (q 3), .ref (q 4), .ref (q 5), .ref (q 6), .ref (q 7), .int ig])), ((q 0), .inr (2, [.ref r, .int (nI n)])), (o, aJ g 1 (fun _ => o0))] sz)) 1 6 (va_A [(h0, .inr (9, [.ref (q 0), .ref (q 1), .ref (q 2), .ref (q 3), .ref (q 4), .ref (q 5), .ref (q 6), .ref (q 7), .int ig])), ((q 0), .inr (2, [.ref r, .int (nI n)])), (o, aJ g 1 (fun _ => o0))] sz) := by
  refine tw_metL (l := l) (g := g) (y := y_Law_cut) (cc := b_Law_cut) (maxL := 4) (ret := (some .int)) (hh := [(0, 9, 12, 13)]) (rm := { frames := 7, cells := 1, slots := 6, locals := 103 }) (mc := 1) (ms := 6) (av := [.ref h0, .int kc, .ref o]) (ws := [(h0, .inr (9, [.ref (q 0), .ref (q 1), .ref (q 2), .ref (q 3), .ref (q 4), .ref (q 5), .ref (q 6), .ref (q 7), .int ig])), ((q 0), .inr (2, [.ref r, .int (nI n)])), (o, aJ g 1 (fun _ => o0))]) (sz := sz) (Qc := fun A => (tw_Qi g (fun k (u : Nat × Int64) => (k = 1 ∧ (kc < 0 ∨ nI n < kc) ∧ u = (n, o0)) ∨ (k = 0 ∧ kc = nI u.1 ∧ u.1 ≤ n ∧ u.2 = (nI (n - u.1)).toInt64)) (fun u : Nat × Int64 => [(h0, .inr (9, [.ref (q 0), .ref (q 1), .ref (q 2), .ref (q 3), .ref (q 4), .ref (q 5), .ref (q 6), .ref (q 7), .int ig])), ((q 0), .inr (2, [.ref r, .int (nI u.1)])), (o, aJ g 1 (fun _ => u.2))]) A)) (by decide) (Nat.le_of_ble_eq_true rfl) ?_
  intro p e s m below meth c ls H A E hB hK hZ hP hD hS hA hl htab
  have hN := hZ.2.1
  obtain ⟨hx, hb, hml, hr, hown, hts, hlocks, hin⟩ := id E
  have hl : lv_has ls 4 [(0, .ref h0), (1, .int kc), (2, .ref o)] := hl
  refine lv_aload_n hx hb d_Law_cut_0 rfl (lv_at hl 2 rfl) ?_
  refine lv_iconst (v := 0) hx hb d_Law_cut_1 (by decide) ?_
  refine lv_aload_n hx hb d_Law_cut_2 rfl (lv_at hl 0 rfl) ?_
  refine lv_iload_n hx hb d_Law_cut_3 rfl (lv_at hl 1 rfl) ?_
  refine tw_callX (ws := [(h0, .inr (9, [.ref (q 0), .ref (q 1), .ref (q 2), .ref (q 3), .ref (q 4), .ref (q 5), .ref (q 6), .ref (q 7), .int ig])), ((q 0), .inr (2, [.ref r, .int (nI n)])), (o, aJ g 1 (fun _ => o0))]) (wc := [(h0, .inr (9, [.ref (q 0), .ref (q 1), .ref (q 2), .ref (q 3), .ref (q 4), .ref (q 5), .ref (q 6), .ref (q 7), .int ig])), ((q 0), .inr (2, [.ref r, .int (nI n)]))]) (wr := [(o, aJ g 1 (fun _ => o0))]) (As := [.int kc]) (rest := [.int 0, .ref o]) E hB hK hZ (c_Ship_cut l hfl g H.size h0 r n q ig kc hn) mc_Ship_cut mi_Ship_cut me_Ship_cut wd_1143 hP hD hS hA [0, 1] [2] rfl rfl (by decide) (by decide) (by decide) 0 rfl rfl rfl rfl rfl (by decide) rfl hl.1 rfl (Nat.le_of_ble_eq_true rfl) (by decide) d_Law_cut_4 (fun rv u1 H locs hr hP hD hS => ?_) (fun Y x H locs hth hce hP hD hS => ?_)
  · try dsimp only at hr
    have hP : va_P g.1 classes [(o, aJ g 1 (fun _ => o0)), (h0, .inr (9, [.ref (q 0), .ref (q 1), .ref (q 2), .ref (q 3), .ref (q 4), .ref (q 5), .ref (q 6), .ref (q 7), .int ig])), ((q 0), .inr (2, [.ref r, .int (nI u1)]))] H := hP
    have hD : va_D A [(o, aJ g 1 (fun _ => o0)), (h0, .inr (9, [.ref (q 0), .ref (q 1), .ref (q 2), .ref (q 3), .ref (q 4), .ref (q 5), .ref (q 6), .ref (q 7), .int ig])), ((q 0), .inr (2, [.ref r, .int (nI u1)]))] := hD
    refine W.widen (k := 1) (n := 6) (by decide) (by decide) ?_
    have hP : va_P g.1 classes [(h0, .inr (9, [.ref (q 0), .ref (q 1), .ref (q 2), .ref (q 3), .ref (q 4), .ref (q 5), .ref (q 6), .ref (q 7), .int ig])), ((q 0), .inr (2, [.ref r, .int (nI u1)])), (o, aJ g 1 (fun _ => o0))] H := hP.sub [1, 2, 0] rfl
    have hD : va_D A [(h0, .inr (9, [.ref (q 0), .ref (q 1), .ref (q 2), .ref (q 3), .ref (q 4), .ref (q 5), .ref (q 6), .ref (q 7), .int ig])), ((q 0), .inr (2, [.ref r, .int (nI u1)])), (o, aJ g 1 (fun _ => o0))] := hD.sub [1, 2, 0] (by decide) rfl
    refine lv_i2l (v := rv.toInt64) hx hb d_Law_cut_7 rfl ?_
    refine va_last hx hb hK hP hD hS 2 2 rfl rfl (vp_in_nI (n := 0) (by decide) (by decide)) d_Law_cut_8 (fun H locs hP hD hS => ?_)
    have hP : va_P g.1 classes [(h0, .inr (9, [.ref (q 0), .ref (q 1), .ref (q 2), .ref (q 3), .ref (q 4), .ref (q 5), .ref (q 6), .ref (q 7), .int ig])), ((q 0), .inr (2, [.ref r, .int (nI u1)])), (o, aJ g 1 (vp_updL (fun _ => o0) (0 : Int32).toNatClampNeg rv.toInt64))] H := hP
    have hD : va_D A [(h0, .inr (9, [.ref (q 0), .ref (q 1), .ref (q 2), .ref (q 3), .ref (q 4), .ref (q 5), .ref (q 6), .ref (q 7), .int ig])), ((q 0), .inr (2, [.ref r, .int (nI u1)])), (o, aJ g 1 (vp_updL (fun _ => o0) (0 : Int32).toNatClampNeg rv.toInt64))] := hD
    refine lv_goto (tgt := 15) hx hb d_Law_cut_9 (by decide) ?_
    refine lv_iconst (v := 0) hx hb d_Law_cut_15 (by decide) ?_
    exact tw_iret E hS (u1, rv.toInt64) (Or.inr ⟨rfl, hr.1, hr.2.1, by rw [hr.2.2]⟩) (tw_PextL hP 2 rfl (tn_out _ _)) (hD.set (p := 2) rfl) d_Law_cut_16
  · rcases hth with ⟨rfl, hc⟩
    · refine tw_catch1 (f := F0 m 4 ls [.int 0, .ref o]) (own := "ShippedClassLaw") rfl hown htab rfl (by decide) (hts _ wd_1024) (hts _ wd_1032) hce ?_
      refine W.eq (g2 := F0 m 12 ls [.ref x]) rfl ?_
      refine W.widen (k := 1) (n := 6) (by decide) (by decide) ?_
      refine lv_astore_n hx hb d_Law_cut_12 rfl hl (by decide) rfl (fun ls hl => ?_)
      have hl : lv_has ls 4 [(3, .ref x), (0, .ref h0), (1, .int kc), (2, .ref o)] := hl
      refine lv_iconst (v := 1) hx hb d_Law_cut_13 (by decide) ?_
      exact tw_iret E hS (n, o0) (Or.inl ⟨rfl, hc, rfl⟩) hP hD d_Law_cut_14
set_option maxHeartbeats 4000000 in
set_option maxRecDepth 100000 in
theorem c_Law_limit (l : Launch) (hfl : l.flags = flags0) (g : tw_G) (sz : Nat) (h0 p0 p1 p2 o : Nat) (q : Nat → Nat) (ig mm mb wh k : Int32) (o0 : Int64) : Met l y_Law_limit [.codeWith y_Law_limit b_Law_limit 5 (some .int) [(0, 10, 13, 13)]] ({ frames := 7, cells := 1, slots := 6, locals := 104 }) (tw_P g [.ref h0, .int wh, .int k, .ref o] [(h0, .inr (9, [.ref (q 0), .ref (q 1), .ref (q 2), .ref (q 3), .ref (q 4), .ref (q 5), .ref (q 6), .ref (q 7), .int ig])), ((q 2), .inr (6, [.ref p0, .ref p1, .ref p2, .int mm, .int mb])), (o, aJ g 1 (fun _ => o0))] sz) (tw_Qi g (fun z (u : (Int32 × Int32) × Int64) => (z = 1 ∧ (wh < 0 ∨ 1 < wh ∨ k < 0 ∨ 600 < k) ∧ u = ((mm, mb), o0)) ∨ (z = 0 ∧ ¬ k < 0 ∧ k ≤ 600 ∧ ((wh = 0 ∧ u = ((k, mb), mm.toInt64)) ∨ (wh = 1 ∧ u = ((mm, k), mb.toInt64))))) (fun u : (Int32 × Int32) × Int64 => [(h0, .inr (9, [.ref (q 0), .ref (q 1), .ref (q 2), .ref (q 3), .ref (q 4), .ref (q 5), .ref (q 6), .ref (q 7), .int ig])), ((q 2), .inr (6, [.ref p0, .ref p1, .ref p2, .int u.1.1, .int u.1.2])), (o, aJ g 1 (fun _ => u.2))]) (va_A [(h0, .inr (9, [.ref (q 0), .ref (q 1), .ref (q 2), .ref (q 3), .ref (q 4), .ref (q 5), .ref (q 6), .ref (q 7), .int ig])), ((q 2), .inr (6, [.ref p0, .ref p1, .ref p2, .int mm, .int mb])), (o, aJ g 1 (fun _ => o0))] sz)) 1 6 (va_A [(h0, .inr (9, [.ref (q 0), .ref (q 1), .ref (q 2), .ref (q 3), .ref (q 4), .ref (q 5), .ref (q 6), .ref (q 7), .int ig])), ((q 2), .inr (6, [.ref p0, .ref p1, .ref p2, .int mm, .int mb])), (o, aJ g 1 (fun _ => o0))] sz) := by
  refine tw_metL (l := l) (g := g) (y := y_Law_limit) (cc := b_Law_limit) (maxL := 5) (ret := (some .int)) (hh := [(0, 10, 13, 13)]) (rm := { frames := 7, cells := 1, slots := 6, locals := 104 }) (mc := 1) (ms := 6) (av := [.ref h0, .int wh, .int k, .ref o]) (ws := [(h0, .inr (9, [.ref (q 0), .ref (q 1), .ref (q 2), .ref (q 3), .ref (q 4), .ref (q 5), .ref (q 6), .ref (q 7), .int ig])), ((q 2), .inr (6, [.ref p0, .ref p1, .ref p2, .int mm, .int mb])), (o, aJ g 1 (fun _ => o0))]) (sz := sz) (Qc := fun A => (tw_Qi g (fun z (u : (Int32 × Int32) × Int64) => (z = 1 ∧ (wh < 0 ∨ 1 < wh ∨ k < 0 ∨ 600 < k) ∧ u = ((mm, mb), o0)) ∨ (z = 0 ∧ ¬ k < 0 ∧ k ≤ 600 ∧ ((wh = 0 ∧ u = ((k, mb), mm.toInt64)) ∨ (wh = 1 ∧ u = ((mm, k), mb.toInt64))))) (fun u : (Int32 × Int32) × Int64 => [(h0, .inr (9, [.ref (q 0), .ref (q 1), .ref (q 2), .ref (q 3), .ref (q 4), .ref (q 5), .ref (q 6), .ref (q 7), .int ig])), ((q 2), .inr (6, [.ref p0, .ref p1, .ref p2, .int u.1.1, .int u.1.2])), (o, aJ g 1 (fun _ => u.2))]) A)) (by decide) (Nat.le_of_ble_eq_true rfl) ?_
  intro p e s m below meth c ls H A E hB hK hZ hP hD hS hA hl htab
  have hN := hZ.2.1
  obtain ⟨hx, hb, hml, hr, hown, hts, hlocks, hin⟩ := id E
  have hl : lv_has ls 5 [(0, .ref h0), (1, .int wh), (2, .int k), (3, .ref o)] := hl
  refine lv_aload_n hx hb d_Law_limit_0 rfl (lv_at hl 3 rfl) ?_
  refine lv_iconst (v := 0) hx hb d_Law_limit_1 (by decide) ?_
  refine lv_aload_n hx hb d_Law_limit_2 rfl (lv_at hl 0 rfl) ?_
  refine lv_iload_n hx hb d_Law_limit_3 rfl (lv_at hl 1 rfl) ?_
  refine lv_iload_n hx hb d_Law_limit_4 rfl (lv_at hl 2 rfl) ?_
  refine tw_callX (ws := [(h0, .inr (9, [.ref (q 0), .ref (q 1), .ref (q 2), .ref (q 3), .ref (q 4), .ref (q 5), .ref (q 6), .ref (q 7), .int ig])), ((q 2), .inr (6, [.ref p0, .ref p1, .ref p2, .int mm, .int mb])), (o, aJ g 1 (fun _ => o0))]) (wc := [(h0, .inr (9, [.ref (q 0), .ref (q 1), .ref (q 2), .ref (q 3), .ref (q 4), .ref (q 5), .ref (q 6), .ref (q 7), .int ig])), ((q 2), .inr (6, [.ref p0, .ref p1, .ref p2, .int mm, .int mb]))]) (wr := [(o, aJ g 1 (fun _ => o0))]) (As := [.int wh, .int k]) (rest := [.int 0, .ref o]) E hB hK hZ (c_Ship_limit l hfl g H.size h0 p0 p1 p2 q ig mm mb wh k) mc_Ship_limit mi_Ship_limit me_Ship_limit wd_1169 hP hD hS hA [0, 1] [2] rfl rfl (by decide) (by decide) (by decide) 0 rfl rfl rfl rfl rfl (by decide) rfl hl.1 rfl (Nat.le_of_ble_eq_true rfl) (by decide) d_Law_limit_5 (fun rv u1 H locs hr hP hD hS => ?_) (fun Y x H locs hth hce hP hD hS => ?_)
  · try dsimp only at hr
    have hP : va_P g.1 classes [(o, aJ g 1 (fun _ => o0)), (h0, .inr (9, [.ref (q 0), .ref (q 1), .ref (q 2), .ref (q 3), .ref (q 4), .ref (q 5), .ref (q 6), .ref (q 7), .int ig])), ((q 2), .inr (6, [.ref p0, .ref p1, .ref p2, .int u1.1, .int u1.2]))] H := hP
    have hD : va_D A [(o, aJ g 1 (fun _ => o0)), (h0, .inr (9, [.ref (q 0), .ref (q 1), .ref (q 2), .ref (q 3), .ref (q 4), .ref (q 5), .ref (q 6), .ref (q 7), .int ig])), ((q 2), .inr (6, [.ref p0, .ref p1, .ref p2, .int u1.1, .int u1.2]))] := hD
    refine W.widen (k := 1) (n := 6) (by decide) (by decide) ?_
    have hP : va_P g.1 classes [(h0, .inr (9, [.ref (q 0), .ref (q 1), .ref (q 2), .ref (q 3), .ref (q 4), .ref (q 5), .ref (q 6), .ref (q 7), .int ig])), ((q 2), .inr (6, [.ref p0, .ref p1, .ref p2, .int u1.1, .int u1.2])), (o, aJ g 1 (fun _ => o0))] H := hP.sub [1, 2, 0] rfl
    have hD : va_D A [(h0, .inr (9, [.ref (q 0), .ref (q 1), .ref (q 2), .ref (q 3), .ref (q 4), .ref (q 5), .ref (q 6), .ref (q 7), .int ig])), ((q 2), .inr (6, [.ref p0, .ref p1, .ref p2, .int u1.1, .int u1.2])), (o, aJ g 1 (fun _ => o0))] := hD.sub [1, 2, 0] (by decide) rfl
    refine lv_i2l (v := rv.toInt64) hx hb d_Law_limit_8 rfl ?_
    refine va_last hx hb hK hP hD hS 2 2 rfl rfl (vp_in_nI (n := 0) (by decide) (by decide)) d_Law_limit_9 (fun H locs hP hD hS => ?_)
    have hP : va_P g.1 classes [(h0, .inr (9, [.ref (q 0), .ref (q 1), .ref (q 2), .ref (q 3), .ref (q 4), .ref (q 5), .ref (q 6), .ref (q 7), .int ig])), ((q 2), .inr (6, [.ref p0, .ref p1, .ref p2, .int u1.1, .int u1.2])), (o, aJ g 1 (vp_updL (fun _ => o0) (0 : Int32).toNatClampNeg rv.toInt64))] H := hP
    have hD : va_D A [(h0, .inr (9, [.ref (q 0), .ref (q 1), .ref (q 2), .ref (q 3), .ref (q 4), .ref (q 5), .ref (q 6), .ref (q 7), .int ig])), ((q 2), .inr (6, [.ref p0, .ref p1, .ref p2, .int u1.1, .int u1.2])), (o, aJ g 1 (vp_updL (fun _ => o0) (0 : Int32).toNatClampNeg rv.toInt64))] := hD
    refine lv_goto (tgt := 17) hx hb d_Law_limit_10 (by decide) ?_
    refine lv_iconst (v := 0) hx hb d_Law_limit_17 (by decide) ?_
    exact tw_iret E hS (u1, rv.toInt64) (Or.inr ⟨rfl, hr.1, hr.2.1, hr.2.2.elim (fun h => Or.inl ⟨h.1, by rw [h.2.2, h.2.1]⟩) (fun h => Or.inr ⟨h.1, by rw [h.2.2, h.2.1]⟩)⟩) (tw_PextL hP 2 rfl (tn_out _ _)) (hD.set (p := 2) rfl) d_Law_limit_18
  · rcases hth with ⟨rfl, hc⟩
    · refine tw_catch1 (f := F0 m 5 ls [.int 0, .ref o]) (own := "ShippedClassLaw") rfl hown htab rfl (by decide) (hts _ wd_1024) (hts _ wd_1032) hce ?_
      refine W.eq (g2 := F0 m 13 ls [.ref x]) rfl ?_
      refine W.widen (k := 1) (n := 6) (by decide) (by decide) ?_
      refine lv_astore hx hb d_Law_limit_13 hl (by decide) rfl (fun ls hl => ?_)
      have hl : lv_has ls 5 [(4, .ref x), (0, .ref h0), (1, .int wh), (2, .int k), (3, .ref o)] := hl
      refine lv_iconst (v := 1) hx hb d_Law_limit_15 (by decide) ?_
      exact tw_iret E hS ((mm, mb), o0) (Or.inl ⟨rfl, hc, rfl⟩) hP hD d_Law_limit_16
set_option maxHeartbeats 4000000 in
set_option maxRecDepth 100000 in
theorem c_Law_rule0 (l : Launch) (hfl : l.flags = flags0) (g : tw_G) (sz : Nat) (h0 r o : Nat) (q : Nat → Nat) (ig al k : Int32) (o0 : Int64) : Met l y_Law_rule [.codeWith y_Law_rule b_Law_rule 5 (some .int) [(0, 10, 13, 13), (0, 10, 17, 15)]] ({ frames := 7, cells := 1, slots := 6, locals := 104 }) (tw_P g [.ref h0, .int al, .int k, .ref o] [(h0, .inr (9, [.ref (q 0), .ref (q 1), .ref (q 2), .ref (q 3), .ref (q 4), .ref (q 5), .ref (q 6), .ref (q 7), .int ig])), ((q 0), .inr (2, [.ref r, .int 0])), (o, aJ g 1 (fun _ => o0))] sz) (tw_Qi g (fun z _ => z = 1) (fun u : Unit => [(h0, .inr (9, [.ref (q 0), .ref (q 1), .ref (q 2), .ref (q 3), .ref (q 4), .ref (q 5), .ref (q 6), .ref (q 7), .int ig])), ((q 0), .inr (2, [.ref r, .int 0])), (o, aJ g 1 (fun _ => o0))]) (va_A [(h0, .inr (9, [.ref (q 0), .ref (q 1), .ref (q 2), .ref (q 3), .ref (q 4), .ref (q 5), .ref (q 6), .ref (q 7), .int ig])), ((q 0), .inr (2, [.ref r, .int 0])), (o, aJ g 1 (fun _ => o0))] sz)) 1 6 (va_A [(h0, .inr (9, [.ref (q 0), .ref (q 1), .ref (q 2), .ref (q 3), .ref (q 4), .ref (q 5), .ref (q 6), .ref (q 7), .int ig])), ((q 0), .inr (2, [.ref r, .int 0])), (o, aJ g 1 (fun _ => o0))] sz) := by
  refine tw_metL (l := l) (g := g) (y := y_Law_rule) (cc := b_Law_rule) (maxL := 5) (ret := (some .int)) (hh := [(0, 10, 13, 13), (0, 10, 17, 15)]) (rm := { frames := 7, cells := 1, slots := 6, locals := 104 }) (mc := 1) (ms := 6) (av := [.ref h0, .int al, .int k, .ref o]) (ws := [(h0, .inr (9, [.ref (q 0), .ref (q 1), .ref (q 2), .ref (q 3), .ref (q 4), .ref (q 5), .ref (q 6), .ref (q 7), .int ig])), ((q 0), .inr (2, [.ref r, .int 0])), (o, aJ g 1 (fun _ => o0))]) (sz := sz) (Qc := fun A => (tw_Qi g (fun z _ => z = 1) (fun u : Unit => [(h0, .inr (9, [.ref (q 0), .ref (q 1), .ref (q 2), .ref (q 3), .ref (q 4), .ref (q 5), .ref (q 6), .ref (q 7), .int ig])), ((q 0), .inr (2, [.ref r, .int 0])), (o, aJ g 1 (fun _ => o0))]) A)) (by decide) (Nat.le_of_ble_eq_true rfl) ?_
  intro p e s m below meth c ls H A E hB hK hZ hP hD hS hA hl htab
  have hN := hZ.2.1
  obtain ⟨hx, hb, hml, hr, hown, hts, hlocks, hin⟩ := id E
  have hl : lv_has ls 5 [(0, .ref h0), (1, .int al), (2, .int k), (3, .ref o)] := hl
  refine lv_aload_n hx hb d_Law_rule_0 rfl (lv_at hl 3 rfl) ?_
  refine lv_iconst (v := 0) hx hb d_Law_rule_1 (by decide) ?_
  refine lv_aload_n hx hb d_Law_rule_2 rfl (lv_at hl 0 rfl) ?_
  refine lv_iload_n hx hb d_Law_rule_3 rfl (lv_at hl 1 rfl) ?_
  refine lv_iload_n hx hb d_Law_rule_4 rfl (lv_at hl 2 rfl) ?_
  refine tw_callX (ws := [(h0, .inr (9, [.ref (q 0), .ref (q 1), .ref (q 2), .ref (q 3), .ref (q 4), .ref (q 5), .ref (q 6), .ref (q 7), .int ig])), ((q 0), .inr (2, [.ref r, .int 0])), (o, aJ g 1 (fun _ => o0))]) (wc := [(h0, .inr (9, [.ref (q 0), .ref (q 1), .ref (q 2), .ref (q 3), .ref (q 4), .ref (q 5), .ref (q 6), .ref (q 7), .int ig])), ((q 0), .inr (2, [.ref r, .int 0]))]) (wr := [(o, aJ g 1 (fun _ => o0))]) (As := [.int al, .int k]) (rest := [.int 0, .ref o]) E hB hK hZ (c_Ship_rule0 l hfl g H.size h0 r q ig al k) mc_Ship_rule mi_Ship_rule me_Ship_rule wd_1150 hP hD hS hA [0, 1] [2] rfl rfl (by decide) (by decide) (by decide) 0 rfl rfl rfl rfl rfl (by decide) rfl hl.1 rfl (Nat.le_of_ble_eq_true rfl) (by decide) d_Law_rule_5 (fun rv u1 H locs hr hP hD hS => ?_) (fun Y x H locs hth hce hP hD hS => ?_)
  · exact hr.elim
  · rcases hth with rfl
    · refine tw_catch1 (f := F0 m 5 ls [.int 0, .ref o]) (own := "ShippedClassLaw") rfl hown htab rfl (by decide) (hts _ wd_1024) (hts _ wd_1032) hce ?_
      refine W.eq (g2 := F0 m 13 ls [.ref x]) rfl ?_
      refine W.widen (k := 1) (n := 6) (by decide) (by decide) ?_
      refine lv_astore hx hb d_Law_rule_13 hl (by decide) rfl (fun ls hl => ?_)
      have hl : lv_has ls 5 [(4, .ref x), (0, .ref h0), (1, .int al), (2, .int k), (3, .ref o)] := hl
      refine lv_iconst (v := 1) hx hb d_Law_rule_15 (by decide) ?_
      exact tw_iret E hS () rfl hP hD d_Law_rule_16
set_option maxHeartbeats 4000000 in
set_option maxRecDepth 100000 in
theorem c_Law_count0 (l : Launch) (hfl : l.flags = flags0) (g : tw_G) (sz : Nat) (h0 o : Nat) (q : Nat → Nat) (a0 : Int32) (o0 : Int64) : Met l y_Law_count [.codeWith y_Law_count b_Law_count 4 (some .int) [(0, 9, 12, 15), (0, 9, 15, 13)]] ({ frames := 7, cells := 1, slots := 6, locals := 102 }) (tw_P g [.ref h0, .int a0, .ref o] [(h0, .inr (9, [.ref (q 0), .ref (q 1), .ref (q 2), .ref (q 3), .ref (q 4), .ref (q 5), .ref (q 6), .ref (q 7), .int 0])), (o, aJ g 1 (fun _ => o0))] sz) (tw_Qi g (fun z _ => z = 1) (fun u : Unit => [(h0, .inr (9, [.ref (q 0), .ref (q 1), .ref (q 2), .ref (q 3), .ref (q 4), .ref (q 5), .ref (q 6), .ref (q 7), .int 0])), (o, aJ g 1 (fun _ => o0))]) (va_A [(h0, .inr (9, [.ref (q 0), .ref (q 1), .ref (q 2), .ref (q 3), .ref (q 4), .ref (q 5), .ref (q 6), .ref (q 7), .int 0])), (o, aJ g 1 (fun _ => o0))] sz)) 1 6 (va_A [(h0, .inr (9, [.ref (q 0), .ref (q 1), .ref (q 2), .ref (q 3), .ref (q 4), .ref (q 5), .ref (q 6), .ref (q 7), .int 0])), (o, aJ g 1 (fun _ => o0))] sz) := by
  refine tw_metL (l := l) (g := g) (y := y_Law_count) (cc := b_Law_count) (maxL := 4) (ret := (some .int)) (hh := [(0, 9, 12, 15), (0, 9, 15, 13)]) (rm := { frames := 7, cells := 1, slots := 6, locals := 102 }) (mc := 1) (ms := 6) (av := [.ref h0, .int a0, .ref o]) (ws := [(h0, .inr (9, [.ref (q 0), .ref (q 1), .ref (q 2), .ref (q 3), .ref (q 4), .ref (q 5), .ref (q 6), .ref (q 7), .int 0])), (o, aJ g 1 (fun _ => o0))]) (sz := sz) (Qc := fun A => (tw_Qi g (fun z _ => z = 1) (fun u : Unit => [(h0, .inr (9, [.ref (q 0), .ref (q 1), .ref (q 2), .ref (q 3), .ref (q 4), .ref (q 5), .ref (q 6), .ref (q 7), .int 0])), (o, aJ g 1 (fun _ => o0))]) A)) (by decide) (Nat.le_of_ble_eq_true rfl) ?_
  intro p e s m below meth c ls H A E hB hK hZ hP hD hS hA hl htab
  have hN := hZ.2.1
  obtain ⟨hx, hb, hml, hr, hown, hts, hlocks, hin⟩ := id E
  have hl : lv_has ls 4 [(0, .ref h0), (1, .int a0), (2, .ref o)] := hl
  refine lv_aload_n hx hb d_Law_count_0 rfl (lv_at hl 2 rfl) ?_
  refine lv_iconst (v := 0) hx hb d_Law_count_1 (by decide) ?_
  refine lv_aload_n hx hb d_Law_count_2 rfl (lv_at hl 0 rfl) ?_
  refine lv_iload_n hx hb d_Law_count_3 rfl (lv_at hl 1 rfl) ?_
  refine tw_callX (ws := [(h0, .inr (9, [.ref (q 0), .ref (q 1), .ref (q 2), .ref (q 3), .ref (q 4), .ref (q 5), .ref (q 6), .ref (q 7), .int 0])), (o, aJ g 1 (fun _ => o0))]) (wc := [(h0, .inr (9, [.ref (q 0), .ref (q 1), .ref (q 2), .ref (q 3), .ref (q 4), .ref (q 5), .ref (q 6), .ref (q 7), .int 0]))]) (wr := [(o, aJ g 1 (fun _ => o0))]) (As := [.int a0]) (rest := [.int 0, .ref o]) E hB hK hZ (c_Ship_count0 l hfl g H.size h0 q a0) mc_Ship_count mi_Ship_count me_Ship_count wd_1176 hP hD hS hA [0] [1] rfl rfl (by decide) (by decide) (by decide) 0 rfl rfl rfl rfl rfl (by decide) rfl hl.1 rfl (Nat.le_of_ble_eq_true rfl) (by decide) d_Law_count_4 (fun rv u1 H locs hr hP hD hS => ?_) (fun Y x H locs hth hce hP hD hS => ?_)
  · exact hr.elim
  · rcases hth with rfl
    · refine tw_catch1 (f := F0 m 4 ls [.int 0, .ref o]) (own := "ShippedClassLaw") rfl hown htab rfl (by decide) (hts _ wd_1025) (hts _ wd_1095) hce ?_
      refine W.eq (g2 := F0 m 12 ls [.ref x]) rfl ?_
      refine W.widen (k := 1) (n := 6) (by decide) (by decide) ?_
      refine lv_astore_n hx hb d_Law_count_12 rfl hl (by decide) rfl (fun ls hl => ?_)
      have hl : lv_has ls 4 [(3, .ref x), (0, .ref h0), (1, .int a0), (2, .ref o)] := hl
      refine lv_iconst (v := 1) hx hb d_Law_count_13 (by decide) ?_
      exact tw_iret E hS () rfl hP hD d_Law_count_14
set_option maxHeartbeats 4000000 in
set_option maxRecDepth 100000 in
theorem c_Law_text0 (l : Launch) (hfl : l.flags = flags0) (g : tw_G) (sz : Nat) (h0 o : Nat) (q : Nat → Nat) (a0 : Int32) (a1 : Int32) (a2 : Int32) (o0 : Int64) : Met l y_Law_text [.codeWith y_Law_text b_Law_text 6 (some .int) [(0, 12, 15, 15), (0, 12, 19, 13)]] ({ frames := 7, cells := 1, slots := 6, locals := 104 }) (tw_P g [.ref h0, .int a0, .int a1, .int a2, .ref o] [(h0, .inr (9, [.ref (q 0), .ref (q 1), .ref (q 2), .ref (q 3), .ref (q 4), .ref (q 5), .ref (q 6), .ref (q 7), .int 0])), (o, aJ g 1 (fun _ => o0))] sz) (tw_Qi g (fun z _ => z = 1) (fun u : Unit => [(h0, .inr (9, [.ref (q 0), .ref (q 1), .ref (q 2), .ref (q 3), .ref (q 4), .ref (q 5), .ref (q 6), .ref (q 7), .int 0])), (o, aJ g 1 (fun _ => o0))]) (va_A [(h0, .inr (9, [.ref (q 0), .ref (q 1), .ref (q 2), .ref (q 3), .ref (q 4), .ref (q 5), .ref (q 6), .ref (q 7), .int 0])), (o, aJ g 1 (fun _ => o0))] sz)) 1 6 (va_A [(h0, .inr (9, [.ref (q 0), .ref (q 1), .ref (q 2), .ref (q 3), .ref (q 4), .ref (q 5), .ref (q 6), .ref (q 7), .int 0])), (o, aJ g 1 (fun _ => o0))] sz) := by
  refine tw_metL (l := l) (g := g) (y := y_Law_text) (cc := b_Law_text) (maxL := 6) (ret := (some .int)) (hh := [(0, 12, 15, 15), (0, 12, 19, 13)]) (rm := { frames := 7, cells := 1, slots := 6, locals := 104 }) (mc := 1) (ms := 6) (av := [.ref h0, .int a0, .int a1, .int a2, .ref o]) (ws := [(h0, .inr (9, [.ref (q 0), .ref (q 1), .ref (q 2), .ref (q 3), .ref (q 4), .ref (q 5), .ref (q 6), .ref (q 7), .int 0])), (o, aJ g 1 (fun _ => o0))]) (sz := sz) (Qc := fun A => (tw_Qi g (fun z _ => z = 1) (fun u : Unit => [(h0, .inr (9, [.ref (q 0), .ref (q 1), .ref (q 2), .ref (q 3), .ref (q 4), .ref (q 5), .ref (q 6), .ref (q 7), .int 0])), (o, aJ g 1 (fun _ => o0))]) A)) (by decide) (Nat.le_of_ble_eq_true rfl) ?_
  intro p e s m below meth c ls H A E hB hK hZ hP hD hS hA hl htab
  have hN := hZ.2.1
  obtain ⟨hx, hb, hml, hr, hown, hts, hlocks, hin⟩ := id E
  have hl : lv_has ls 6 [(0, .ref h0), (1, .int a0), (2, .int a1), (3, .int a2), (4, .ref o)] := hl
  refine lv_aload hx hb d_Law_text_0 (lv_at hl 4 rfl) ?_
  refine lv_iconst (v := 0) hx hb d_Law_text_2 (by decide) ?_
  refine lv_aload_n hx hb d_Law_text_3 rfl (lv_at hl 0 rfl) ?_
  refine lv_iload_n hx hb d_Law_text_4 rfl (lv_at hl 1 rfl) ?_
  refine lv_iload_n hx hb d_Law_text_5 rfl (lv_at hl 2 rfl) ?_
  refine lv_iload_n hx hb d_Law_text_6 rfl (lv_at hl 3 rfl) ?_
  refine tw_callX (ws := [(h0, .inr (9, [.ref (q 0), .ref (q 1), .ref (q 2), .ref (q 3), .ref (q 4), .ref (q 5), .ref (q 6), .ref (q 7), .int 0])), (o, aJ g 1 (fun _ => o0))]) (wc := [(h0, .inr (9, [.ref (q 0), .ref (q 1), .ref (q 2), .ref (q 3), .ref (q 4), .ref (q 5), .ref (q 6), .ref (q 7), .int 0]))]) (wr := [(o, aJ g 1 (fun _ => o0))]) (As := [.int a0, .int a1, .int a2]) (rest := [.int 0, .ref o]) E hB hK hZ (c_Ship_text0 l hfl g H.size h0 q a0 a1 a2) mc_Ship_text mi_Ship_text me_Ship_text wd_1198 hP hD hS hA [0] [1] rfl rfl (by decide) (by decide) (by decide) 0 rfl rfl rfl rfl rfl (by decide) rfl hl.1 rfl (Nat.le_of_ble_eq_true rfl) (by decide) d_Law_text_7 (fun rv u1 H locs hr hP hD hS => ?_) (fun Y x H locs hth hce hP hD hS => ?_)
  · exact hr.elim
  · rcases hth with rfl
    · refine tw_catch1 (f := F0 m 7 ls [.int 0, .ref o]) (own := "ShippedClassLaw") rfl hown htab rfl (by decide) (hts _ wd_1025) (hts _ wd_1095) hce ?_
      refine W.eq (g2 := F0 m 15 ls [.ref x]) rfl ?_
      refine W.widen (k := 1) (n := 6) (by decide) (by decide) ?_
      refine lv_astore hx hb d_Law_text_15 hl (by decide) rfl (fun ls hl => ?_)
      have hl : lv_has ls 6 [(5, .ref x), (0, .ref h0), (1, .int a0), (2, .int a1), (3, .int a2), (4, .ref o)] := hl
      refine lv_iconst (v := 1) hx hb d_Law_text_17 (by decide) ?_
      exact tw_iret E hS () rfl hP hD d_Law_text_18
set_option maxHeartbeats 4000000 in
set_option maxRecDepth 100000 in
theorem c_Law_depth0 (l : Launch) (hfl : l.flags = flags0) (g : tw_G) (sz : Nat) (h0 o : Nat) (q : Nat → Nat) (a0 : Int32) (a1 : Int32) (o0 : Int64) : Met l y_Law_depth [.codeWith y_Law_depth b_Law_depth 5 (some .int) [(0, 10, 13, 15)]] ({ frames := 7, cells := 1, slots := 6, locals := 103 }) (tw_P g [.ref h0, .int a0, .int a1, .ref o] [(h0, .inr (9, [.ref (q 0), .ref (q 1), .ref (q 2), .ref (q 3), .ref (q 4), .ref (q 5), .ref (q 6), .ref (q 7), .int 0])), (o, aJ g 1 (fun _ => o0))] sz) (tw_Qi g (fun z _ => z = 1) (fun u : Unit => [(h0, .inr (9, [.ref (q 0), .ref (q 1), .ref (q 2), .ref (q 3), .ref (q 4), .ref (q 5), .ref (q 6), .ref (q 7), .int 0])), (o, aJ g 1 (fun _ => o0))]) (va_A [(h0, .inr (9, [.ref (q 0), .ref (q 1), .ref (q 2), .ref (q 3), .ref (q 4), .ref (q 5), .ref (q 6), .ref (q 7), .int 0])), (o, aJ g 1 (fun _ => o0))] sz)) 1 6 (va_A [(h0, .inr (9, [.ref (q 0), .ref (q 1), .ref (q 2), .ref (q 3), .ref (q 4), .ref (q 5), .ref (q 6), .ref (q 7), .int 0])), (o, aJ g 1 (fun _ => o0))] sz) := by
  refine tw_metL (l := l) (g := g) (y := y_Law_depth) (cc := b_Law_depth) (maxL := 5) (ret := (some .int)) (hh := [(0, 10, 13, 15)]) (rm := { frames := 7, cells := 1, slots := 6, locals := 103 }) (mc := 1) (ms := 6) (av := [.ref h0, .int a0, .int a1, .ref o]) (ws := [(h0, .inr (9, [.ref (q 0), .ref (q 1), .ref (q 2), .ref (q 3), .ref (q 4), .ref (q 5), .ref (q 6), .ref (q 7), .int 0])), (o, aJ g 1 (fun _ => o0))]) (sz := sz) (Qc := fun A => (tw_Qi g (fun z _ => z = 1) (fun u : Unit => [(h0, .inr (9, [.ref (q 0), .ref (q 1), .ref (q 2), .ref (q 3), .ref (q 4), .ref (q 5), .ref (q 6), .ref (q 7), .int 0])), (o, aJ g 1 (fun _ => o0))]) A)) (by decide) (Nat.le_of_ble_eq_true rfl) ?_
  intro p e s m below meth c ls H A E hB hK hZ hP hD hS hA hl htab
  have hN := hZ.2.1
  obtain ⟨hx, hb, hml, hr, hown, hts, hlocks, hin⟩ := id E
  have hl : lv_has ls 5 [(0, .ref h0), (1, .int a0), (2, .int a1), (3, .ref o)] := hl
  refine lv_aload_n hx hb d_Law_depth_0 rfl (lv_at hl 3 rfl) ?_
  refine lv_iconst (v := 0) hx hb d_Law_depth_1 (by decide) ?_
  refine lv_aload_n hx hb d_Law_depth_2 rfl (lv_at hl 0 rfl) ?_
  refine lv_iload_n hx hb d_Law_depth_3 rfl (lv_at hl 1 rfl) ?_
  refine lv_iload_n hx hb d_Law_depth_4 rfl (lv_at hl 2 rfl) ?_
  refine tw_callX (ws := [(h0, .inr (9, [.ref (q 0), .ref (q 1), .ref (q 2), .ref (q 3), .ref (q 4), .ref (q 5), .ref (q 6), .ref (q 7), .int 0])), (o, aJ g 1 (fun _ => o0))]) (wc := [(h0, .inr (9, [.ref (q 0), .ref (q 1), .ref (q 2), .ref (q 3), .ref (q 4), .ref (q 5), .ref (q 6), .ref (q 7), .int 0]))]) (wr := [(o, aJ g 1 (fun _ => o0))]) (As := [.int a0, .int a1]) (rest := [.int 0, .ref o]) E hB hK hZ (c_Ship_depth0 l hfl g H.size h0 q a0 a1) mc_Ship_depth mi_Ship_depth me_Ship_depth wd_1218 hP hD hS hA [0] [1] rfl rfl (by decide) (by decide) (by decide) 0 rfl rfl rfl rfl rfl (by decide) rfl hl.1 rfl (Nat.le_of_ble_eq_true rfl) (by decide) d_Law_depth_5 (fun rv u1 H locs hr hP hD hS => ?_) (fun Y x H locs hth hce hP hD hS => ?_)
  · exact hr.elim
  · rcases hth with rfl
    · refine tw_catch1 (f := F0 m 5 ls [.int 0, .ref o]) (own := "ShippedClassLaw") rfl hown htab rfl (by decide) (hts _ wd_1025) (hts _ wd_1095) hce ?_
      refine W.eq (g2 := F0 m 13 ls [.ref x]) rfl ?_
      refine W.widen (k := 1) (n := 6) (by decide) (by decide) ?_
      refine lv_astore hx hb d_Law_depth_13 hl (by decide) rfl (fun ls hl => ?_)
      have hl : lv_has ls 5 [(4, .ref x), (0, .ref h0), (1, .int a0), (2, .int a1), (3, .ref o)] := hl
      refine lv_iconst (v := 1) hx hb d_Law_depth_15 (by decide) ?_
      exact tw_iret E hS () rfl hP hD d_Law_depth_16
set_option maxHeartbeats 4000000 in
set_option maxRecDepth 100000 in
theorem c_Law_kind0 (l : Launch) (hfl : l.flags = flags0) (g : tw_G) (sz : Nat) (h0 o : Nat) (q : Nat → Nat) (a0 : Int32) (a1 : Int32) (a2 : Int32) (a3 : Int32) (o0 : Int64) : Met l y_Law_kind [.codeWith y_Law_kind b_Law_kind 7 (some .int) [(0, 14, 17, 15)]] ({ frames := 7, cells := 1, slots := 6, locals := 108 }) (tw_P g [.ref h0, .int a0, .int a1, .int a2, .int a3, .ref o] [(h0, .inr (9, [.ref (q 0), .ref (q 1), .ref (q 2), .ref (q 3), .ref (q 4), .ref (q 5), .ref (q 6), .ref (q 7), .int 0])), (o, aJ g 1 (fun _ => o0))] sz) (tw_Qi g (fun z _ => z = 1) (fun u : Unit => [(h0, .inr (9, [.ref (q 0), .ref (q 1), .ref (q 2), .ref (q 3), .ref (q 4), .ref (q 5), .ref (q 6), .ref (q 7), .int 0])), (o, aJ g 1 (fun _ => o0))]) (va_A [(h0, .inr (9, [.ref (q 0), .ref (q 1), .ref (q 2), .ref (q 3), .ref (q 4), .ref (q 5), .ref (q 6), .ref (q 7), .int 0])), (o, aJ g 1 (fun _ => o0))] sz)) 1 6 (va_A [(h0, .inr (9, [.ref (q 0), .ref (q 1), .ref (q 2), .ref (q 3), .ref (q 4), .ref (q 5), .ref (q 6), .ref (q 7), .int 0])), (o, aJ g 1 (fun _ => o0))] sz) := by
  refine tw_metL (l := l) (g := g) (y := y_Law_kind) (cc := b_Law_kind) (maxL := 7) (ret := (some .int)) (hh := [(0, 14, 17, 15)]) (rm := { frames := 7, cells := 1, slots := 6, locals := 108 }) (mc := 1) (ms := 6) (av := [.ref h0, .int a0, .int a1, .int a2, .int a3, .ref o]) (ws := [(h0, .inr (9, [.ref (q 0), .ref (q 1), .ref (q 2), .ref (q 3), .ref (q 4), .ref (q 5), .ref (q 6), .ref (q 7), .int 0])), (o, aJ g 1 (fun _ => o0))]) (sz := sz) (Qc := fun A => (tw_Qi g (fun z _ => z = 1) (fun u : Unit => [(h0, .inr (9, [.ref (q 0), .ref (q 1), .ref (q 2), .ref (q 3), .ref (q 4), .ref (q 5), .ref (q 6), .ref (q 7), .int 0])), (o, aJ g 1 (fun _ => o0))]) A)) (by decide) (Nat.le_of_ble_eq_true rfl) ?_
  intro p e s m below meth c ls H A E hB hK hZ hP hD hS hA hl htab
  have hN := hZ.2.1
  obtain ⟨hx, hb, hml, hr, hown, hts, hlocks, hin⟩ := id E
  have hl : lv_has ls 7 [(0, .ref h0), (1, .int a0), (2, .int a1), (3, .int a2), (4, .int a3), (5, .ref o)] := hl
  refine lv_aload hx hb d_Law_kind_0 (lv_at hl 5 rfl) ?_
  refine lv_iconst (v := 0) hx hb d_Law_kind_2 (by decide) ?_
  refine lv_aload_n hx hb d_Law_kind_3 rfl (lv_at hl 0 rfl) ?_
  refine lv_iload_n hx hb d_Law_kind_4 rfl (lv_at hl 1 rfl) ?_
  refine lv_iload_n hx hb d_Law_kind_5 rfl (lv_at hl 2 rfl) ?_
  refine lv_iload_n hx hb d_Law_kind_6 rfl (lv_at hl 3 rfl) ?_
  refine lv_iload hx hb d_Law_kind_7 (lv_at hl 4 rfl) ?_
  refine tw_callX (ws := [(h0, .inr (9, [.ref (q 0), .ref (q 1), .ref (q 2), .ref (q 3), .ref (q 4), .ref (q 5), .ref (q 6), .ref (q 7), .int 0])), (o, aJ g 1 (fun _ => o0))]) (wc := [(h0, .inr (9, [.ref (q 0), .ref (q 1), .ref (q 2), .ref (q 3), .ref (q 4), .ref (q 5), .ref (q 6), .ref (q 7), .int 0]))]) (wr := [(o, aJ g 1 (fun _ => o0))]) (As := [.int a0, .int a1, .int a2, .int a3]) (rest := [.int 0, .ref o]) E hB hK hZ (c_Ship_kind0 l hfl g H.size h0 q a0 a1 a2 a3) mc_Ship_kind mi_Ship_kind me_Ship_kind wd_1234 hP hD hS hA [0] [1] rfl rfl (by decide) (by decide) (by decide) 0 rfl rfl rfl rfl rfl (by decide) rfl hl.1 rfl (Nat.le_of_ble_eq_true rfl) (by decide) d_Law_kind_9 (fun rv u1 H locs hr hP hD hS => ?_) (fun Y x H locs hth hce hP hD hS => ?_)
  · exact hr.elim
  · rcases hth with rfl
    · refine tw_catch1 (f := F0 m 9 ls [.int 0, .ref o]) (own := "ShippedClassLaw") rfl hown htab rfl (by decide) (hts _ wd_1025) (hts _ wd_1095) hce ?_
      refine W.eq (g2 := F0 m 17 ls [.ref x]) rfl ?_
      refine W.widen (k := 1) (n := 6) (by decide) (by decide) ?_
      refine lv_astore hx hb d_Law_kind_17 hl (by decide) rfl (fun ls hl => ?_)
      have hl : lv_has ls 7 [(6, .ref x), (0, .ref h0), (1, .int a0), (2, .int a1), (3, .int a2), (4, .int a3), (5, .ref o)] := hl
      refine lv_iconst (v := 1) hx hb d_Law_kind_19 (by decide) ?_
      exact tw_iret E hS () rfl hP hD d_Law_kind_20
