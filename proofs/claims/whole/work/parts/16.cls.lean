set_option maxHeartbeats 4000000 in
set_option maxRecDepth 100000 in
theorem c_Image_add (l : Launch) (g : tw_G) (sz : Nat) (h0 r n : Nat) (f : Nat → Int32) (v : Int32) (hn : n < 600) : Met l y_Image_add [.code y_Image_add b_Image_add 2 none] ({ frames := 0, cells := 0, slots := 0, locals := 0 }) (tw_P g [.ref h0, .int v] [(h0, .inr (2, [.ref r, .int (nI n)])), (r, aB g 600 f)] sz) (tw_Qv g (fun _ => True) (fun u : Unit => [(h0, .inr (2, [.ref r, .int (nI (n + 1))])), (r, aB g 600 (upd f n v.toInt8.toInt32))]) (va_A [(h0, .inr (2, [.ref r, .int (nI n)])), (r, aB g 600 f)] sz)) 0 0 (va_A [(h0, .inr (2, [.ref r, .int (nI n)])), (r, aB g 600 f)] sz) := by
  refine tw_metW (l := l) (g := g) (y := y_Image_add) (cc := b_Image_add) (maxL := 2) (ret := none) (rm := { frames := 0, cells := 0, slots := 0, locals := 0 }) (mc := 0) (ms := 0) (av := [.ref h0, .int v]) (ws := [(h0, .inr (2, [.ref r, .int (nI n)])), (r, aB g 600 f)]) (sz := sz) (Qc := fun A => (tw_Qv g (fun _ => True) (fun u : Unit => [(h0, .inr (2, [.ref r, .int (nI (n + 1))])), (r, aB g 600 (upd f n v.toInt8.toInt32))]) A)) (by decide) (Nat.le_of_ble_eq_true rfl) ?_
  intro p e s m below meth c ls H A E hB hK hZ hP hD hS hA hl
  obtain ⟨hx, hb, hml, hr, hown, hts, hlocks, hin⟩ := id E
  have hl : lv_has ls 2 [(0, .ref h0), (1, .int v)] := hl
  refine lv_aload_n hx hb d_Image_add_0 rfl (lv_at hl 0 rfl) ?_
  refine va_get (D := g.1) (ci := 2) (v := .int (nI n)) (C := R_Image) (T := F_Image) (N := 2) hx hb hts in_Image hown hK hP 0 rfl rfl 1 (by decide) (hts _ wd_43) (fun _ h9 => h9) rfl d_Image_add_1 ?_
  refine lv_sipush (v := 600) hx hb d_Image_add_4 (by decide) ?_
  refine lv_icmp_ge (tgt := 31) hx hb d_Image_add_7 (by decide) (fun h7 => ?_) (fun h7 => ?_)
  · exact absurd h7 (nI_ge hn (by decide))
  · refine lv_aload_n hx hb d_Image_add_10 rfl (lv_at hl 0 rfl) ?_
    refine va_get (D := g.1) (ci := 2) (v := .ref r) (C := R_Image) (T := F_Image) (N := 2) hx hb hts in_Image hown hK hP 0 rfl rfl 0 (by decide) (hts _ wd_42) (fun _ h9 => h9) rfl d_Image_add_11 ?_
    refine lv_aload_n hx hb d_Image_add_14 rfl (lv_at hl 0 rfl) ?_
    refine va_get (D := g.1) (ci := 2) (v := .int (nI n)) (C := R_Image) (T := F_Image) (N := 2) hx hb hts in_Image hown hK hP 0 rfl rfl 1 (by decide) (hts _ wd_43) (fun _ h9 => h9) rfl d_Image_add_15 ?_
    refine lv_iload_n hx hb d_Image_add_18 rfl (lv_at hl 1 rfl) ?_
    refine lv_i2b (v := v.toInt8.toInt32) hx hb d_Image_add_19 rfl ?_
    refine va_bast hx hb hK hP hD hS 1 1 rfl rfl (vp_in_nI hn (by decide)) d_Image_add_20 (fun H locs hP hD hS => ?_)
    have hP : va_P g.1 classes [(h0, .inr (2, [.ref r, .int (nI n)])), (r, aB g 600 (upd f (nI n).toNatClampNeg (vp_nar .byte v.toInt8.toInt32)))] H := hP
    have hD : va_D A [(h0, .inr (2, [.ref r, .int (nI n)])), (r, aB g 600 (upd f (nI n).toNatClampNeg (vp_nar .byte v.toInt8.toInt32)))] := hD
    have e9 : upd f (nI n).toNatClampNeg (vp_nar .byte v.toInt8.toInt32) = upd f n v.toInt8.toInt32 := by rw [nI_clamp (by omega), pk_vb]
    rw [e9] at hP hD
    refine lv_aload_n hx hb d_Image_add_21 rfl (lv_at hl 0 rfl) ?_
    refine lv_dup hx hb d_Image_add_22 rfl ?_
    refine va_get (D := g.1) (ci := 2) (v := .int (nI n)) (C := R_Image) (T := F_Image) (N := 2) hx hb hts in_Image hown hK hP 0 rfl rfl 1 (by decide) (hts _ wd_43) (fun _ h9 => h9) rfl d_Image_add_23 ?_
    refine lv_iconst (v := 1) hx hb d_Image_add_26 (by decide) ?_
    refine lv_iadd hx hb d_Image_add_27 ?_
    refine tw_ri (e2 := nI (n + 1)) ((nI_succ n).symm) ?_
    refine va_put (D := g.1) (ci := 2) (v := .int (nI (n + 1))) (ty := .int) (C := R_Image) (T := F_Image) (N := 2) hx hb hts in_Image t_Image t_Image_ok n_Image hown hK hP hD hS 0 rfl rfl 1 (by decide) (hts _ wd_43) (fun _ h9 => h9) rfl (t_Image_ok 1 (by decide)) rfl rfl (Nat.le_of_ble_eq_true rfl) d_Image_add_28 (fun H locs hP hD hS => ?_)
    have hP : va_P g.1 classes [(h0, .inr (2, [.ref r, .int (nI (n + 1))])), (r, aB g 600 (upd f n v.toInt8.toInt32))] H := hP
    have hD : va_D A [(h0, .inr (2, [.ref r, .int (nI (n + 1))])), (r, aB g 600 (upd f n v.toInt8.toInt32))] := hD
    exact tw_vret E hS () trivial hP hD d_Image_add_31
set_option maxHeartbeats 4000000 in
set_option maxRecDepth 100000 in
theorem c_Image_oneAt (l : Launch) (g : tw_G) (sz : Nat) (h0 r n : Nat) (f : Nat → Int32) (i : Int32) (hn : n ≤ 600) : Met l y_Image_oneAt [.code y_Image_oneAt b_Image_oneAt 2 (some .int)] ({ frames := 0, cells := 0, slots := 0, locals := 0 }) (tw_P g [.ref h0, .int i] [(h0, .inr (2, [.ref r, .int (nI n)])), (r, aB g 600 f)] sz) (vp_Si (fun r => r = im_b f n i)) 0 0 (fun _ => False) := by
  refine tw_met (l := l) (g := g) (y := y_Image_oneAt) (cc := b_Image_oneAt) (maxL := 2) (ret := (some .int)) (rm := { frames := 0, cells := 0, slots := 0, locals := 0 }) (mc := 0) (ms := 0) (av := [.ref h0, .int i]) (ws := [(h0, .inr (2, [.ref r, .int (nI n)])), (r, aB g 600 f)]) (sz := sz) (Qc := fun _ => (vp_Si (fun r => r = im_b f n i))) (free := fun _ _ => False) (by decide) (Nat.le_of_ble_eq_true rfl) ?_
  intro p e s m below meth c ls A E hB hK hZ hP hD hS hA hl
  obtain ⟨hx, hb, hml, hr, hown, hts, hlocks, hin⟩ := id E
  have hl : lv_has ls 2 [(0, .ref h0), (1, .int i)] := hl
  refine lv_iload_n hx hb d_Image_oneAt_0 rfl (lv_at hl 1 rfl) ?_
  refine lv_if_lt (tgt := 25) hx hb d_Image_oneAt_1 (by decide) (fun h1 => ?_) (fun h1 => ?_)
  · refine lv_iconst (v := 0) hx hb d_Image_oneAt_25 (by decide) ?_
    exact tw_isret E (by first | exact (im_b0 h1).symm | exact (im_b1 h9).symm) d_Image_oneAt_26
  · refine lv_iload_n hx hb d_Image_oneAt_4 rfl (lv_at hl 1 rfl) ?_
    refine lv_aload_n hx hb d_Image_oneAt_5 rfl (lv_at hl 0 rfl) ?_
    refine va_get (D := g.1) (ci := 2) (v := .int (nI n)) (C := R_Image) (T := F_Image) (N := 2) hx hb hts in_Image hown hK hP 0 rfl rfl 1 (by decide) (hts _ wd_43) (fun _ h9 => h9) rfl d_Image_oneAt_6 ?_
    refine lv_icmp_ge (tgt := 25) hx hb d_Image_oneAt_9 (by decide) (fun h9 => ?_) (fun h9 => ?_)
    · refine lv_iconst (v := 0) hx hb d_Image_oneAt_25 (by decide) ?_
      exact tw_isret E (by first | exact (im_b0 h1).symm | exact (im_b1 h9).symm) d_Image_oneAt_26
    · refine lv_aload_n hx hb d_Image_oneAt_12 rfl (lv_at hl 0 rfl) ?_
      refine va_get (D := g.1) (ci := 2) (v := .ref r) (C := R_Image) (T := F_Image) (N := 2) hx hb hts in_Image hown hK hP 0 rfl rfl 0 (by decide) (hts _ wd_42) (fun _ h9 => h9) rfl d_Image_oneAt_13 ?_
      refine lv_iload_n hx hb d_Image_oneAt_16 rfl (lv_at hl 1 rfl) ?_
      refine va_bald hx hb hK hP 1 1 rfl rfl (tn_in h1 h9 hn (by decide)) d_Image_oneAt_17 ?_
      refine lv_sipush (v := 255) hx hb d_Image_oneAt_18 (by decide) ?_
      refine lv_iand hx hb d_Image_oneAt_21 ?_
      refine lv_goto (tgt := 26) hx hb d_Image_oneAt_22 (by decide) ?_
      exact tw_isret E ((im_b2 h1 h9).symm) d_Image_oneAt_26
set_option maxHeartbeats 4000000 in
set_option maxRecDepth 100000 in
theorem c_Image_change (l : Launch) (g : tw_G) (sz : Nat) (h0 r n j : Nat) (f : Nat → Int32) (v : Int32) (hj : j < n) (hn : n ≤ 600) : Met l y_Image_change [.code y_Image_change b_Image_change 3 none] ({ frames := 0, cells := 0, slots := 0, locals := 0 }) (tw_P g [.ref h0, .int (nI j), .int v] [(h0, .inr (2, [.ref r, .int (nI n)])), (r, aB g 600 f)] sz) (tw_Qv g (fun _ => True) (fun u : Unit => [(h0, .inr (2, [.ref r, .int (nI n)])), (r, aB g 600 (upd f j v.toInt8.toInt32))]) (va_A [(h0, .inr (2, [.ref r, .int (nI n)])), (r, aB g 600 f)] sz)) 0 0 (va_A [(h0, .inr (2, [.ref r, .int (nI n)])), (r, aB g 600 f)] sz) := by
  refine tw_metW (l := l) (g := g) (y := y_Image_change) (cc := b_Image_change) (maxL := 3) (ret := none) (rm := { frames := 0, cells := 0, slots := 0, locals := 0 }) (mc := 0) (ms := 0) (av := [.ref h0, .int (nI j), .int v]) (ws := [(h0, .inr (2, [.ref r, .int (nI n)])), (r, aB g 600 f)]) (sz := sz) (Qc := fun A => (tw_Qv g (fun _ => True) (fun u : Unit => [(h0, .inr (2, [.ref r, .int (nI n)])), (r, aB g 600 (upd f j v.toInt8.toInt32))]) A)) (by decide) (Nat.le_of_ble_eq_true rfl) ?_
  intro p e s m below meth c ls H A E hB hK hZ hP hD hS hA hl
  obtain ⟨hx, hb, hml, hr, hown, hts, hlocks, hin⟩ := id E
  have hl : lv_has ls 3 [(0, .ref h0), (1, .int (nI j)), (2, .int v)] := hl
  refine lv_iload_n hx hb d_Image_change_0 rfl (lv_at hl 1 rfl) ?_
  refine lv_if_lt (tgt := 20) hx hb d_Image_change_1 (by decide) (fun h1 => ?_) (fun h1 => ?_)
  · exact absurd h1 (nI_pos (by omega))
  · refine lv_iload_n hx hb d_Image_change_4 rfl (lv_at hl 1 rfl) ?_
    refine lv_aload_n hx hb d_Image_change_5 rfl (lv_at hl 0 rfl) ?_
    refine va_get (D := g.1) (ci := 2) (v := .int (nI n)) (C := R_Image) (T := F_Image) (N := 2) hx hb hts in_Image hown hK hP 0 rfl rfl 1 (by decide) (hts _ wd_43) (fun _ h9 => h9) rfl d_Image_change_6 ?_
    refine lv_icmp_ge (tgt := 20) hx hb d_Image_change_9 (by decide) (fun h9 => ?_) (fun h9 => ?_)
    · exact absurd h9 (nI_ge hj (by omega))
    · refine lv_aload_n hx hb d_Image_change_12 rfl (lv_at hl 0 rfl) ?_
      refine va_get (D := g.1) (ci := 2) (v := .ref r) (C := R_Image) (T := F_Image) (N := 2) hx hb hts in_Image hown hK hP 0 rfl rfl 0 (by decide) (hts _ wd_42) (fun _ h9 => h9) rfl d_Image_change_13 ?_
      refine lv_iload_n hx hb d_Image_change_16 rfl (lv_at hl 1 rfl) ?_
      refine lv_iload_n hx hb d_Image_change_17 rfl (lv_at hl 2 rfl) ?_
      refine lv_i2b (v := v.toInt8.toInt32) hx hb d_Image_change_18 rfl ?_
      refine va_bast hx hb hK hP hD hS 1 1 rfl rfl (vp_in_nI (by omega) (by decide)) d_Image_change_19 (fun H locs hP hD hS => ?_)
      have hP : va_P g.1 classes [(h0, .inr (2, [.ref r, .int (nI n)])), (r, aB g 600 (upd f (nI j).toNatClampNeg (vp_nar .byte v.toInt8.toInt32)))] H := hP
      have hD : va_D A [(h0, .inr (2, [.ref r, .int (nI n)])), (r, aB g 600 (upd f (nI j).toNatClampNeg (vp_nar .byte v.toInt8.toInt32)))] := hD
      have e9 : upd f (nI j).toNatClampNeg (vp_nar .byte v.toInt8.toInt32) = upd f j v.toInt8.toInt32 := by rw [nI_clamp (by omega), pk_vb]
      rw [e9] at hP hD
      exact tw_vret E hS () trivial hP hD d_Image_change_20
set_option maxHeartbeats 4000000 in
set_option maxRecDepth 100000 in
theorem c_Ship_feed (l : Launch) (hfl : l.flags = flags0) (g : tw_G) (sz : Nat) (h0 r n : Nat) (q : Nat → Nat) (f : Nat → Int32) (ig many a b c1 d : Int32) (hn : n ≤ 600) : tw_Met l y_Ship_feed [.code y_Ship_feed b_Ship_feed 8 (some .int)] ({ frames := 6, cells := 1, slots := 6, locals := 81 }) (tw_P g [.ref h0, .int many, .int a, .int b, .int c1, .int d] [(h0, .inr (9, [.ref (q 0), .ref (q 1), .ref (q 2), .ref (q 3), .ref (q 4), .ref (q 5), .ref (q 6), .ref (q 7), .int ig])), ((q 0), .inr (2, [.ref r, .int (nI n)])), (r, aB g 600 f)] sz) (tw_QX g (fun r (u : Nat) => many = nI u ∧ u ≤ 16 ∧ n + u ≤ 600 ∧ r = nI (n + u)) (fun u : Nat => [(h0, .inr (9, [.ref (q 0), .ref (q 1), .ref (q 2), .ref (q 3), .ref (q 4), .ref (q 5), .ref (q 6), .ref (q 7), .int ig])), ((q 0), .inr (2, [.ref r, .int (nI (n + u))])), (r, aB g 600 (fd_f f n a b c1 d u))]) (fun X => (X = "java/lang/IllegalArgumentException" ∧ (many < 0 ∨ 16 < many)) ∨ (X = "java/lang/IllegalStateException" ∧ ¬ many < 0 ∧ many ≤ 16 ∧ 600 < nI n + many)) (va_A [(h0, .inr (9, [.ref (q 0), .ref (q 1), .ref (q 2), .ref (q 3), .ref (q 4), .ref (q 5), .ref (q 6), .ref (q 7), .int ig])), ((q 0), .inr (2, [.ref r, .int (nI n)])), (r, aB g 600 f)] sz)) 1 6 (va_A [(h0, .inr (9, [.ref (q 0), .ref (q 1), .ref (q 2), .ref (q 3), .ref (q 4), .ref (q 5), .ref (q 6), .ref (q 7), .int ig])), ((q 0), .inr (2, [.ref r, .int (nI n)])), (r, aB g 600 f)] sz) := by
  refine tw_metX (l := l) (g := g) (y := y_Ship_feed) (cc := b_Ship_feed) (maxL := 8) (ret := (some .int)) (rm := { frames := 6, cells := 1, slots := 6, locals := 81 }) (mc := 1) (ms := 6) (av := [.ref h0, .int many, .int a, .int b, .int c1, .int d]) (ws := [(h0, .inr (9, [.ref (q 0), .ref (q 1), .ref (q 2), .ref (q 3), .ref (q 4), .ref (q 5), .ref (q 6), .ref (q 7), .int ig])), ((q 0), .inr (2, [.ref r, .int (nI n)])), (r, aB g 600 f)]) (sz := sz) (Qc := fun A => (tw_QX g (fun r (u : Nat) => many = nI u ∧ u ≤ 16 ∧ n + u ≤ 600 ∧ r = nI (n + u)) (fun u : Nat => [(h0, .inr (9, [.ref (q 0), .ref (q 1), .ref (q 2), .ref (q 3), .ref (q 4), .ref (q 5), .ref (q 6), .ref (q 7), .int ig])), ((q 0), .inr (2, [.ref r, .int (nI (n + u))])), (r, aB g 600 (fd_f f n a b c1 d u))]) (fun X => (X = "java/lang/IllegalArgumentException" ∧ (many < 0 ∨ 16 < many)) ∨ (X = "java/lang/IllegalStateException" ∧ ¬ many < 0 ∧ many ≤ 16 ∧ 600 < nI n + many)) A)) (by decide) (Nat.le_of_ble_eq_true rfl) ?_
  intro p e s m below meth c ls A E hB hK hZ hP hD hS hA hl hno
  have hX := hZ.1
  obtain ⟨hx, hb, hml, hr, hown, hts, hlocks, hin⟩ := id E
  have hl : lv_has ls 8 [(0, .ref h0), (1, .int many), (2, .int a), (3, .int b), (4, .int c1), (5, .int d)] := hl
  refine lv_iload_n hx hb d_Ship_feed_0 rfl (lv_at hl 1 rfl) ?_
  refine lv_if_lt (tgt := 10) hx hb d_Ship_feed_1 (by decide) (fun h1 => ?_) (fun h1 => ?_)
  · exact tw_throw (X := "java/lang/IllegalArgumentException") (names := ["java/lang/RuntimeException", "java/lang/Exception"]) (ia := 61) (ic := 63) E hfl hno (by decide +kernel) (by decide +kernel) (oa_IAE hts hX) (hts _ wd_1030) (hts _ wd_15) hl.1 (by decide) (by decide) (by decide) (by decide) (fun t hc ho hz hw => ⟨Or.inr ⟨_, Or.inl ⟨rfl, by first | exact Or.inl h1 | exact Or.inr (by first | exact Int32.not_le.mp h7)⟩, rfl, hc, ho⟩, hz, fun q h _ => ho q h⟩) d_Ship_feed_10 d_Ship_feed_13 d_Ship_feed_14 d_Ship_feed_17
  · refine lv_iload_n hx hb d_Ship_feed_4 rfl (lv_at hl 1 rfl) ?_
    refine lv_bipush (v := 16) hx hb d_Ship_feed_5 (by decide) ?_
    refine lv_icmp_le (tgt := 18) hx hb d_Ship_feed_7 (by decide) (fun h7 => ?_) (fun h7 => ?_)
    · obtain ⟨k0, hk0, hke⟩ := nI_of2 (n := 16) (by decide) h1 h7
      refine lv_aload_n hx hb d_Ship_feed_18 rfl (lv_at hl 0 rfl) ?_
      refine va_get (D := g.1) (ci := 9) (v := .ref (q 0)) (C := R_Ship) (T := F_Ship) (N := 9) hx hb hts in_Ship hown hK hP 0 rfl rfl 0 (by decide) (hts _ wd_312) (fun _ h9 => h9) rfl d_Ship_feed_19 ?_
      refine va_getN (D := g.1) (ci := 2) (v := .int (nI n)) (C := R_Image) (T := F_Image) (N := 2) hx hb hts in_Image hown hK hP 1 rfl rfl 1 (by decide) (hts _ wd_44) (fun _ h9 => h9) rfl d_Ship_feed_22 ?_
      refine lv_iload_n hx hb d_Ship_feed_25 rfl (lv_at hl 1 rfl) ?_
      refine lv_iadd hx hb d_Ship_feed_26 ?_
      refine lv_sipush (v := 600) hx hb d_Ship_feed_27 (by decide) ?_
      refine lv_icmp_le (tgt := 41) hx hb d_Ship_feed_30 (by decide) (fun h30 => ?_) (fun h30 => ?_)
      · rw [hke, nI_add] at h30
        have h30 := tn_le (b := 600) h30 (by omega) (by decide)
        subst hke
        refine lv_iconst (v := 0) hx hb d_Ship_feed_41 (by decide) ?_
        refine lv_istore hx hb d_Ship_feed_42 hl (by decide) rfl (fun ls hl => ?_)
        have hl : lv_has ls 8 [(6, .int 0), (0, .ref h0), (1, .int (nI k0)), (2, .int a), (3, .int b), (4, .int c1), (5, .int d)] := hl
        have loop44 : ∀ (k : Nat) (i : Nat) (ls : Array Slot) (H : Heap) (locs : List Loc) , k0 - i = k → (hi : i ≤ k0) → lv_has ls 8 [(6, .int (nI i)), (0, .ref h0), (1, .int (nI k0)), (2, .int a), (3, .int b), (4, .int c1), (5, .int d)] → va_P g.1 classes [(h0, .inr (9, [.ref (q 0), .ref (q 1), .ref (q 2), .ref (q 3), .ref (q 4), .ref (q 5), .ref (q 6), .ref (q 7), .int ig])), ((q 0), .inr (2, [.ref r, .int (nI (n + i))])), (r, aB g 600 (fd_f f n a b c1 d i))] H → va_D A [(h0, .inr (9, [.ref (q 0), .ref (q 1), .ref (q 2), .ref (q 3), .ref (q 4), .ref (q 5), .ref (q 6), .ref (q 7), .int ig])), ((q 0), .inr (2, [.ref r, .int (nI (n + i))])), (r, aB g 600 (fd_f f n a b c1 d i))] → va_S A s.heap H locs → W p l e ({ frames := 6, cells := 1, slots := 6, locals := 81 }) s m [.ref h0, .int (nI k0), .int a, .int b, .int c1, .int d].toArray below meth c H locs 0 0 (tw_MX below (tw_QX g (fun r (u : Nat) => (nI k0) = nI u ∧ u ≤ 16 ∧ n + u ≤ 600 ∧ r = nI (n + u)) (fun u : Nat => [(h0, .inr (9, [.ref (q 0), .ref (q 1), .ref (q 2), .ref (q 3), .ref (q 4), .ref (q 5), .ref (q 6), .ref (q 7), .int ig])), ((q 0), .inr (2, [.ref r, .int (nI (n + u))])), (r, aB g 600 (fd_f f n a b c1 d u))]) (fun X => (X = "java/lang/IllegalArgumentException" ∧ ((nI k0) < 0 ∨ 16 < (nI k0))) ∨ (X = "java/lang/IllegalStateException" ∧ ¬ (nI k0) < 0 ∧ (nI k0) ≤ 16 ∧ 600 < nI n + (nI k0))) A) [.ref h0, .int (nI k0), .int a, .int b, .int c1, .int d].toArray s 1 6 A) (F0 m 44 ls []) := by
          intro k
          induction k using Nat.strongRecOn with
          | _ k ih =>
            intro i ls H locs hk hi hl hP hD hS
            refine lv_iload hx hb d_Ship_feed_44 (lv_at hl 0 rfl) ?_
            refine lv_iload_n hx hb d_Ship_feed_46 rfl (lv_at hl 2 rfl) ?_
            refine lv_icmp_ge (tgt := 113) hx hb d_Ship_feed_47 (by decide) (fun h47 => ?_) (fun h47 => ?_)
            · have h47 := tn_le h47 (by omega) (by omega)
              obtain rfl : i = k0 := by omega
              refine lv_aload_n hx hb d_Ship_feed_113 rfl (lv_at hl 1 rfl) ?_
              refine va_get (D := g.1) (ci := 9) (v := .ref (q 0)) (C := R_Ship) (T := F_Ship) (N := 9) hx hb hts in_Ship hown hK hP 0 rfl rfl 0 (by decide) (hts _ wd_312) (fun _ h9 => h9) rfl d_Ship_feed_114 ?_
              refine va_getN (D := g.1) (ci := 2) (v := .int (nI (n + i))) (C := R_Image) (T := F_Image) (N := 2) hx hb hts in_Image hown hK hP 1 rfl rfl 1 (by decide) (hts _ wd_44) (fun _ h9 => h9) rfl d_Ship_feed_117 ?_
              refine W.widen (k := 1) (n := 6) (by decide) (by decide) ?_
              exact tw_iretX E rfl hS i (⟨rfl, by omega, by omega, rfl⟩) hP hD d_Ship_feed_120
            · have h47 := tn_nle h47 (by omega) (by omega)
              refine lv_iload hx hb d_Ship_feed_50 (lv_at hl 0 rfl) ?_
              refine lv_iconst (v := 4) hx hb d_Ship_feed_52 (by decide) ?_
              refine lv_icmp_ge (tgt := 60) hx hb d_Ship_feed_53 (by decide) (fun h53 => ?_) (fun h53 => ?_)
              · have h53 := tn_le (a := 4) h53 (by decide) (by omega)
                refine lv_iload hx hb d_Ship_feed_60 (lv_at hl 0 rfl) ?_
                refine lv_bipush (v := 8) hx hb d_Ship_feed_62 (by decide) ?_
                refine lv_icmp_ge (tgt := 71) hx hb d_Ship_feed_64 (by decide) (fun h64 => ?_) (fun h64 => ?_)
                · have h64 := tn_le (a := 8) h64 (by decide) (by omega)
                  refine lv_iload hx hb d_Ship_feed_71 (lv_at hl 0 rfl) ?_
                  refine lv_bipush (v := 12) hx hb d_Ship_feed_73 (by decide) ?_
                  refine lv_icmp_ge (tgt := 83) hx hb d_Ship_feed_75 (by decide) (fun h75 => ?_) (fun h75 => ?_)
                  · have h75 := tn_le (a := 12) h75 (by decide) (by omega)
                    have ew : d = fd_w a b c1 d i := by simp [fd_w, show ¬ i < 4 by omega, show ¬ i < 8 by omega, show ¬ i < 12 by omega]
                    refine lv_iload hx hb d_Ship_feed_83 (lv_at hl 6 rfl) ?_
                    refine lv_istore hx hb d_Ship_feed_85 hl (by decide) rfl (fun ls hl => ?_)
                    have hl : lv_has ls 8 [(7, .int d), (6, .int (nI i)), (0, .ref h0), (1, .int (nI k0)), (2, .int a), (3, .int b), (4, .int c1), (5, .int d)] := hl
                    refine lv_aload_n hx hb d_Ship_feed_87 rfl (lv_at hl 2 rfl) ?_
                    refine va_get (D := g.1) (ci := 9) (v := .ref (q 0)) (C := R_Ship) (T := F_Ship) (N := 9) hx hb hts in_Ship hown hK hP 0 rfl rfl 0 (by decide) (hts _ wd_312) (fun _ h9 => h9) rfl d_Ship_feed_88 ?_
                    refine lv_iload hx hb d_Ship_feed_91 (lv_at hl 0 rfl) ?_
                    refine lv_bipush (v := 24) hx hb d_Ship_feed_93 (by decide) ?_
                    refine lv_bipush (v := 8) hx hb d_Ship_feed_95 (by decide) ?_
                    refine lv_iload hx hb d_Ship_feed_97 (lv_at hl 1 rfl) ?_
                    refine lv_iconst (v := 3) hx hb d_Ship_feed_99 (by decide) ?_
                    refine lv_iand hx hb d_Ship_feed_100 ?_
                    refine lv_imul hx hb d_Ship_feed_101 ?_
                    refine lv_isub hx hb d_Ship_feed_102 ?_
                    refine lv_iushr (v := (d.toUInt32 >>> ((24 - (8 * ((nI i) &&& 3))).toUInt32 &&& Int32.toUInt32 31)).toInt32) hx hb d_Ship_feed_103 rfl ?_
                    refine tw_wv (wr := [(h0, .inr (9, [.ref (q 0), .ref (q 1), .ref (q 2), .ref (q 3), .ref (q 4), .ref (q 5), .ref (q 6), .ref (q 7), .int ig]))]) (tw_runV (ws := [(h0, .inr (9, [.ref (q 0), .ref (q 1), .ref (q 2), .ref (q 3), .ref (q 4), .ref (q 5), .ref (q 6), .ref (q 7), .int ig])), ((q 0), .inr (2, [.ref r, .int (nI (n + i))])), (r, aB g 600 (fd_f f n a b c1 d i))]) (wc := [((q 0), .inr (2, [.ref r, .int (nI (n + i))])), (r, aB g 600 (fd_f f n a b c1 d i))]) (As := [.int ((d.toUInt32 >>> ((24 - (8 * ((nI i) &&& 3))).toUInt32 &&& Int32.toUInt32 31)).toInt32)]) (rest := []) E hB hK hZ (c_Image_add l g H.size (q 0) r (n + i) (fd_f f n a b c1 d i) ((d.toUInt32 >>> ((24 - (8 * ((nI i) &&& 3))).toUInt32 &&& Int32.toUInt32 31)).toInt32) (by omega)) mc_Image_add mi_Image_add me_Image_add wd_1108 hP hD hS hA [1, 2] rfl (by decide) 0 rfl rfl rfl rfl rfl (by decide) rfl hl.1 rfl (Nat.le_of_ble_eq_true rfl) (by decide) d_Ship_feed_104) hP hD hS hA [1, 2] [0] rfl rfl (by decide) (by decide) (fun u2 H locs hr1 hP hD hS => ?_)
                    try dsimp only at hr1
                    have hP : va_P g.1 classes [(h0, .inr (9, [.ref (q 0), .ref (q 1), .ref (q 2), .ref (q 3), .ref (q 4), .ref (q 5), .ref (q 6), .ref (q 7), .int ig])), ((q 0), .inr (2, [.ref r, .int (nI (n + i + 1))])), (r, aB g 600 (upd (fd_f f n a b c1 d i) (n + i) ((d.toUInt32 >>> ((24 - (8 * ((nI i) &&& 3))).toUInt32 &&& Int32.toUInt32 31)).toInt32).toInt8.toInt32))] H := hP
                    have hD : va_D A [(h0, .inr (9, [.ref (q 0), .ref (q 1), .ref (q 2), .ref (q 3), .ref (q 4), .ref (q 5), .ref (q 6), .ref (q 7), .int ig])), ((q 0), .inr (2, [.ref r, .int (nI (n + i + 1))])), (r, aB g 600 (upd (fd_f f n a b c1 d i) (n + i) ((d.toUInt32 >>> ((24 - (8 * ((nI i) &&& 3))).toUInt32 &&& Int32.toUInt32 31)).toInt32).toInt8.toInt32))] := hD
                    have hP : va_P g.1 classes [(h0, .inr (9, [.ref (q 0), .ref (q 1), .ref (q 2), .ref (q 3), .ref (q 4), .ref (q 5), .ref (q 6), .ref (q 7), .int ig])), ((q 0), .inr (2, [.ref r, .int (nI (n + i + 1))])), (r, aB g 600 (upd (fd_f f n a b c1 d i) (n + i) ((d.toUInt32 >>> ((24 - (8 * ((nI i) &&& 3))).toUInt32 &&& Int32.toUInt32 31)).toInt32).toInt8.toInt32))] H := hP.sub [0, 1, 2] rfl
                    have hD : va_D A [(h0, .inr (9, [.ref (q 0), .ref (q 1), .ref (q 2), .ref (q 3), .ref (q 4), .ref (q 5), .ref (q 6), .ref (q 7), .int ig])), ((q 0), .inr (2, [.ref r, .int (nI (n + i + 1))])), (r, aB g 600 (upd (fd_f f n a b c1 d i) (n + i) ((d.toUInt32 >>> ((24 - (8 * ((nI i) &&& 3))).toUInt32 &&& Int32.toUInt32 31)).toInt32).toInt8.toInt32))] := hD.sub [0, 1, 2] (by decide) rfl
                    refine lv_iinc (k := 1) (v := nI (i + 1)) hx hb d_Ship_feed_107 hl rfl ((nI_succ i).symm) (by decide) rfl (fun ls hl => ?_)
                    have hl : lv_has ls 8 [(6, .int (nI (i + 1))), (7, .int d), (0, .ref h0), (1, .int (nI k0)), (2, .int a), (3, .int b), (4, .int c1), (5, .int d)] := hl
                    refine lv_goto (tgt := 44) hx hb d_Ship_feed_110 (by decide) ?_
                    have e8 : upd (fd_f f n a b c1 d i) (n + i) ((d.toUInt32 >>> ((24 - (8 * ((nI i) &&& 3))).toUInt32 &&& Int32.toUInt32 31)).toInt32).toInt8.toInt32 = fd_f f n a b c1 d (i + 1) := by rw [fd_f, ← ew]; rfl
                    rw [e8] at hP hD
                    exact ih _ (by omega) (i + 1) ls _ _ rfl (by omega) (lv_sub hl [0, 2, 3, 4, 5, 6, 7] rfl) hP hD hS
                  · have h75 := tn_nle (a := 12) h75 (by decide) (by omega)
                    have ew : c1 = fd_w a b c1 d i := by simp [fd_w, show ¬ i < 4 by omega, show ¬ i < 8 by omega, h75]
                    refine lv_iload hx hb d_Ship_feed_78 (lv_at hl 5 rfl) ?_
                    refine lv_goto (tgt := 85) hx hb d_Ship_feed_80 (by decide) ?_
                    refine lv_istore hx hb d_Ship_feed_85 hl (by decide) rfl (fun ls hl => ?_)
                    have hl : lv_has ls 8 [(7, .int c1), (6, .int (nI i)), (0, .ref h0), (1, .int (nI k0)), (2, .int a), (3, .int b), (4, .int c1), (5, .int d)] := hl
                    refine lv_aload_n hx hb d_Ship_feed_87 rfl (lv_at hl 2 rfl) ?_
                    refine va_get (D := g.1) (ci := 9) (v := .ref (q 0)) (C := R_Ship) (T := F_Ship) (N := 9) hx hb hts in_Ship hown hK hP 0 rfl rfl 0 (by decide) (hts _ wd_312) (fun _ h9 => h9) rfl d_Ship_feed_88 ?_
                    refine lv_iload hx hb d_Ship_feed_91 (lv_at hl 0 rfl) ?_
                    refine lv_bipush (v := 24) hx hb d_Ship_feed_93 (by decide) ?_
                    refine lv_bipush (v := 8) hx hb d_Ship_feed_95 (by decide) ?_
                    refine lv_iload hx hb d_Ship_feed_97 (lv_at hl 1 rfl) ?_
                    refine lv_iconst (v := 3) hx hb d_Ship_feed_99 (by decide) ?_
                    refine lv_iand hx hb d_Ship_feed_100 ?_
                    refine lv_imul hx hb d_Ship_feed_101 ?_
                    refine lv_isub hx hb d_Ship_feed_102 ?_
                    refine lv_iushr (v := (c1.toUInt32 >>> ((24 - (8 * ((nI i) &&& 3))).toUInt32 &&& Int32.toUInt32 31)).toInt32) hx hb d_Ship_feed_103 rfl ?_
                    refine tw_wv (wr := [(h0, .inr (9, [.ref (q 0), .ref (q 1), .ref (q 2), .ref (q 3), .ref (q 4), .ref (q 5), .ref (q 6), .ref (q 7), .int ig]))]) (tw_runV (ws := [(h0, .inr (9, [.ref (q 0), .ref (q 1), .ref (q 2), .ref (q 3), .ref (q 4), .ref (q 5), .ref (q 6), .ref (q 7), .int ig])), ((q 0), .inr (2, [.ref r, .int (nI (n + i))])), (r, aB g 600 (fd_f f n a b c1 d i))]) (wc := [((q 0), .inr (2, [.ref r, .int (nI (n + i))])), (r, aB g 600 (fd_f f n a b c1 d i))]) (As := [.int ((c1.toUInt32 >>> ((24 - (8 * ((nI i) &&& 3))).toUInt32 &&& Int32.toUInt32 31)).toInt32)]) (rest := []) E hB hK hZ (c_Image_add l g H.size (q 0) r (n + i) (fd_f f n a b c1 d i) ((c1.toUInt32 >>> ((24 - (8 * ((nI i) &&& 3))).toUInt32 &&& Int32.toUInt32 31)).toInt32) (by omega)) mc_Image_add mi_Image_add me_Image_add wd_1108 hP hD hS hA [1, 2] rfl (by decide) 0 rfl rfl rfl rfl rfl (by decide) rfl hl.1 rfl (Nat.le_of_ble_eq_true rfl) (by decide) d_Ship_feed_104) hP hD hS hA [1, 2] [0] rfl rfl (by decide) (by decide) (fun u4 H locs hr3 hP hD hS => ?_)
                    try dsimp only at hr3
                    have hP : va_P g.1 classes [(h0, .inr (9, [.ref (q 0), .ref (q 1), .ref (q 2), .ref (q 3), .ref (q 4), .ref (q 5), .ref (q 6), .ref (q 7), .int ig])), ((q 0), .inr (2, [.ref r, .int (nI (n + i + 1))])), (r, aB g 600 (upd (fd_f f n a b c1 d i) (n + i) ((c1.toUInt32 >>> ((24 - (8 * ((nI i) &&& 3))).toUInt32 &&& Int32.toUInt32 31)).toInt32).toInt8.toInt32))] H := hP
                    have hD : va_D A [(h0, .inr (9, [.ref (q 0), .ref (q 1), .ref (q 2), .ref (q 3), .ref (q 4), .ref (q 5), .ref (q 6), .ref (q 7), .int ig])), ((q 0), .inr (2, [.ref r, .int (nI (n + i + 1))])), (r, aB g 600 (upd (fd_f f n a b c1 d i) (n + i) ((c1.toUInt32 >>> ((24 - (8 * ((nI i) &&& 3))).toUInt32 &&& Int32.toUInt32 31)).toInt32).toInt8.toInt32))] := hD
                    have hP : va_P g.1 classes [(h0, .inr (9, [.ref (q 0), .ref (q 1), .ref (q 2), .ref (q 3), .ref (q 4), .ref (q 5), .ref (q 6), .ref (q 7), .int ig])), ((q 0), .inr (2, [.ref r, .int (nI (n + i + 1))])), (r, aB g 600 (upd (fd_f f n a b c1 d i) (n + i) ((c1.toUInt32 >>> ((24 - (8 * ((nI i) &&& 3))).toUInt32 &&& Int32.toUInt32 31)).toInt32).toInt8.toInt32))] H := hP.sub [0, 1, 2] rfl
                    have hD : va_D A [(h0, .inr (9, [.ref (q 0), .ref (q 1), .ref (q 2), .ref (q 3), .ref (q 4), .ref (q 5), .ref (q 6), .ref (q 7), .int ig])), ((q 0), .inr (2, [.ref r, .int (nI (n + i + 1))])), (r, aB g 600 (upd (fd_f f n a b c1 d i) (n + i) ((c1.toUInt32 >>> ((24 - (8 * ((nI i) &&& 3))).toUInt32 &&& Int32.toUInt32 31)).toInt32).toInt8.toInt32))] := hD.sub [0, 1, 2] (by decide) rfl
                    refine lv_iinc (k := 1) (v := nI (i + 1)) hx hb d_Ship_feed_107 hl rfl ((nI_succ i).symm) (by decide) rfl (fun ls hl => ?_)
                    have hl : lv_has ls 8 [(6, .int (nI (i + 1))), (7, .int c1), (0, .ref h0), (1, .int (nI k0)), (2, .int a), (3, .int b), (4, .int c1), (5, .int d)] := hl
                    refine lv_goto (tgt := 44) hx hb d_Ship_feed_110 (by decide) ?_
                    have e8 : upd (fd_f f n a b c1 d i) (n + i) ((c1.toUInt32 >>> ((24 - (8 * ((nI i) &&& 3))).toUInt32 &&& Int32.toUInt32 31)).toInt32).toInt8.toInt32 = fd_f f n a b c1 d (i + 1) := by rw [fd_f, ← ew]; rfl
                    rw [e8] at hP hD
                    exact ih _ (by omega) (i + 1) ls _ _ rfl (by omega) (lv_sub hl [0, 2, 3, 4, 5, 6, 7] rfl) hP hD hS
                · have h64 := tn_nle (a := 8) h64 (by decide) (by omega)
                  have ew : b = fd_w a b c1 d i := by simp [fd_w, show ¬ i < 4 by omega, h64]
                  refine lv_iload_n hx hb d_Ship_feed_67 rfl (lv_at hl 4 rfl) ?_
                  refine lv_goto (tgt := 85) hx hb d_Ship_feed_68 (by decide) ?_
                  refine lv_istore hx hb d_Ship_feed_85 hl (by decide) rfl (fun ls hl => ?_)
                  have hl : lv_has ls 8 [(7, .int b), (6, .int (nI i)), (0, .ref h0), (1, .int (nI k0)), (2, .int a), (3, .int b), (4, .int c1), (5, .int d)] := hl
                  refine lv_aload_n hx hb d_Ship_feed_87 rfl (lv_at hl 2 rfl) ?_
                  refine va_get (D := g.1) (ci := 9) (v := .ref (q 0)) (C := R_Ship) (T := F_Ship) (N := 9) hx hb hts in_Ship hown hK hP 0 rfl rfl 0 (by decide) (hts _ wd_312) (fun _ h9 => h9) rfl d_Ship_feed_88 ?_
                  refine lv_iload hx hb d_Ship_feed_91 (lv_at hl 0 rfl) ?_
                  refine lv_bipush (v := 24) hx hb d_Ship_feed_93 (by decide) ?_
                  refine lv_bipush (v := 8) hx hb d_Ship_feed_95 (by decide) ?_
                  refine lv_iload hx hb d_Ship_feed_97 (lv_at hl 1 rfl) ?_
                  refine lv_iconst (v := 3) hx hb d_Ship_feed_99 (by decide) ?_
                  refine lv_iand hx hb d_Ship_feed_100 ?_
                  refine lv_imul hx hb d_Ship_feed_101 ?_
                  refine lv_isub hx hb d_Ship_feed_102 ?_
                  refine lv_iushr (v := (b.toUInt32 >>> ((24 - (8 * ((nI i) &&& 3))).toUInt32 &&& Int32.toUInt32 31)).toInt32) hx hb d_Ship_feed_103 rfl ?_
                  refine tw_wv (wr := [(h0, .inr (9, [.ref (q 0), .ref (q 1), .ref (q 2), .ref (q 3), .ref (q 4), .ref (q 5), .ref (q 6), .ref (q 7), .int ig]))]) (tw_runV (ws := [(h0, .inr (9, [.ref (q 0), .ref (q 1), .ref (q 2), .ref (q 3), .ref (q 4), .ref (q 5), .ref (q 6), .ref (q 7), .int ig])), ((q 0), .inr (2, [.ref r, .int (nI (n + i))])), (r, aB g 600 (fd_f f n a b c1 d i))]) (wc := [((q 0), .inr (2, [.ref r, .int (nI (n + i))])), (r, aB g 600 (fd_f f n a b c1 d i))]) (As := [.int ((b.toUInt32 >>> ((24 - (8 * ((nI i) &&& 3))).toUInt32 &&& Int32.toUInt32 31)).toInt32)]) (rest := []) E hB hK hZ (c_Image_add l g H.size (q 0) r (n + i) (fd_f f n a b c1 d i) ((b.toUInt32 >>> ((24 - (8 * ((nI i) &&& 3))).toUInt32 &&& Int32.toUInt32 31)).toInt32) (by omega)) mc_Image_add mi_Image_add me_Image_add wd_1108 hP hD hS hA [1, 2] rfl (by decide) 0 rfl rfl rfl rfl rfl (by decide) rfl hl.1 rfl (Nat.le_of_ble_eq_true rfl) (by decide) d_Ship_feed_104) hP hD hS hA [1, 2] [0] rfl rfl (by decide) (by decide) (fun u6 H locs hr5 hP hD hS => ?_)
                  try dsimp only at hr5
                  have hP : va_P g.1 classes [(h0, .inr (9, [.ref (q 0), .ref (q 1), .ref (q 2), .ref (q 3), .ref (q 4), .ref (q 5), .ref (q 6), .ref (q 7), .int ig])), ((q 0), .inr (2, [.ref r, .int (nI (n + i + 1))])), (r, aB g 600 (upd (fd_f f n a b c1 d i) (n + i) ((b.toUInt32 >>> ((24 - (8 * ((nI i) &&& 3))).toUInt32 &&& Int32.toUInt32 31)).toInt32).toInt8.toInt32))] H := hP
                  have hD : va_D A [(h0, .inr (9, [.ref (q 0), .ref (q 1), .ref (q 2), .ref (q 3), .ref (q 4), .ref (q 5), .ref (q 6), .ref (q 7), .int ig])), ((q 0), .inr (2, [.ref r, .int (nI (n + i + 1))])), (r, aB g 600 (upd (fd_f f n a b c1 d i) (n + i) ((b.toUInt32 >>> ((24 - (8 * ((nI i) &&& 3))).toUInt32 &&& Int32.toUInt32 31)).toInt32).toInt8.toInt32))] := hD
                  have hP : va_P g.1 classes [(h0, .inr (9, [.ref (q 0), .ref (q 1), .ref (q 2), .ref (q 3), .ref (q 4), .ref (q 5), .ref (q 6), .ref (q 7), .int ig])), ((q 0), .inr (2, [.ref r, .int (nI (n + i + 1))])), (r, aB g 600 (upd (fd_f f n a b c1 d i) (n + i) ((b.toUInt32 >>> ((24 - (8 * ((nI i) &&& 3))).toUInt32 &&& Int32.toUInt32 31)).toInt32).toInt8.toInt32))] H := hP.sub [0, 1, 2] rfl
                  have hD : va_D A [(h0, .inr (9, [.ref (q 0), .ref (q 1), .ref (q 2), .ref (q 3), .ref (q 4), .ref (q 5), .ref (q 6), .ref (q 7), .int ig])), ((q 0), .inr (2, [.ref r, .int (nI (n + i + 1))])), (r, aB g 600 (upd (fd_f f n a b c1 d i) (n + i) ((b.toUInt32 >>> ((24 - (8 * ((nI i) &&& 3))).toUInt32 &&& Int32.toUInt32 31)).toInt32).toInt8.toInt32))] := hD.sub [0, 1, 2] (by decide) rfl
                  refine lv_iinc (k := 1) (v := nI (i + 1)) hx hb d_Ship_feed_107 hl rfl ((nI_succ i).symm) (by decide) rfl (fun ls hl => ?_)
                  have hl : lv_has ls 8 [(6, .int (nI (i + 1))), (7, .int b), (0, .ref h0), (1, .int (nI k0)), (2, .int a), (3, .int b), (4, .int c1), (5, .int d)] := hl
                  refine lv_goto (tgt := 44) hx hb d_Ship_feed_110 (by decide) ?_
                  have e8 : upd (fd_f f n a b c1 d i) (n + i) ((b.toUInt32 >>> ((24 - (8 * ((nI i) &&& 3))).toUInt32 &&& Int32.toUInt32 31)).toInt32).toInt8.toInt32 = fd_f f n a b c1 d (i + 1) := by rw [fd_f, ← ew]; rfl
                  rw [e8] at hP hD
                  exact ih _ (by omega) (i + 1) ls _ _ rfl (by omega) (lv_sub hl [0, 2, 3, 4, 5, 6, 7] rfl) hP hD hS
              · have h53 := tn_nle (a := 4) h53 (by decide) (by omega)
                have ew : a = fd_w a b c1 d i := by simp [fd_w, h53]
                refine lv_iload_n hx hb d_Ship_feed_56 rfl (lv_at hl 3 rfl) ?_
                refine lv_goto (tgt := 85) hx hb d_Ship_feed_57 (by decide) ?_
                refine lv_istore hx hb d_Ship_feed_85 hl (by decide) rfl (fun ls hl => ?_)
                have hl : lv_has ls 8 [(7, .int a), (6, .int (nI i)), (0, .ref h0), (1, .int (nI k0)), (2, .int a), (3, .int b), (4, .int c1), (5, .int d)] := hl
                refine lv_aload_n hx hb d_Ship_feed_87 rfl (lv_at hl 2 rfl) ?_
                refine va_get (D := g.1) (ci := 9) (v := .ref (q 0)) (C := R_Ship) (T := F_Ship) (N := 9) hx hb hts in_Ship hown hK hP 0 rfl rfl 0 (by decide) (hts _ wd_312) (fun _ h9 => h9) rfl d_Ship_feed_88 ?_
                refine lv_iload hx hb d_Ship_feed_91 (lv_at hl 0 rfl) ?_
                refine lv_bipush (v := 24) hx hb d_Ship_feed_93 (by decide) ?_
                refine lv_bipush (v := 8) hx hb d_Ship_feed_95 (by decide) ?_
                refine lv_iload hx hb d_Ship_feed_97 (lv_at hl 1 rfl) ?_
                refine lv_iconst (v := 3) hx hb d_Ship_feed_99 (by decide) ?_
                refine lv_iand hx hb d_Ship_feed_100 ?_
                refine lv_imul hx hb d_Ship_feed_101 ?_
                refine lv_isub hx hb d_Ship_feed_102 ?_
                refine lv_iushr (v := (a.toUInt32 >>> ((24 - (8 * ((nI i) &&& 3))).toUInt32 &&& Int32.toUInt32 31)).toInt32) hx hb d_Ship_feed_103 rfl ?_
                refine tw_wv (wr := [(h0, .inr (9, [.ref (q 0), .ref (q 1), .ref (q 2), .ref (q 3), .ref (q 4), .ref (q 5), .ref (q 6), .ref (q 7), .int ig]))]) (tw_runV (ws := [(h0, .inr (9, [.ref (q 0), .ref (q 1), .ref (q 2), .ref (q 3), .ref (q 4), .ref (q 5), .ref (q 6), .ref (q 7), .int ig])), ((q 0), .inr (2, [.ref r, .int (nI (n + i))])), (r, aB g 600 (fd_f f n a b c1 d i))]) (wc := [((q 0), .inr (2, [.ref r, .int (nI (n + i))])), (r, aB g 600 (fd_f f n a b c1 d i))]) (As := [.int ((a.toUInt32 >>> ((24 - (8 * ((nI i) &&& 3))).toUInt32 &&& Int32.toUInt32 31)).toInt32)]) (rest := []) E hB hK hZ (c_Image_add l g H.size (q 0) r (n + i) (fd_f f n a b c1 d i) ((a.toUInt32 >>> ((24 - (8 * ((nI i) &&& 3))).toUInt32 &&& Int32.toUInt32 31)).toInt32) (by omega)) mc_Image_add mi_Image_add me_Image_add wd_1108 hP hD hS hA [1, 2] rfl (by decide) 0 rfl rfl rfl rfl rfl (by decide) rfl hl.1 rfl (Nat.le_of_ble_eq_true rfl) (by decide) d_Ship_feed_104) hP hD hS hA [1, 2] [0] rfl rfl (by decide) (by decide) (fun u8 H locs hr7 hP hD hS => ?_)
                try dsimp only at hr7
                have hP : va_P g.1 classes [(h0, .inr (9, [.ref (q 0), .ref (q 1), .ref (q 2), .ref (q 3), .ref (q 4), .ref (q 5), .ref (q 6), .ref (q 7), .int ig])), ((q 0), .inr (2, [.ref r, .int (nI (n + i + 1))])), (r, aB g 600 (upd (fd_f f n a b c1 d i) (n + i) ((a.toUInt32 >>> ((24 - (8 * ((nI i) &&& 3))).toUInt32 &&& Int32.toUInt32 31)).toInt32).toInt8.toInt32))] H := hP
                have hD : va_D A [(h0, .inr (9, [.ref (q 0), .ref (q 1), .ref (q 2), .ref (q 3), .ref (q 4), .ref (q 5), .ref (q 6), .ref (q 7), .int ig])), ((q 0), .inr (2, [.ref r, .int (nI (n + i + 1))])), (r, aB g 600 (upd (fd_f f n a b c1 d i) (n + i) ((a.toUInt32 >>> ((24 - (8 * ((nI i) &&& 3))).toUInt32 &&& Int32.toUInt32 31)).toInt32).toInt8.toInt32))] := hD
                have hP : va_P g.1 classes [(h0, .inr (9, [.ref (q 0), .ref (q 1), .ref (q 2), .ref (q 3), .ref (q 4), .ref (q 5), .ref (q 6), .ref (q 7), .int ig])), ((q 0), .inr (2, [.ref r, .int (nI (n + i + 1))])), (r, aB g 600 (upd (fd_f f n a b c1 d i) (n + i) ((a.toUInt32 >>> ((24 - (8 * ((nI i) &&& 3))).toUInt32 &&& Int32.toUInt32 31)).toInt32).toInt8.toInt32))] H := hP.sub [0, 1, 2] rfl
                have hD : va_D A [(h0, .inr (9, [.ref (q 0), .ref (q 1), .ref (q 2), .ref (q 3), .ref (q 4), .ref (q 5), .ref (q 6), .ref (q 7), .int ig])), ((q 0), .inr (2, [.ref r, .int (nI (n + i + 1))])), (r, aB g 600 (upd (fd_f f n a b c1 d i) (n + i) ((a.toUInt32 >>> ((24 - (8 * ((nI i) &&& 3))).toUInt32 &&& Int32.toUInt32 31)).toInt32).toInt8.toInt32))] := hD.sub [0, 1, 2] (by decide) rfl
                refine lv_iinc (k := 1) (v := nI (i + 1)) hx hb d_Ship_feed_107 hl rfl ((nI_succ i).symm) (by decide) rfl (fun ls hl => ?_)
                have hl : lv_has ls 8 [(6, .int (nI (i + 1))), (7, .int a), (0, .ref h0), (1, .int (nI k0)), (2, .int a), (3, .int b), (4, .int c1), (5, .int d)] := hl
                refine lv_goto (tgt := 44) hx hb d_Ship_feed_110 (by decide) ?_
                have e8 : upd (fd_f f n a b c1 d i) (n + i) ((a.toUInt32 >>> ((24 - (8 * ((nI i) &&& 3))).toUInt32 &&& Int32.toUInt32 31)).toInt32).toInt8.toInt32 = fd_f f n a b c1 d (i + 1) := by rw [fd_f, ← ew]; rfl
                rw [e8] at hP hD
                exact ih _ (by omega) (i + 1) ls _ _ rfl (by omega) (lv_sub hl [0, 2, 3, 4, 5, 6, 7] rfl) hP hD hS
        exact loop44 _ 0 ls _ _ rfl (Nat.zero_le _) (lv_sub hl [0, 1, 2, 3, 4, 5, 6] rfl) hP hD hS
      · exact tw_throw (X := "java/lang/IllegalStateException") (names := ["java/lang/RuntimeException", "java/lang/Exception"]) (ia := 68) (ic := 70) E hfl hno (by decide +kernel) (by decide +kernel) (oa_ISE hts hX) (hts _ wd_1093) (hts _ wd_16) hl.1 (by decide) (by decide) (by decide) (by decide) (fun t hc ho hz hw => ⟨Or.inr ⟨_, Or.inr ⟨rfl, h1, h7, Int32.not_le.mp h30⟩, rfl, hc, ho⟩, hz, fun q h _ => ho q h⟩) d_Ship_feed_33 d_Ship_feed_36 d_Ship_feed_37 d_Ship_feed_40
    · exact tw_throw (X := "java/lang/IllegalArgumentException") (names := ["java/lang/RuntimeException", "java/lang/Exception"]) (ia := 61) (ic := 63) E hfl hno (by decide +kernel) (by decide +kernel) (oa_IAE hts hX) (hts _ wd_1030) (hts _ wd_15) hl.1 (by decide) (by decide) (by decide) (by decide) (fun t hc ho hz hw => ⟨Or.inr ⟨_, Or.inl ⟨rfl, by first | exact Or.inl h1 | exact Or.inr (by first | exact Int32.not_le.mp h7)⟩, rfl, hc, ho⟩, hz, fun q h _ => ho q h⟩) d_Ship_feed_10 d_Ship_feed_13 d_Ship_feed_14 d_Ship_feed_17
set_option maxHeartbeats 4000000 in
set_option maxRecDepth 100000 in
theorem c_Ship_put (l : Launch) (hfl : l.flags = flags0) (g : tw_G) (sz : Nat) (h0 r n : Nat) (q : Nat → Nat) (f : Nat → Int32) (ig pl v : Int32) (hn : n ≤ 600) : tw_Met l y_Ship_put [.code y_Ship_put b_Ship_put 4 (some .int)] ({ frames := 6, cells := 1, slots := 6, locals := 81 }) (tw_P g [.ref h0, .int pl, .int v] [(h0, .inr (9, [.ref (q 0), .ref (q 1), .ref (q 2), .ref (q 3), .ref (q 4), .ref (q 5), .ref (q 6), .ref (q 7), .int ig])), ((q 0), .inr (2, [.ref r, .int (nI n)])), (r, aB g 600 f)] sz) (tw_QX g (fun r (u : Nat) => pl = nI u ∧ u < n ∧ ¬ v < 0 ∧ v ≤ 255 ∧ r = f u &&& 255) (fun u : Nat => [(h0, .inr (9, [.ref (q 0), .ref (q 1), .ref (q 2), .ref (q 3), .ref (q 4), .ref (q 5), .ref (q 6), .ref (q 7), .int ig])), ((q 0), .inr (2, [.ref r, .int (nI n)])), (r, aB g 600 (upd f u v.toInt8.toInt32))]) (fun X => (X = "java/lang/IndexOutOfBoundsException" ∧ (pl < 0 ∨ nI n ≤ pl)) ∨ (X = "java/lang/IllegalArgumentException" ∧ ¬ pl < 0 ∧ pl < nI n ∧ (v < 0 ∨ 255 < v))) (va_A [(h0, .inr (9, [.ref (q 0), .ref (q 1), .ref (q 2), .ref (q 3), .ref (q 4), .ref (q 5), .ref (q 6), .ref (q 7), .int ig])), ((q 0), .inr (2, [.ref r, .int (nI n)])), (r, aB g 600 f)] sz)) 1 6 (va_A [(h0, .inr (9, [.ref (q 0), .ref (q 1), .ref (q 2), .ref (q 3), .ref (q 4), .ref (q 5), .ref (q 6), .ref (q 7), .int ig])), ((q 0), .inr (2, [.ref r, .int (nI n)])), (r, aB g 600 f)] sz) := by
  refine tw_metX (l := l) (g := g) (y := y_Ship_put) (cc := b_Ship_put) (maxL := 4) (ret := (some .int)) (rm := { frames := 6, cells := 1, slots := 6, locals := 81 }) (mc := 1) (ms := 6) (av := [.ref h0, .int pl, .int v]) (ws := [(h0, .inr (9, [.ref (q 0), .ref (q 1), .ref (q 2), .ref (q 3), .ref (q 4), .ref (q 5), .ref (q 6), .ref (q 7), .int ig])), ((q 0), .inr (2, [.ref r, .int (nI n)])), (r, aB g 600 f)]) (sz := sz) (Qc := fun A => (tw_QX g (fun r (u : Nat) => pl = nI u ∧ u < n ∧ ¬ v < 0 ∧ v ≤ 255 ∧ r = f u &&& 255) (fun u : Nat => [(h0, .inr (9, [.ref (q 0), .ref (q 1), .ref (q 2), .ref (q 3), .ref (q 4), .ref (q 5), .ref (q 6), .ref (q 7), .int ig])), ((q 0), .inr (2, [.ref r, .int (nI n)])), (r, aB g 600 (upd f u v.toInt8.toInt32))]) (fun X => (X = "java/lang/IndexOutOfBoundsException" ∧ (pl < 0 ∨ nI n ≤ pl)) ∨ (X = "java/lang/IllegalArgumentException" ∧ ¬ pl < 0 ∧ pl < nI n ∧ (v < 0 ∨ 255 < v))) A)) (by decide) (Nat.le_of_ble_eq_true rfl) ?_
  intro p e s m below meth c ls A E hB hK hZ hP hD hS hA hl hno
  have hX := hZ.1
  obtain ⟨hx, hb, hml, hr, hown, hts, hlocks, hin⟩ := id E
  have hl : lv_has ls 4 [(0, .ref h0), (1, .int pl), (2, .int v)] := hl
  refine lv_iload_n hx hb d_Ship_put_0 rfl (lv_at hl 1 rfl) ?_
  refine lv_if_lt (tgt := 15) hx hb d_Ship_put_1 (by decide) (fun h1 => ?_) (fun h1 => ?_)
  · exact tw_throw (X := "java/lang/IndexOutOfBoundsException") (names := ["java/lang/RuntimeException", "java/lang/Exception"]) (ia := 75) (ic := 77) E hfl hno (by decide +kernel) (by decide +kernel) (oa_IOB hts hX) (hts _ wd_1120) (hts _ wd_17) hl.1 (by decide) (by decide) (by decide) (by decide) (fun t hc ho hz hw => ⟨Or.inr ⟨_, Or.inl ⟨rfl, by first | exact Or.inl h1 | exact Or.inr (Int32.not_lt.mp h12)⟩, rfl, hc, ho⟩, hz, fun q h _ => ho q h⟩) d_Ship_put_15 d_Ship_put_18 d_Ship_put_19 d_Ship_put_22
  · refine lv_iload_n hx hb d_Ship_put_4 rfl (lv_at hl 1 rfl) ?_
    refine lv_aload_n hx hb d_Ship_put_5 rfl (lv_at hl 0 rfl) ?_
    refine va_get (D := g.1) (ci := 9) (v := .ref (q 0)) (C := R_Ship) (T := F_Ship) (N := 9) hx hb hts in_Ship hown hK hP 0 rfl rfl 0 (by decide) (hts _ wd_312) (fun _ h9 => h9) rfl d_Ship_put_6 ?_
    refine va_getN (D := g.1) (ci := 2) (v := .int (nI n)) (C := R_Image) (T := F_Image) (N := 2) hx hb hts in_Image hown hK hP 1 rfl rfl 1 (by decide) (hts _ wd_44) (fun _ h9 => h9) rfl d_Ship_put_9 ?_
    refine lv_icmp_lt (tgt := 23) hx hb d_Ship_put_12 (by decide) (fun h12 => ?_) (fun h12 => ?_)
    · refine lv_iload_n hx hb d_Ship_put_23 rfl (lv_at hl 2 rfl) ?_
      refine lv_if_lt (tgt := 34) hx hb d_Ship_put_24 (by decide) (fun h24 => ?_) (fun h24 => ?_)
      · exact tw_throw (X := "java/lang/IllegalArgumentException") (names := ["java/lang/RuntimeException", "java/lang/Exception"]) (ia := 61) (ic := 63) E hfl hno (by decide +kernel) (by decide +kernel) (oa_IAE hts hX) (hts _ wd_1030) (hts _ wd_15) hl.1 (by decide) (by decide) (by decide) (by decide) (fun t hc ho hz hw => ⟨Or.inr ⟨_, Or.inr ⟨rfl, h1, h12, by first | exact Or.inl h24 | exact Or.inr (Int32.not_le.mp h31)⟩, rfl, hc, ho⟩, hz, fun q h _ => ho q h⟩) d_Ship_put_34 d_Ship_put_37 d_Ship_put_38 d_Ship_put_41
      · refine lv_iload_n hx hb d_Ship_put_27 rfl (lv_at hl 2 rfl) ?_
        refine lv_sipush (v := 255) hx hb d_Ship_put_28 (by decide) ?_
        refine lv_icmp_le (tgt := 42) hx hb d_Ship_put_31 (by decide) (fun h31 => ?_) (fun h31 => ?_)
        · obtain ⟨j, hj, hje⟩ := nI_of h1
          subst hje
          have hj := tn_lt h12 (by omega) (by omega)
          refine lv_aload_n hx hb d_Ship_put_42 rfl (lv_at hl 0 rfl) ?_
          refine va_get (D := g.1) (ci := 9) (v := .ref (q 0)) (C := R_Ship) (T := F_Ship) (N := 9) hx hb hts in_Ship hown hK hP 0 rfl rfl 0 (by decide) (hts _ wd_312) (fun _ h9 => h9) rfl d_Ship_put_43 ?_
          refine lv_iload_n hx hb d_Ship_put_46 rfl (lv_at hl 1 rfl) ?_
          refine tw_si (tw_runV (ws := [(h0, .inr (9, [.ref (q 0), .ref (q 1), .ref (q 2), .ref (q 3), .ref (q 4), .ref (q 5), .ref (q 6), .ref (q 7), .int ig])), ((q 0), .inr (2, [.ref r, .int (nI n)])), (r, aB g 600 f)]) (wc := [((q 0), .inr (2, [.ref r, .int (nI n)])), (r, aB g 600 f)]) (As := [.int (nI j)]) (rest := []) E hB hK hZ (c_Image_oneAt l g s.heap.size (q 0) r n f (nI j) hn) mc_Image_oneAt mi_Image_oneAt me_Image_oneAt wd_1135 hP hD hS hA [1, 2] rfl (by decide) 0 rfl rfl rfl rfl rfl (by decide) rfl hl.1 rfl (Nat.le_of_ble_eq_true rfl) (by decide) d_Ship_put_47) (fun r1 hr1 => ?_)
          obtain rfl : r1 = im_b f n (nI j) := hr1
          refine lv_istore_n hx hb d_Ship_put_50 rfl hl (by decide) rfl (fun ls hl => ?_)
          have hl : lv_has ls 4 [(3, .int (im_b f n (nI j))), (0, .ref h0), (1, .int (nI j)), (2, .int v)] := hl
          refine lv_aload_n hx hb d_Ship_put_51 rfl (lv_at hl 1 rfl) ?_
          refine va_get (D := g.1) (ci := 9) (v := .ref (q 0)) (C := R_Ship) (T := F_Ship) (N := 9) hx hb hts in_Ship hown hK hP 0 rfl rfl 0 (by decide) (hts _ wd_312) (fun _ h9 => h9) rfl d_Ship_put_52 ?_
          refine lv_iload_n hx hb d_Ship_put_55 rfl (lv_at hl 2 rfl) ?_
          refine lv_iload_n hx hb d_Ship_put_56 rfl (lv_at hl 3 rfl) ?_
          refine tw_wv (wr := [(h0, .inr (9, [.ref (q 0), .ref (q 1), .ref (q 2), .ref (q 3), .ref (q 4), .ref (q 5), .ref (q 6), .ref (q 7), .int ig]))]) (tw_runV (ws := [(h0, .inr (9, [.ref (q 0), .ref (q 1), .ref (q 2), .ref (q 3), .ref (q 4), .ref (q 5), .ref (q 6), .ref (q 7), .int ig])), ((q 0), .inr (2, [.ref r, .int (nI n)])), (r, aB g 600 f)]) (wc := [((q 0), .inr (2, [.ref r, .int (nI n)])), (r, aB g 600 f)]) (As := [.int (nI j), .int v]) (rest := []) E hB hK hZ (c_Image_change l g s.heap.size (q 0) r n j f v hj hn) mc_Image_change mi_Image_change me_Image_change wd_1136 hP hD hS hA [1, 2] rfl (by decide) 0 rfl rfl rfl rfl rfl (by decide) rfl hl.1 rfl (Nat.le_of_ble_eq_true rfl) (by decide) d_Ship_put_57) hP hD hS hA [1, 2] [0] rfl rfl (by decide) (by decide) (fun u3 H locs hr2 hP hD hS => ?_)
          try dsimp only at hr2
          have hP : va_P g.1 classes [(h0, .inr (9, [.ref (q 0), .ref (q 1), .ref (q 2), .ref (q 3), .ref (q 4), .ref (q 5), .ref (q 6), .ref (q 7), .int ig])), ((q 0), .inr (2, [.ref r, .int (nI n)])), (r, aB g 600 (upd f j v.toInt8.toInt32))] H := hP
          have hD : va_D A [(h0, .inr (9, [.ref (q 0), .ref (q 1), .ref (q 2), .ref (q 3), .ref (q 4), .ref (q 5), .ref (q 6), .ref (q 7), .int ig])), ((q 0), .inr (2, [.ref r, .int (nI n)])), (r, aB g 600 (upd f j v.toInt8.toInt32))] := hD
          refine lv_iload_n hx hb d_Ship_put_60 rfl (lv_at hl 0 rfl) ?_
          refine W.widen (k := 1) (n := 6) (by decide) (by decide) ?_
          exact tw_iretX E rfl hS j (⟨rfl, hj, h24, h31, by rw [im_b2 h1 (Int32.not_le.mpr h12), nI_clamp (by omega)]⟩) hP hD d_Ship_put_61
        · exact tw_throw (X := "java/lang/IllegalArgumentException") (names := ["java/lang/RuntimeException", "java/lang/Exception"]) (ia := 61) (ic := 63) E hfl hno (by decide +kernel) (by decide +kernel) (oa_IAE hts hX) (hts _ wd_1030) (hts _ wd_15) hl.1 (by decide) (by decide) (by decide) (by decide) (fun t hc ho hz hw => ⟨Or.inr ⟨_, Or.inr ⟨rfl, h1, h12, by first | exact Or.inl h24 | exact Or.inr (Int32.not_le.mp h31)⟩, rfl, hc, ho⟩, hz, fun q h _ => ho q h⟩) d_Ship_put_34 d_Ship_put_37 d_Ship_put_38 d_Ship_put_41
    · exact tw_throw (X := "java/lang/IndexOutOfBoundsException") (names := ["java/lang/RuntimeException", "java/lang/Exception"]) (ia := 75) (ic := 77) E hfl hno (by decide +kernel) (by decide +kernel) (oa_IOB hts hX) (hts _ wd_1120) (hts _ wd_17) hl.1 (by decide) (by decide) (by decide) (by decide) (fun t hc ho hz hw => ⟨Or.inr ⟨_, Or.inl ⟨rfl, by first | exact Or.inl h1 | exact Or.inr (Int32.not_lt.mp h12)⟩, rfl, hc, ho⟩, hz, fun q h _ => ho q h⟩) d_Ship_put_15 d_Ship_put_18 d_Ship_put_19 d_Ship_put_22
set_option maxHeartbeats 4000000 in
set_option maxRecDepth 100000 in
theorem c_Ship_cut (l : Launch) (hfl : l.flags = flags0) (g : tw_G) (sz : Nat) (h0 r n : Nat) (q : Nat → Nat) (ig kc : Int32) (hn : n ≤ 600) : tw_Met l y_Ship_cut [.code y_Ship_cut b_Ship_cut 3 (some .int)] ({ frames := 6, cells := 1, slots := 6, locals := 81 }) (tw_P g [.ref h0, .int kc] [(h0, .inr (9, [.ref (q 0), .ref (q 1), .ref (q 2), .ref (q 3), .ref (q 4), .ref (q 5), .ref (q 6), .ref (q 7), .int ig])), ((q 0), .inr (2, [.ref r, .int (nI n)]))] sz) (tw_QX g (fun r (u : Nat) => kc = nI u ∧ u ≤ n ∧ r = nI (n - u)) (fun u : Nat => [(h0, .inr (9, [.ref (q 0), .ref (q 1), .ref (q 2), .ref (q 3), .ref (q 4), .ref (q 5), .ref (q 6), .ref (q 7), .int ig])), ((q 0), .inr (2, [.ref r, .int (nI u)]))]) (fun X => X = "java/lang/IllegalArgumentException" ∧ (kc < 0 ∨ nI n < kc)) (va_A [(h0, .inr (9, [.ref (q 0), .ref (q 1), .ref (q 2), .ref (q 3), .ref (q 4), .ref (q 5), .ref (q 6), .ref (q 7), .int ig])), ((q 0), .inr (2, [.ref r, .int (nI n)]))] sz)) 1 6 (va_A [(h0, .inr (9, [.ref (q 0), .ref (q 1), .ref (q 2), .ref (q 3), .ref (q 4), .ref (q 5), .ref (q 6), .ref (q 7), .int ig])), ((q 0), .inr (2, [.ref r, .int (nI n)]))] sz) := by
  refine tw_metX (l := l) (g := g) (y := y_Ship_cut) (cc := b_Ship_cut) (maxL := 3) (ret := (some .int)) (rm := { frames := 6, cells := 1, slots := 6, locals := 81 }) (mc := 1) (ms := 6) (av := [.ref h0, .int kc]) (ws := [(h0, .inr (9, [.ref (q 0), .ref (q 1), .ref (q 2), .ref (q 3), .ref (q 4), .ref (q 5), .ref (q 6), .ref (q 7), .int ig])), ((q 0), .inr (2, [.ref r, .int (nI n)]))]) (sz := sz) (Qc := fun A => (tw_QX g (fun r (u : Nat) => kc = nI u ∧ u ≤ n ∧ r = nI (n - u)) (fun u : Nat => [(h0, .inr (9, [.ref (q 0), .ref (q 1), .ref (q 2), .ref (q 3), .ref (q 4), .ref (q 5), .ref (q 6), .ref (q 7), .int ig])), ((q 0), .inr (2, [.ref r, .int (nI u)]))]) (fun X => X = "java/lang/IllegalArgumentException" ∧ (kc < 0 ∨ nI n < kc)) A)) (by decide) (Nat.le_of_ble_eq_true rfl) ?_
  intro p e s m below meth c ls A E hB hK hZ hP hD hS hA hl hno
  have hX := hZ.1
  obtain ⟨hx, hb, hml, hr, hown, hts, hlocks, hin⟩ := id E
  have hl : lv_has ls 3 [(0, .ref h0), (1, .int kc)] := hl
  refine lv_iload_n hx hb d_Ship_cut_0 rfl (lv_at hl 1 rfl) ?_
  refine lv_if_lt (tgt := 15) hx hb d_Ship_cut_1 (by decide) (fun h1 => ?_) (fun h1 => ?_)
  · exact tw_throw (X := "java/lang/IllegalArgumentException") (names := ["java/lang/RuntimeException", "java/lang/Exception"]) (ia := 61) (ic := 63) E hfl hno (by decide +kernel) (by decide +kernel) (oa_IAE hts hX) (hts _ wd_1030) (hts _ wd_15) hl.1 (by decide) (by decide) (by decide) (by decide) (fun t hc ho hz hw => ⟨Or.inr ⟨_, ⟨rfl, by first | exact Or.inl h1 | exact Or.inr (Int32.not_le.mp h12)⟩, rfl, hc, ho⟩, hz, fun q h _ => ho q h⟩) d_Ship_cut_15 d_Ship_cut_18 d_Ship_cut_19 d_Ship_cut_22
  · refine lv_iload_n hx hb d_Ship_cut_4 rfl (lv_at hl 1 rfl) ?_
    refine lv_aload_n hx hb d_Ship_cut_5 rfl (lv_at hl 0 rfl) ?_
    refine va_get (D := g.1) (ci := 9) (v := .ref (q 0)) (C := R_Ship) (T := F_Ship) (N := 9) hx hb hts in_Ship hown hK hP 0 rfl rfl 0 (by decide) (hts _ wd_312) (fun _ h9 => h9) rfl d_Ship_cut_6 ?_
    refine va_getN (D := g.1) (ci := 2) (v := .int (nI n)) (C := R_Image) (T := F_Image) (N := 2) hx hb hts in_Image hown hK hP 1 rfl rfl 1 (by decide) (hts _ wd_44) (fun _ h9 => h9) rfl d_Ship_cut_9 ?_
    refine lv_icmp_le (tgt := 23) hx hb d_Ship_cut_12 (by decide) (fun h12 => ?_) (fun h12 => ?_)
    · obtain ⟨j, hj, hje⟩ := nI_of h1
      subst hje
      have hj := tn_le h12 (by omega) (by omega)
      refine lv_aload_n hx hb d_Ship_cut_23 rfl (lv_at hl 0 rfl) ?_
      refine va_get (D := g.1) (ci := 9) (v := .ref (q 0)) (C := R_Ship) (T := F_Ship) (N := 9) hx hb hts in_Ship hown hK hP 0 rfl rfl 0 (by decide) (hts _ wd_312) (fun _ h9 => h9) rfl d_Ship_cut_24 ?_
      refine va_getN (D := g.1) (ci := 2) (v := .int (nI n)) (C := R_Image) (T := F_Image) (N := 2) hx hb hts in_Image hown hK hP 1 rfl rfl 1 (by decide) (hts _ wd_44) (fun _ h9 => h9) rfl d_Ship_cut_27 ?_
      refine lv_iload_n hx hb d_Ship_cut_30 rfl (lv_at hl 1 rfl) ?_
      refine lv_isub hx hb d_Ship_cut_31 ?_
      refine tw_ri (e2 := nI (n - j)) (pk_sub hj) ?_
      refine lv_istore_n hx hb d_Ship_cut_32 rfl hl (by decide) rfl (fun ls hl => ?_)
      have hl : lv_has ls 3 [(2, .int (nI (n - j))), (0, .ref h0), (1, .int (nI j))] := hl
      refine lv_aload_n hx hb d_Ship_cut_33 rfl (lv_at hl 1 rfl) ?_
      refine va_get (D := g.1) (ci := 9) (v := .ref (q 0)) (C := R_Ship) (T := F_Ship) (N := 9) hx hb hts in_Ship hown hK hP 0 rfl rfl 0 (by decide) (hts _ wd_312) (fun _ h9 => h9) rfl d_Ship_cut_34 ?_
      refine lv_iload_n hx hb d_Ship_cut_37 rfl (lv_at hl 2 rfl) ?_
      refine va_putN (D := g.1) (ci := 2) (v := .int (nI j)) (ty := .int) (C := R_Image) (T := F_Image) (N := 2) hx hb hts in_Image t_Image t_Image_ok n_Image hown hK hP hD hS 1 rfl rfl 1 (by decide) (hts _ wd_44) (fun _ h9 => h9) rfl (t_Image_ok 1 (by decide)) rfl rfl (Nat.le_of_ble_eq_true rfl) d_Ship_cut_38 (fun H locs hP hD hS => ?_)
      have hP : va_P g.1 classes [(h0, .inr (9, [.ref (q 0), .ref (q 1), .ref (q 2), .ref (q 3), .ref (q 4), .ref (q 5), .ref (q 6), .ref (q 7), .int ig])), ((q 0), .inr (2, [.ref r, .int (nI j)]))] H := hP
      have hD : va_D A [(h0, .inr (9, [.ref (q 0), .ref (q 1), .ref (q 2), .ref (q 3), .ref (q 4), .ref (q 5), .ref (q 6), .ref (q 7), .int ig])), ((q 0), .inr (2, [.ref r, .int (nI j)]))] := hD
      refine lv_iload_n hx hb d_Ship_cut_41 rfl (lv_at hl 0 rfl) ?_
      refine W.widen (k := 1) (n := 6) (by decide) (by decide) ?_
      exact tw_iretX E rfl hS j (⟨rfl, hj, rfl⟩) hP hD d_Ship_cut_42
    · exact tw_throw (X := "java/lang/IllegalArgumentException") (names := ["java/lang/RuntimeException", "java/lang/Exception"]) (ia := 61) (ic := 63) E hfl hno (by decide +kernel) (by decide +kernel) (oa_IAE hts hX) (hts _ wd_1030) (hts _ wd_15) hl.1 (by decide) (by decide) (by decide) (by decide) (fun t hc ho hz hw => ⟨Or.inr ⟨_, ⟨rfl, by first | exact Or.inl h1 | exact Or.inr (Int32.not_le.mp h12)⟩, rfl, hc, ho⟩, hz, fun q h _ => ho q h⟩) d_Ship_cut_15 d_Ship_cut_18 d_Ship_cut_19 d_Ship_cut_22
set_option maxHeartbeats 4000000 in
set_option maxRecDepth 100000 in
theorem c_Ship_limit (l : Launch) (hfl : l.flags = flags0) (g : tw_G) (sz : Nat) (h0 p0 p1 p2 : Nat) (q : Nat → Nat) (ig mm mb wh k : Int32) : tw_Met l y_Ship_limit [.code y_Ship_limit b_Ship_limit 4 (some .int)] ({ frames := 6, cells := 1, slots := 6, locals := 81 }) (tw_P g [.ref h0, .int wh, .int k] [(h0, .inr (9, [.ref (q 0), .ref (q 1), .ref (q 2), .ref (q 3), .ref (q 4), .ref (q 5), .ref (q 6), .ref (q 7), .int ig])), ((q 2), .inr (6, [.ref p0, .ref p1, .ref p2, .int mm, .int mb]))] sz) (tw_QX g (fun r (u : Int32 × Int32) => ¬ k < 0 ∧ k ≤ 600 ∧ ((wh = 0 ∧ r = mm ∧ u = (k, mb)) ∨ (wh = 1 ∧ r = mb ∧ u = (mm, k)))) (fun u : Int32 × Int32 => [(h0, .inr (9, [.ref (q 0), .ref (q 1), .ref (q 2), .ref (q 3), .ref (q 4), .ref (q 5), .ref (q 6), .ref (q 7), .int ig])), ((q 2), .inr (6, [.ref p0, .ref p1, .ref p2, .int u.1, .int u.2]))]) (fun X => X = "java/lang/IllegalArgumentException" ∧ (wh < 0 ∨ 1 < wh ∨ k < 0 ∨ 600 < k)) (va_A [(h0, .inr (9, [.ref (q 0), .ref (q 1), .ref (q 2), .ref (q 3), .ref (q 4), .ref (q 5), .ref (q 6), .ref (q 7), .int ig])), ((q 2), .inr (6, [.ref p0, .ref p1, .ref p2, .int mm, .int mb]))] sz)) 1 6 (va_A [(h0, .inr (9, [.ref (q 0), .ref (q 1), .ref (q 2), .ref (q 3), .ref (q 4), .ref (q 5), .ref (q 6), .ref (q 7), .int ig])), ((q 2), .inr (6, [.ref p0, .ref p1, .ref p2, .int mm, .int mb]))] sz) := by
  refine tw_metX (l := l) (g := g) (y := y_Ship_limit) (cc := b_Ship_limit) (maxL := 4) (ret := (some .int)) (rm := { frames := 6, cells := 1, slots := 6, locals := 81 }) (mc := 1) (ms := 6) (av := [.ref h0, .int wh, .int k]) (ws := [(h0, .inr (9, [.ref (q 0), .ref (q 1), .ref (q 2), .ref (q 3), .ref (q 4), .ref (q 5), .ref (q 6), .ref (q 7), .int ig])), ((q 2), .inr (6, [.ref p0, .ref p1, .ref p2, .int mm, .int mb]))]) (sz := sz) (Qc := fun A => (tw_QX g (fun r (u : Int32 × Int32) => ¬ k < 0 ∧ k ≤ 600 ∧ ((wh = 0 ∧ r = mm ∧ u = (k, mb)) ∨ (wh = 1 ∧ r = mb ∧ u = (mm, k)))) (fun u : Int32 × Int32 => [(h0, .inr (9, [.ref (q 0), .ref (q 1), .ref (q 2), .ref (q 3), .ref (q 4), .ref (q 5), .ref (q 6), .ref (q 7), .int ig])), ((q 2), .inr (6, [.ref p0, .ref p1, .ref p2, .int u.1, .int u.2]))]) (fun X => X = "java/lang/IllegalArgumentException" ∧ (wh < 0 ∨ 1 < wh ∨ k < 0 ∨ 600 < k)) A)) (by decide) (Nat.le_of_ble_eq_true rfl) ?_
  intro p e s m below meth c ls A E hB hK hZ hP hD hS hA hl hno
  have hX := hZ.1
  obtain ⟨hx, hb, hml, hr, hown, hts, hlocks, hin⟩ := id E
  have hl : lv_has ls 4 [(0, .ref h0), (1, .int wh), (2, .int k)] := hl
  refine lv_iload_n hx hb d_Ship_limit_0 rfl (lv_at hl 1 rfl) ?_
  refine lv_if_lt (tgt := 20) hx hb d_Ship_limit_1 (by decide) (fun h1 => ?_) (fun h1 => ?_)
  · exact tw_throw (X := "java/lang/IllegalArgumentException") (names := ["java/lang/RuntimeException", "java/lang/Exception"]) (ia := 61) (ic := 63) E hfl hno (by decide +kernel) (by decide +kernel) (oa_IAE hts hX) (hts _ wd_1030) (hts _ wd_15) hl.1 (by decide) (by decide) (by decide) (by decide) (fun t hc ho hz hw => ⟨Or.inr ⟨_, ⟨rfl, by first | exact Or.inl h1 | exact Or.inr (Or.inl h6) | exact Or.inr (Or.inr (Or.inl h10)) | exact Or.inr (Or.inr (Or.inr (Int32.not_le.mp h17)))⟩, rfl, hc, ho⟩, hz, fun q h _ => ho q h⟩) d_Ship_limit_20 d_Ship_limit_23 d_Ship_limit_24 d_Ship_limit_27
  · refine lv_iload_n hx hb d_Ship_limit_4 rfl (lv_at hl 1 rfl) ?_
    refine lv_iconst (v := 1) hx hb d_Ship_limit_5 (by decide) ?_
    refine lv_icmp_gt (tgt := 20) hx hb d_Ship_limit_6 (by decide) (fun h6 => ?_) (fun h6 => ?_)
    · exact tw_throw (X := "java/lang/IllegalArgumentException") (names := ["java/lang/RuntimeException", "java/lang/Exception"]) (ia := 61) (ic := 63) E hfl hno (by decide +kernel) (by decide +kernel) (oa_IAE hts hX) (hts _ wd_1030) (hts _ wd_15) hl.1 (by decide) (by decide) (by decide) (by decide) (fun t hc ho hz hw => ⟨Or.inr ⟨_, ⟨rfl, by first | exact Or.inl h1 | exact Or.inr (Or.inl h6) | exact Or.inr (Or.inr (Or.inl h10)) | exact Or.inr (Or.inr (Or.inr (Int32.not_le.mp h17)))⟩, rfl, hc, ho⟩, hz, fun q h _ => ho q h⟩) d_Ship_limit_20 d_Ship_limit_23 d_Ship_limit_24 d_Ship_limit_27
    · refine lv_iload_n hx hb d_Ship_limit_9 rfl (lv_at hl 2 rfl) ?_
      refine lv_if_lt (tgt := 20) hx hb d_Ship_limit_10 (by decide) (fun h10 => ?_) (fun h10 => ?_)
      · exact tw_throw (X := "java/lang/IllegalArgumentException") (names := ["java/lang/RuntimeException", "java/lang/Exception"]) (ia := 61) (ic := 63) E hfl hno (by decide +kernel) (by decide +kernel) (oa_IAE hts hX) (hts _ wd_1030) (hts _ wd_15) hl.1 (by decide) (by decide) (by decide) (by decide) (fun t hc ho hz hw => ⟨Or.inr ⟨_, ⟨rfl, by first | exact Or.inl h1 | exact Or.inr (Or.inl h6) | exact Or.inr (Or.inr (Or.inl h10)) | exact Or.inr (Or.inr (Or.inr (Int32.not_le.mp h17)))⟩, rfl, hc, ho⟩, hz, fun q h _ => ho q h⟩) d_Ship_limit_20 d_Ship_limit_23 d_Ship_limit_24 d_Ship_limit_27
      · refine lv_iload_n hx hb d_Ship_limit_13 rfl (lv_at hl 2 rfl) ?_
        refine lv_sipush (v := 600) hx hb d_Ship_limit_14 (by decide) ?_
        refine lv_icmp_le (tgt := 28) hx hb d_Ship_limit_17 (by decide) (fun h17 => ?_) (fun h17 => ?_)
        · refine lv_iload_n hx hb d_Ship_limit_28 rfl (lv_at hl 1 rfl) ?_
          refine lv_if_ne (tgt := 42) hx hb d_Ship_limit_29 (by decide) (fun h29 => ?_) (fun h29 => ?_)
          · refine lv_aload_n hx hb d_Ship_limit_42 rfl (lv_at hl 0 rfl) ?_
            refine va_get (D := g.1) (ci := 9) (v := .ref (q 2)) (C := R_Ship) (T := F_Ship) (N := 9) hx hb hts in_Ship hown hK hP 0 rfl rfl 2 (by decide) (hts _ wd_314) (fun _ h9 => h9) rfl d_Ship_limit_43 ?_
            refine va_getN (D := g.1) (ci := 6) (v := .int mb) (C := R_Policy) (T := F_Policy) (N := 5) hx hb hts in_Policy hown hK hP 1 rfl rfl 4 (by decide) (hts _ wd_82) (fun _ h9 => h9) rfl d_Ship_limit_46 ?_
            refine lv_istore_n hx hb d_Ship_limit_49 rfl hl (by decide) rfl (fun ls hl => ?_)
            have hl : lv_has ls 4 [(3, .int mb), (0, .ref h0), (1, .int wh), (2, .int k)] := hl
            refine lv_iload_n hx hb d_Ship_limit_50 rfl (lv_at hl 2 rfl) ?_
            refine lv_if_ne (tgt := 65) hx hb d_Ship_limit_51 (by decide) (fun h51 => ?_) (fun h51 => ?_)
            · refine lv_aload_n hx hb d_Ship_limit_65 rfl (lv_at hl 1 rfl) ?_
              refine va_get (D := g.1) (ci := 9) (v := .ref (q 2)) (C := R_Ship) (T := F_Ship) (N := 9) hx hb hts in_Ship hown hK hP 0 rfl rfl 2 (by decide) (hts _ wd_314) (fun _ h9 => h9) rfl d_Ship_limit_66 ?_
              refine lv_iload_n hx hb d_Ship_limit_69 rfl (lv_at hl 3 rfl) ?_
              refine va_putN (D := g.1) (ci := 6) (v := .int k) (ty := .int) (C := R_Policy) (T := F_Policy) (N := 5) hx hb hts in_Policy t_Policy t_Policy_ok n_Policy hown hK hP hD hS 1 rfl rfl 4 (by decide) (hts _ wd_82) (fun _ h9 => h9) rfl (t_Policy_ok 4 (by decide)) rfl rfl (Nat.le_of_ble_eq_true rfl) d_Ship_limit_70 (fun H locs hP hD hS => ?_)
              have hP : va_P g.1 classes [(h0, .inr (9, [.ref (q 0), .ref (q 1), .ref (q 2), .ref (q 3), .ref (q 4), .ref (q 5), .ref (q 6), .ref (q 7), .int ig])), ((q 2), .inr (6, [.ref p0, .ref p1, .ref p2, .int mm, .int k]))] H := hP
              have hD : va_D A [(h0, .inr (9, [.ref (q 0), .ref (q 1), .ref (q 2), .ref (q 3), .ref (q 4), .ref (q 5), .ref (q 6), .ref (q 7), .int ig])), ((q 2), .inr (6, [.ref p0, .ref p1, .ref p2, .int mm, .int k]))] := hD
              refine lv_iload_n hx hb d_Ship_limit_73 rfl (lv_at hl 0 rfl) ?_
              refine W.widen (k := 1) (n := 6) (by decide) (by decide) ?_
              exact tw_iretX E rfl hS (mm, k) (⟨h10, h17, Or.inr ⟨tn_1 h1 h6 h29, rfl, rfl⟩⟩) hP hD d_Ship_limit_74
            · exact absurd h51 h29
          · refine lv_aload_n hx hb d_Ship_limit_32 rfl (lv_at hl 0 rfl) ?_
            refine va_get (D := g.1) (ci := 9) (v := .ref (q 2)) (C := R_Ship) (T := F_Ship) (N := 9) hx hb hts in_Ship hown hK hP 0 rfl rfl 2 (by decide) (hts _ wd_314) (fun _ h9 => h9) rfl d_Ship_limit_33 ?_
            refine va_getN (D := g.1) (ci := 6) (v := .int mm) (C := R_Policy) (T := F_Policy) (N := 5) hx hb hts in_Policy hown hK hP 1 rfl rfl 3 (by decide) (hts _ wd_80) (fun _ h9 => h9) rfl d_Ship_limit_36 ?_
            refine lv_goto (tgt := 49) hx hb d_Ship_limit_39 (by decide) ?_
            refine lv_istore_n hx hb d_Ship_limit_49 rfl hl (by decide) rfl (fun ls hl => ?_)
            have hl : lv_has ls 4 [(3, .int mm), (0, .ref h0), (1, .int wh), (2, .int k)] := hl
            refine lv_iload_n hx hb d_Ship_limit_50 rfl (lv_at hl 2 rfl) ?_
            refine lv_if_ne (tgt := 65) hx hb d_Ship_limit_51 (by decide) (fun h51 => ?_) (fun h51 => ?_)
            · exact absurd h29 h51
            · refine lv_aload_n hx hb d_Ship_limit_54 rfl (lv_at hl 1 rfl) ?_
              refine va_get (D := g.1) (ci := 9) (v := .ref (q 2)) (C := R_Ship) (T := F_Ship) (N := 9) hx hb hts in_Ship hown hK hP 0 rfl rfl 2 (by decide) (hts _ wd_314) (fun _ h9 => h9) rfl d_Ship_limit_55 ?_
              refine lv_iload_n hx hb d_Ship_limit_58 rfl (lv_at hl 3 rfl) ?_
              refine va_putN (D := g.1) (ci := 6) (v := .int k) (ty := .int) (C := R_Policy) (T := F_Policy) (N := 5) hx hb hts in_Policy t_Policy t_Policy_ok n_Policy hown hK hP hD hS 1 rfl rfl 3 (by decide) (hts _ wd_80) (fun _ h9 => h9) rfl (t_Policy_ok 3 (by decide)) rfl rfl (Nat.le_of_ble_eq_true rfl) d_Ship_limit_59 (fun H locs hP hD hS => ?_)
              have hP : va_P g.1 classes [(h0, .inr (9, [.ref (q 0), .ref (q 1), .ref (q 2), .ref (q 3), .ref (q 4), .ref (q 5), .ref (q 6), .ref (q 7), .int ig])), ((q 2), .inr (6, [.ref p0, .ref p1, .ref p2, .int k, .int mb]))] H := hP
              have hD : va_D A [(h0, .inr (9, [.ref (q 0), .ref (q 1), .ref (q 2), .ref (q 3), .ref (q 4), .ref (q 5), .ref (q 6), .ref (q 7), .int ig])), ((q 2), .inr (6, [.ref p0, .ref p1, .ref p2, .int k, .int mb]))] := hD
              refine lv_goto (tgt := 73) hx hb d_Ship_limit_62 (by decide) ?_
              refine lv_iload_n hx hb d_Ship_limit_73 rfl (lv_at hl 0 rfl) ?_
              refine W.widen (k := 1) (n := 6) (by decide) (by decide) ?_
              exact tw_iretX E rfl hS (k, mb) (⟨h10, h17, Or.inl ⟨h29, rfl, rfl⟩⟩) hP hD d_Ship_limit_74
        · exact tw_throw (X := "java/lang/IllegalArgumentException") (names := ["java/lang/RuntimeException", "java/lang/Exception"]) (ia := 61) (ic := 63) E hfl hno (by decide +kernel) (by decide +kernel) (oa_IAE hts hX) (hts _ wd_1030) (hts _ wd_15) hl.1 (by decide) (by decide) (by decide) (by decide) (fun t hc ho hz hw => ⟨Or.inr ⟨_, ⟨rfl, by first | exact Or.inl h1 | exact Or.inr (Or.inl h6) | exact Or.inr (Or.inr (Or.inl h10)) | exact Or.inr (Or.inr (Or.inr (Int32.not_le.mp h17)))⟩, rfl, hc, ho⟩, hz, fun q h _ => ho q h⟩) d_Ship_limit_20 d_Ship_limit_23 d_Ship_limit_24 d_Ship_limit_27
set_option maxHeartbeats 4000000 in
set_option maxRecDepth 100000 in
theorem c_Ship_place (l : Launch) (g : tw_G) (sz : Nat) (h0 : Nat) (q : Nat → Nat) (ig fa at1 : Int32) : Met l y_Ship_place [.code y_Ship_place b_Ship_place 1 (some .int)] ({ frames := 0, cells := 0, slots := 0, locals := 0 }) (tw_P g [.ref h0] [(h0, .inr (9, [.ref (q 0), .ref (q 1), .ref (q 2), .ref (q 3), .ref (q 4), .ref (q 5), .ref (q 6), .ref (q 7), .int ig])), ((q 1), .inr (0, [.int fa, .int at1]))] sz) (vp_Si (fun r => r = at1)) 0 0 (fun _ => False) := by
  refine tw_met (l := l) (g := g) (y := y_Ship_place) (cc := b_Ship_place) (maxL := 1) (ret := (some .int)) (rm := { frames := 0, cells := 0, slots := 0, locals := 0 }) (mc := 0) (ms := 0) (av := [.ref h0]) (ws := [(h0, .inr (9, [.ref (q 0), .ref (q 1), .ref (q 2), .ref (q 3), .ref (q 4), .ref (q 5), .ref (q 6), .ref (q 7), .int ig])), ((q 1), .inr (0, [.int fa, .int at1]))]) (sz := sz) (Qc := fun _ => (vp_Si (fun r => r = at1))) (free := fun _ _ => False) (by decide) (Nat.le_of_ble_eq_true rfl) ?_
  intro p e s m below meth c ls A E hB hK hZ hP hD hS hA hl
  obtain ⟨hx, hb, hml, hr, hown, hts, hlocks, hin⟩ := id E
  have hl : lv_has ls 1 [(0, .ref h0)] := hl
  refine lv_aload_n hx hb d_Ship_place_0 rfl (lv_at hl 0 rfl) ?_
  refine va_get (D := g.1) (ci := 9) (v := .ref (q 1)) (C := R_Ship) (T := F_Ship) (N := 9) hx hb hts in_Ship hown hK hP 0 rfl rfl 1 (by decide) (hts _ wd_313) (fun _ h9 => h9) rfl d_Ship_place_1 ?_
  refine va_getN (D := g.1) (ci := 0) (v := .int at1) (C := R_Finding) (T := F_Finding) (N := 2) hx hb hts in_Finding hown hK hP 1 rfl rfl 1 (by decide) (hts _ wd_63) (fun _ h9 => h9) rfl d_Ship_place_4 ?_
  exact tw_isret E rfl d_Ship_place_7
set_option maxHeartbeats 4000000 in
set_option maxRecDepth 100000 in
theorem c_Ship_rule0 (l : Launch) (hfl : l.flags = flags0) (g : tw_G) (sz : Nat) (h0 r : Nat) (q : Nat → Nat) (ig al k : Int32) : tw_Met l y_Ship_rule [.code y_Ship_rule b_Ship_rule 4 (some .int)] ({ frames := 6, cells := 1, slots := 6, locals := 81 }) (tw_P g [.ref h0, .int al, .int k] [(h0, .inr (9, [.ref (q 0), .ref (q 1), .ref (q 2), .ref (q 3), .ref (q 4), .ref (q 5), .ref (q 6), .ref (q 7), .int ig])), ((q 0), .inr (2, [.ref r, .int 0]))] sz) (tw_QX g (fun _ _ => False) (fun u : Unit => []) (fun X => X = "java/lang/IllegalArgumentException") (va_A [(h0, .inr (9, [.ref (q 0), .ref (q 1), .ref (q 2), .ref (q 3), .ref (q 4), .ref (q 5), .ref (q 6), .ref (q 7), .int ig])), ((q 0), .inr (2, [.ref r, .int 0]))] sz)) 1 6 (va_A [(h0, .inr (9, [.ref (q 0), .ref (q 1), .ref (q 2), .ref (q 3), .ref (q 4), .ref (q 5), .ref (q 6), .ref (q 7), .int ig])), ((q 0), .inr (2, [.ref r, .int 0]))] sz) := by
  refine tw_metX (l := l) (g := g) (y := y_Ship_rule) (cc := b_Ship_rule) (maxL := 4) (ret := (some .int)) (rm := { frames := 6, cells := 1, slots := 6, locals := 81 }) (mc := 1) (ms := 6) (av := [.ref h0, .int al, .int k]) (ws := [(h0, .inr (9, [.ref (q 0), .ref (q 1), .ref (q 2), .ref (q 3), .ref (q 4), .ref (q 5), .ref (q 6), .ref (q 7), .int ig])), ((q 0), .inr (2, [.ref r, .int 0]))]) (sz := sz) (Qc := fun A => (tw_QX g (fun _ _ => False) (fun u : Unit => []) (fun X => X = "java/lang/IllegalArgumentException") A)) (by decide) (Nat.le_of_ble_eq_true rfl) ?_
  intro p e s m below meth c ls A E hB hK hZ hP hD hS hA hl hno
  have hX := hZ.1
  obtain ⟨hx, hb, hml, hr, hown, hts, hlocks, hin⟩ := id E
  have hl : lv_has ls 4 [(0, .ref h0), (1, .int al), (2, .int k)] := hl
  refine lv_iload_n hx hb d_Ship_rule_0 rfl (lv_at hl 2 rfl) ?_
  refine lv_iconst (v := 1) hx hb d_Ship_rule_1 (by decide) ?_
  refine lv_icmp_lt (tgt := 41) hx hb d_Ship_rule_2 (by decide) (fun h2 => ?_) (fun h2 => ?_)
  · exact tw_throw (X := "java/lang/IllegalArgumentException") (names := ["java/lang/RuntimeException", "java/lang/Exception"]) (ia := 61) (ic := 63) E hfl hno (by decide +kernel) (by decide +kernel) (oa_IAE hts hX) (hts _ wd_1030) (hts _ wd_15) hl.1 (by decide) (by decide) (by decide) (by decide) (fun t hc ho hz hw => ⟨Or.inr ⟨_, rfl, rfl, hc, ho⟩, hz, fun q h _ => ho q h⟩) d_Ship_rule_41 d_Ship_rule_44 d_Ship_rule_45 d_Ship_rule_48
  · refine lv_iload_n hx hb d_Ship_rule_5 rfl (lv_at hl 2 rfl) ?_
    refine lv_bipush (v := 40) hx hb d_Ship_rule_6 (by decide) ?_
    refine lv_icmp_gt (tgt := 41) hx hb d_Ship_rule_8 (by decide) (fun h8 => ?_) (fun h8 => ?_)
    · exact tw_throw (X := "java/lang/IllegalArgumentException") (names := ["java/lang/RuntimeException", "java/lang/Exception"]) (ia := 61) (ic := 63) E hfl hno (by decide +kernel) (by decide +kernel) (oa_IAE hts hX) (hts _ wd_1030) (hts _ wd_15) hl.1 (by decide) (by decide) (by decide) (by decide) (fun t hc ho hz hw => ⟨Or.inr ⟨_, rfl, rfl, hc, ho⟩, hz, fun q h _ => ho q h⟩) d_Ship_rule_41 d_Ship_rule_44 d_Ship_rule_45 d_Ship_rule_48
    · refine lv_iload_n hx hb d_Ship_rule_11 rfl (lv_at hl 2 rfl) ?_
      refine lv_aload_n hx hb d_Ship_rule_12 rfl (lv_at hl 0 rfl) ?_
      refine va_get (D := g.1) (ci := 9) (v := .ref (q 0)) (C := R_Ship) (T := F_Ship) (N := 9) hx hb hts in_Ship hown hK hP 0 rfl rfl 0 (by decide) (hts _ wd_312) (fun _ h9 => h9) rfl d_Ship_rule_13 ?_
      refine va_getN (D := g.1) (ci := 2) (v := .int 0) (C := R_Image) (T := F_Image) (N := 2) hx hb hts in_Image hown hK hP 1 rfl rfl 1 (by decide) (hts _ wd_44) (fun _ h9 => h9) rfl d_Ship_rule_16 ?_
      refine lv_icmp_gt (tgt := 41) hx hb d_Ship_rule_19 (by decide) (fun h19 => ?_) (fun h19 => ?_)
      · exact tw_throw (X := "java/lang/IllegalArgumentException") (names := ["java/lang/RuntimeException", "java/lang/Exception"]) (ia := 61) (ic := 63) E hfl hno (by decide +kernel) (by decide +kernel) (oa_IAE hts hX) (hts _ wd_1030) (hts _ wd_15) hl.1 (by decide) (by decide) (by decide) (by decide) (fun t hc ho hz hw => ⟨Or.inr ⟨_, rfl, rfl, hc, ho⟩, hz, fun q h _ => ho q h⟩) d_Ship_rule_41 d_Ship_rule_44 d_Ship_rule_45 d_Ship_rule_48
      · exact (tn_01 h2 h19).elim
set_option maxHeartbeats 4000000 in
set_option maxRecDepth 100000 in
theorem c_Ship_count0 (l : Launch) (hfl : l.flags = flags0) (g : tw_G) (sz : Nat) (h0 : Nat) (q : Nat → Nat) (a0 : Int32) : tw_Met l y_Ship_count [.code y_Ship_count b_Ship_count 2 (some .int)] ({ frames := 6, cells := 1, slots := 6, locals := 81 }) (tw_P g [.ref h0, .int a0] [(h0, .inr (9, [.ref (q 0), .ref (q 1), .ref (q 2), .ref (q 3), .ref (q 4), .ref (q 5), .ref (q 6), .ref (q 7), .int 0]))] sz) (tw_QX g (fun _ _ => False) (fun u : Unit => []) (fun X => X = "java/lang/IllegalStateException") (va_A [(h0, .inr (9, [.ref (q 0), .ref (q 1), .ref (q 2), .ref (q 3), .ref (q 4), .ref (q 5), .ref (q 6), .ref (q 7), .int 0]))] sz)) 1 6 (va_A [(h0, .inr (9, [.ref (q 0), .ref (q 1), .ref (q 2), .ref (q 3), .ref (q 4), .ref (q 5), .ref (q 6), .ref (q 7), .int 0]))] sz) := by
  refine tw_metX (l := l) (g := g) (y := y_Ship_count) (cc := b_Ship_count) (maxL := 2) (ret := (some .int)) (rm := { frames := 6, cells := 1, slots := 6, locals := 81 }) (mc := 1) (ms := 6) (av := [.ref h0, .int a0]) (ws := [(h0, .inr (9, [.ref (q 0), .ref (q 1), .ref (q 2), .ref (q 3), .ref (q 4), .ref (q 5), .ref (q 6), .ref (q 7), .int 0]))]) (sz := sz) (Qc := fun A => (tw_QX g (fun _ _ => False) (fun u : Unit => []) (fun X => X = "java/lang/IllegalStateException") A)) (by decide) (Nat.le_of_ble_eq_true rfl) ?_
  intro p e s m below meth c ls A E hB hK hZ hP hD hS hA hl hno
  have hX := hZ.1
  obtain ⟨hx, hb, hml, hr, hown, hts, hlocks, hin⟩ := id E
  have hl : lv_has ls 2 [(0, .ref h0), (1, .int a0)] := hl
  refine lv_aload_n hx hb d_Ship_count_0 rfl (lv_at hl 0 rfl) ?_
  refine va_get (D := g.1) (ci := 9) (v := .int 0) (C := R_Ship) (T := F_Ship) (N := 9) hx hb hts in_Ship hown hK hP 0 rfl rfl 8 (by decide) (hts _ wd_320) (fun _ h9 => h9) rfl d_Ship_count_1 ?_
  refine lv_if_ne (tgt := 15) hx hb d_Ship_count_4 (by decide) (fun h4 => ?_) (fun h4 => ?_)
  · exact absurd rfl h4
  · exact tw_throw (X := "java/lang/IllegalStateException") (names := ["java/lang/RuntimeException", "java/lang/Exception"]) (ia := 68) (ic := 70) E hfl hno (by decide +kernel) (by decide +kernel) (oa_ISE hts hX) (hts _ wd_1093) (hts _ wd_16) hl.1 (by decide) (by decide) (by decide) (by decide) (fun t hc ho hz hw => ⟨Or.inr ⟨_, rfl, rfl, hc, ho⟩, hz, fun q h _ => ho q h⟩) d_Ship_count_7 d_Ship_count_10 d_Ship_count_11 d_Ship_count_14
set_option maxHeartbeats 4000000 in
set_option maxRecDepth 100000 in
theorem c_Ship_text0 (l : Launch) (hfl : l.flags = flags0) (g : tw_G) (sz : Nat) (h0 : Nat) (q : Nat → Nat) (a0 : Int32) (a1 : Int32) (a2 : Int32) : tw_Met l y_Ship_text [.code y_Ship_text b_Ship_text 4 (some .char)] ({ frames := 6, cells := 1, slots := 6, locals := 81 }) (tw_P g [.ref h0, .int a0, .int a1, .int a2] [(h0, .inr (9, [.ref (q 0), .ref (q 1), .ref (q 2), .ref (q 3), .ref (q 4), .ref (q 5), .ref (q 6), .ref (q 7), .int 0]))] sz) (tw_QX g (fun _ _ => False) (fun u : Unit => []) (fun X => X = "java/lang/IllegalStateException") (va_A [(h0, .inr (9, [.ref (q 0), .ref (q 1), .ref (q 2), .ref (q 3), .ref (q 4), .ref (q 5), .ref (q 6), .ref (q 7), .int 0]))] sz)) 1 6 (va_A [(h0, .inr (9, [.ref (q 0), .ref (q 1), .ref (q 2), .ref (q 3), .ref (q 4), .ref (q 5), .ref (q 6), .ref (q 7), .int 0]))] sz) := by
  refine tw_metX (l := l) (g := g) (y := y_Ship_text) (cc := b_Ship_text) (maxL := 4) (ret := (some .char)) (rm := { frames := 6, cells := 1, slots := 6, locals := 81 }) (mc := 1) (ms := 6) (av := [.ref h0, .int a0, .int a1, .int a2]) (ws := [(h0, .inr (9, [.ref (q 0), .ref (q 1), .ref (q 2), .ref (q 3), .ref (q 4), .ref (q 5), .ref (q 6), .ref (q 7), .int 0]))]) (sz := sz) (Qc := fun A => (tw_QX g (fun _ _ => False) (fun u : Unit => []) (fun X => X = "java/lang/IllegalStateException") A)) (by decide) (Nat.le_of_ble_eq_true rfl) ?_
  intro p e s m below meth c ls A E hB hK hZ hP hD hS hA hl hno
  have hX := hZ.1
  obtain ⟨hx, hb, hml, hr, hown, hts, hlocks, hin⟩ := id E
  have hl : lv_has ls 4 [(0, .ref h0), (1, .int a0), (2, .int a1), (3, .int a2)] := hl
  refine lv_aload_n hx hb d_Ship_text_0 rfl (lv_at hl 0 rfl) ?_
  refine va_get (D := g.1) (ci := 9) (v := .int 0) (C := R_Ship) (T := F_Ship) (N := 9) hx hb hts in_Ship hown hK hP 0 rfl rfl 8 (by decide) (hts _ wd_320) (fun _ h9 => h9) rfl d_Ship_text_1 ?_
  refine lv_if_ne (tgt := 15) hx hb d_Ship_text_4 (by decide) (fun h4 => ?_) (fun h4 => ?_)
  · exact absurd rfl h4
  · exact tw_throw (X := "java/lang/IllegalStateException") (names := ["java/lang/RuntimeException", "java/lang/Exception"]) (ia := 68) (ic := 70) E hfl hno (by decide +kernel) (by decide +kernel) (oa_ISE hts hX) (hts _ wd_1093) (hts _ wd_16) hl.1 (by decide) (by decide) (by decide) (by decide) (fun t hc ho hz hw => ⟨Or.inr ⟨_, rfl, rfl, hc, ho⟩, hz, fun q h _ => ho q h⟩) d_Ship_text_7 d_Ship_text_10 d_Ship_text_11 d_Ship_text_14
set_option maxHeartbeats 4000000 in
set_option maxRecDepth 100000 in
theorem c_Ship_depth0 (l : Launch) (hfl : l.flags = flags0) (g : tw_G) (sz : Nat) (h0 : Nat) (q : Nat → Nat) (a0 : Int32) (a1 : Int32) : tw_Met l y_Ship_depth [.code y_Ship_depth b_Ship_depth 3 (some .int)] ({ frames := 6, cells := 1, slots := 6, locals := 81 }) (tw_P g [.ref h0, .int a0, .int a1] [(h0, .inr (9, [.ref (q 0), .ref (q 1), .ref (q 2), .ref (q 3), .ref (q 4), .ref (q 5), .ref (q 6), .ref (q 7), .int 0]))] sz) (tw_QX g (fun _ _ => False) (fun u : Unit => []) (fun X => X = "java/lang/IllegalStateException") (va_A [(h0, .inr (9, [.ref (q 0), .ref (q 1), .ref (q 2), .ref (q 3), .ref (q 4), .ref (q 5), .ref (q 6), .ref (q 7), .int 0]))] sz)) 1 6 (va_A [(h0, .inr (9, [.ref (q 0), .ref (q 1), .ref (q 2), .ref (q 3), .ref (q 4), .ref (q 5), .ref (q 6), .ref (q 7), .int 0]))] sz) := by
  refine tw_metX (l := l) (g := g) (y := y_Ship_depth) (cc := b_Ship_depth) (maxL := 3) (ret := (some .int)) (rm := { frames := 6, cells := 1, slots := 6, locals := 81 }) (mc := 1) (ms := 6) (av := [.ref h0, .int a0, .int a1]) (ws := [(h0, .inr (9, [.ref (q 0), .ref (q 1), .ref (q 2), .ref (q 3), .ref (q 4), .ref (q 5), .ref (q 6), .ref (q 7), .int 0]))]) (sz := sz) (Qc := fun A => (tw_QX g (fun _ _ => False) (fun u : Unit => []) (fun X => X = "java/lang/IllegalStateException") A)) (by decide) (Nat.le_of_ble_eq_true rfl) ?_
  intro p e s m below meth c ls A E hB hK hZ hP hD hS hA hl hno
  have hX := hZ.1
  obtain ⟨hx, hb, hml, hr, hown, hts, hlocks, hin⟩ := id E
  have hl : lv_has ls 3 [(0, .ref h0), (1, .int a0), (2, .int a1)] := hl
  refine lv_aload_n hx hb d_Ship_depth_0 rfl (lv_at hl 0 rfl) ?_
  refine va_get (D := g.1) (ci := 9) (v := .int 0) (C := R_Ship) (T := F_Ship) (N := 9) hx hb hts in_Ship hown hK hP 0 rfl rfl 8 (by decide) (hts _ wd_320) (fun _ h9 => h9) rfl d_Ship_depth_1 ?_
  refine lv_if_ne (tgt := 15) hx hb d_Ship_depth_4 (by decide) (fun h4 => ?_) (fun h4 => ?_)
  · exact absurd rfl h4
  · exact tw_throw (X := "java/lang/IllegalStateException") (names := ["java/lang/RuntimeException", "java/lang/Exception"]) (ia := 68) (ic := 70) E hfl hno (by decide +kernel) (by decide +kernel) (oa_ISE hts hX) (hts _ wd_1093) (hts _ wd_16) hl.1 (by decide) (by decide) (by decide) (by decide) (fun t hc ho hz hw => ⟨Or.inr ⟨_, rfl, rfl, hc, ho⟩, hz, fun q h _ => ho q h⟩) d_Ship_depth_7 d_Ship_depth_10 d_Ship_depth_11 d_Ship_depth_14
set_option maxHeartbeats 4000000 in
set_option maxRecDepth 100000 in
theorem c_Ship_kind0 (l : Launch) (hfl : l.flags = flags0) (g : tw_G) (sz : Nat) (h0 : Nat) (q : Nat → Nat) (a0 : Int32) (a1 : Int32) (a2 : Int32) (a3 : Int32) : tw_Met l y_Ship_kind [.code y_Ship_kind b_Ship_kind 8 (some .int)] ({ frames := 6, cells := 1, slots := 6, locals := 81 }) (tw_P g [.ref h0, .int a0, .int a1, .int a2, .int a3] [(h0, .inr (9, [.ref (q 0), .ref (q 1), .ref (q 2), .ref (q 3), .ref (q 4), .ref (q 5), .ref (q 6), .ref (q 7), .int 0]))] sz) (tw_QX g (fun _ _ => False) (fun u : Unit => []) (fun X => X = "java/lang/IllegalStateException") (va_A [(h0, .inr (9, [.ref (q 0), .ref (q 1), .ref (q 2), .ref (q 3), .ref (q 4), .ref (q 5), .ref (q 6), .ref (q 7), .int 0]))] sz)) 1 6 (va_A [(h0, .inr (9, [.ref (q 0), .ref (q 1), .ref (q 2), .ref (q 3), .ref (q 4), .ref (q 5), .ref (q 6), .ref (q 7), .int 0]))] sz) := by
  refine tw_metX (l := l) (g := g) (y := y_Ship_kind) (cc := b_Ship_kind) (maxL := 8) (ret := (some .int)) (rm := { frames := 6, cells := 1, slots := 6, locals := 81 }) (mc := 1) (ms := 6) (av := [.ref h0, .int a0, .int a1, .int a2, .int a3]) (ws := [(h0, .inr (9, [.ref (q 0), .ref (q 1), .ref (q 2), .ref (q 3), .ref (q 4), .ref (q 5), .ref (q 6), .ref (q 7), .int 0]))]) (sz := sz) (Qc := fun A => (tw_QX g (fun _ _ => False) (fun u : Unit => []) (fun X => X = "java/lang/IllegalStateException") A)) (by decide) (Nat.le_of_ble_eq_true rfl) ?_
  intro p e s m below meth c ls A E hB hK hZ hP hD hS hA hl hno
  have hX := hZ.1
  obtain ⟨hx, hb, hml, hr, hown, hts, hlocks, hin⟩ := id E
  have hl : lv_has ls 8 [(0, .ref h0), (1, .int a0), (2, .int a1), (3, .int a2), (4, .int a3)] := hl
  refine lv_aload_n hx hb d_Ship_kind_0 rfl (lv_at hl 0 rfl) ?_
  refine va_get (D := g.1) (ci := 9) (v := .int 0) (C := R_Ship) (T := F_Ship) (N := 9) hx hb hts in_Ship hown hK hP 0 rfl rfl 8 (by decide) (hts _ wd_320) (fun _ h9 => h9) rfl d_Ship_kind_1 ?_
  refine lv_if_ne (tgt := 15) hx hb d_Ship_kind_4 (by decide) (fun h4 => ?_) (fun h4 => ?_)
  · exact absurd rfl h4
  · exact tw_throw (X := "java/lang/IllegalStateException") (names := ["java/lang/RuntimeException", "java/lang/Exception"]) (ia := 68) (ic := 70) E hfl hno (by decide +kernel) (by decide +kernel) (oa_ISE hts hX) (hts _ wd_1093) (hts _ wd_16) hl.1 (by decide) (by decide) (by decide) (by decide) (fun t hc ho hz hw => ⟨Or.inr ⟨_, rfl, rfl, hc, ho⟩, hz, fun q h _ => ho q h⟩) d_Ship_kind_7 d_Ship_kind_10 d_Ship_kind_11 d_Ship_kind_14
