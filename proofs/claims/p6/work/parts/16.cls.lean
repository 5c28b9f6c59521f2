section
set_option maxHeartbeats 4000000 in
set_option maxRecDepth 100000 in
theorem c_Image_add (l : Launch) (g : tw_G) (sz : Nat) (h0 r n : Nat) (f : Nat → Int32) (v : Int32) (hn : n < 600) : Met l y_Image_add [.code y_Image_add b_Image_add 2 none] ({ frames := 0, cells := 0, slots := 0, locals := 0 }) (tw_P g [.ref h0, .int v] [(h0, .inr (2, [.ref r, .int (nI n)])), (r, aB g 600 f)] sz) (tw_Qv g (fun _ => True) (fun u : Unit => [(h0, .inr (2, [.ref r, .int (nI (n + 1))])), (r, aB g 600 (upd f n v.toInt8.toInt32))]) (va_A [(h0, .inr (2, [.ref r, .int (nI n)])), (r, aB g 600 f)] sz)) 0 0 (va_A [(h0, .inr (2, [.ref r, .int (nI n)])), (r, aB g 600 f)] sz) := by
  refine tw_metW (l := l) (g := g) (y := y_Image_add) (cc := b_Image_add) (maxL := 2) (ret := none) (rm := { frames := 0, cells := 0, slots := 0, locals := 0 }) (mc := 0) (ms := 0) (av := [.ref h0, .int v]) (ws := [(h0, .inr (2, [.ref r, .int (nI n)])), (r, aB g 600 f)]) (sz := sz) (Qc := fun A => (tw_Qv g (fun _ => True) (fun u : Unit => [(h0, .inr (2, [.ref r, .int (nI (n + 1))])), (r, aB g 600 (upd f n v.toInt8.toInt32))]) A)) (by decide) (Nat.le_of_ble_eq_true rfl) ?_
  intro p e s m below meth c ls H A E hB hK hZ hP hD hS hA hl
  obtain ⟨hx, hb, hml, hr, hown, hts, hlocks, hin⟩ := id E
  have hl : lv_has ls 2 [(0, .ref h0), (1, .int v)] := hl
  refine lv_aload_n hx hb d_Image_add_0 rfl (lv_at hl 0 rfl) ?_
  refine va_get (D := g.1) (ci := 2) (v := .int (nI n)) (C := R_Image) (T := F_Image) (N := 2) hx hb hts in_Image hown hK hP 0 rfl rfl 1 (by decide) (hts _ wd_43) (fun _ h9 => h9) rfl d_Image_add_1 ?_
  refine lv_sipush (v := 600) hx hb d_Image_add_4 (by decide) ?_
  refine lv_icmp_ge (tgt := 31) hx hb d_Image_add_7 (by decide) (fun h7 => ?_) (fun h7 => ?_)
  · exact absurd h7 (nI_ge hn (by decide))
  · refine lv_aload_n hx hb d_Image_add_10 rfl (lv_at hl 0 rfl) ?_
    refine va_get (D := g.1) (ci := 2) (v := .ref r) (C := R_Image) (T := F_Image) (N := 2) hx hb hts in_Image hown hK hP 0 rfl rfl 0 (by decide) (hts _ wd_42) (fun _ h9 => h9) rfl d_Image_add_11 ?_
    refine lv_aload_n hx hb d_Image_add_14 rfl (lv_at hl 0 rfl) ?_
    refine va_get (D := g.1) (ci := 2) (v := .int (nI n)) (C := R_Image) (T := F_Image) (N := 2) hx hb hts in_Image hown hK hP 0 rfl rfl 1 (by decide) (hts _ wd_43) (fun _ h9 => h9) rfl d_Image_add_15 ?_
    refine lv_iload_n hx hb d_Image_add_18 rfl (lv_at hl 1 rfl) ?_
    refine lv_i2b (v := v.toInt8.toInt32) hx hb d_Image_add_19 rfl ?_
    refine va_bast hx hb hK hP hD hS 1 1 rfl rfl (vp_in_nI hn (by decide)) d_Image_add_20 (fun H locs hP hD hS => ?_)
    have hP : va_P g.1 classes [(h0, .inr (2, [.ref r, .int (nI n)])), (r, aB g 600 (upd f (nI n).toNatClampNeg (vp_nar .byte v.toInt8.toInt32)))] H := hP
    have hD : va_D A [(h0, .inr (2, [.ref r, .int (nI n)])), (r, aB g 600 (upd f (nI n).toNatClampNeg (vp_nar .byte v.toInt8.toInt32)))] := hD
    have e9 : upd f (nI n).toNatClampNeg (vp_nar .byte v.toInt8.toInt32) = upd f n v.toInt8.toInt32 := by rw [nI_clamp (by omega), pk_vb]
    rw [e9] at hP hD
    refine lv_aload_n hx hb d_Image_add_21 rfl (lv_at hl 0 rfl) ?_
    refine lv_dup hx hb d_Image_add_22 rfl ?_
    refine va_get (D := g.1) (ci := 2) (v := .int (nI n)) (C := R_Image) (T := F_Image) (N := 2) hx hb hts in_Image hown hK hP 0 rfl rfl 1 (by decide) (hts _ wd_43) (fun _ h9 => h9) rfl d_Image_add_23 ?_
    refine lv_iconst (v := 1) hx hb d_Image_add_26 (by decide) ?_
    refine lv_iadd hx hb d_Image_add_27 ?_
    refine tw_ri (e2 := nI (n + 1)) ((nI_succ n).symm) ?_
    refine va_put (D := g.1) (ci := 2) (v := .int (nI (n + 1))) (ty := .int) (C := R_Image) (T := F_Image) (N := 2) hx hb hts in_Image t_Image t_Image_ok n_Image hown hK hP hD hS 0 rfl rfl 1 (by decide) (hts _ wd_43) (fun _ h9 => h9) rfl (t_Image_ok 1 (by decide)) rfl rfl (Nat.le_of_ble_eq_true rfl) d_Image_add_28 (fun H locs hP hD hS => ?_)
    have hP : va_P g.1 classes [(h0, .inr (2, [.ref r, .int (nI (n + 1))])), (r, aB g 600 (upd f n v.toInt8.toInt32))] H := hP
    have hD : va_D A [(h0, .inr (2, [.ref r, .int (nI (n + 1))])), (r, aB g 600 (upd f n v.toInt8.toInt32))] := hD
    exact tw_vret E hS () trivial hP hD d_Image_add_31
set_option maxHeartbeats 4000000 in
set_option maxRecDepth 100000 in
theorem c_Image_oneAt (l : Launch) (g : tw_G) (sz : Nat) (h0 r n : Nat) (f : Nat → Int32) (i : Int32) (hn : n ≤ 600) : Met l y_Image_oneAt [.code y_Image_oneAt b_Image_oneAt 2 (some .int)] ({ frames := 0, cells := 0, slots := 0, locals := 0 }) (tw_P g [.ref h0, .int i] [(h0, .inr (2, [.ref r, .int (nI n)])), (r, aB g 600 f)] sz) (vp_Si (fun r => r = im_b f n i)) 0 0 (fun _ => False) := by
  refine tw_met (l := l) (g := g) (y := y_Image_oneAt) (cc := b_Image_oneAt) (maxL := 2) (ret := (some .int)) (rm := { frames := 0, cells := 0, slots := 0, locals := 0 }) (mc := 0) (ms := 0) (av := [.ref h0, .int i]) (ws := [(h0, .inr (2, [.ref r, .int (nI n)])), (r, aB g 600 f)]) (sz := sz) (Qc := fun _ => (vp_Si (fun r => r = im_b f n i))) (free := fun _ _ => False) (by decide) (Nat.le_of_ble_eq_true rfl) ?_
  intro p e s m below meth c ls A E hB hK hZ hP hD hS hA hl
  obtain ⟨hx, hb, hml, hr, hown, hts, hlocks, hin⟩ := id E
  have hl : lv_has ls 2 [(0, .ref h0), (1, .int i)] := hl
  refine lv_iload_n hx hb d_Image_oneAt_0 rfl (lv_at hl 1 rfl) ?_
  refine lv_if_lt (tgt := 25) hx hb d_Image_oneAt_1 (by decide) (fun h1 => ?_) (fun h1 => ?_)
  · refine lv_iconst (v := 0) hx hb d_Image_oneAt_25 (by decide) ?_
    exact tw_isret E (by first | exact (im_b0 h1).symm | exact (im_b1 h9).symm) d_Image_oneAt_26
  · refine lv_iload_n hx hb d_Image_oneAt_4 rfl (lv_at hl 1 rfl) ?_
    refine lv_aload_n hx hb d_Image_oneAt_5 rfl (lv_at hl 0 rfl) ?_
    refine va_get (D := g.1) (ci := 2) (v := .int (nI n)) (C := R_Image) (T := F_Image) (N := 2) hx hb hts in_Image hown hK hP 0 rfl rfl 1 (by decide) (hts _ wd_43) (fun _ h9 => h9) rfl d_Image_oneAt_6 ?_
    refine lv_icmp_ge (tgt := 25) hx hb d_Image_oneAt_9 (by decide) (fun h9 => ?_) (fun h9 => ?_)
    · refine lv_iconst (v := 0) hx hb d_Image_oneAt_25 (by decide) ?_
      exact tw_isret E (by first | exact (im_b0 h1).symm | exact (im_b1 h9).symm) d_Image_oneAt_26
    · refine lv_aload_n hx hb d_Image_oneAt_12 rfl (lv_at hl 0 rfl) ?_
      refine va_get (D := g.1) (ci := 2) (v := .ref r) (C := R_Image) (T := F_Image) (N := 2) hx hb hts in_Image hown hK hP 0 rfl rfl 0 (by decide) (hts _ wd_42) (fun _ h9 => h9) rfl d_Image_oneAt_13 ?_
      refine lv_iload_n hx hb d_Image_oneAt_16 rfl (lv_at hl 1 rfl) ?_
      refine va_bald hx hb hK hP 1 1 rfl rfl (tn_in h1 h9 hn (by decide)) d_Image_oneAt_17 ?_
      refine lv_sipush (v := 255) hx hb d_Image_oneAt_18 (by decide) ?_
      refine lv_iand hx hb d_Image_oneAt_21 ?_
      refine lv_goto (tgt := 26) hx hb d_Image_oneAt_22 (by decide) ?_
      exact tw_isret E ((im_b2 h1 h9).symm) d_Image_oneAt_26
set_option maxHeartbeats 4000000 in
set_option maxRecDepth 100000 in
theorem c_Image_change (l : Launch) (g : tw_G) (sz : Nat) (h0 r n j : Nat) (f : Nat → Int32) (v : Int32) (hj : j < n) (hn : n ≤ 600) : Met l y_Image_change [.code y_Image_change b_Image_change 3 none] ({ frames := 0, cells := 0, slots := 0, locals := 0 }) (tw_P g [.ref h0, .int (nI j), .int v] [(h0, .inr (2, [.ref r, .int (nI n)])), (r, aB g 600 f)] sz) (tw_Qv g (fun _ => True) (fun u : Unit => [(h0, .inr (2, [.ref r, .int (nI n)])), (r, aB g 600 (upd f j v.toInt8.toInt32))]) (va_A [(h0, .inr (2, [.ref r, .int (nI n)])), (r, aB g 600 f)] sz)) 0 0 (va_A [(h0, .inr (2, [.ref r, .int (nI n)])), (r, aB g 600 f)] sz) := by
  refine tw_metW (l := l) (g := g) (y := y_Image_change) (cc := b_Image_change) (maxL := 3) (ret := none) (rm := { frames := 0, cells := 0, slots := 0, locals := 0 }) (mc := 0) (ms := 0) (av := [.ref h0, .int (nI j), .int v]) (ws := [(h0, .inr (2, [.ref r, .int (nI n)])), (r, aB g 600 f)]) (sz := sz) (Qc := fun A => (tw_Qv g (fun _ => True) (fun u : Unit => [(h0, .inr (2, [.ref r, .int (nI n)])), (r, aB g 600 (upd f j v.toInt8.toInt32))]) A)) (by decide) (Nat.le_of_ble_eq_true rfl) ?_
  intro p e s m below meth c ls H A E hB hK hZ hP hD hS hA hl
  obtain ⟨hx, hb, hml, hr, hown, hts, hlocks, hin⟩ := id E
  have hl : lv_has ls 3 [(0, .ref h0), (1, .int (nI j)), (2, .int v)] := hl
  refine lv_iload_n hx hb d_Image_change_0 rfl (lv_at hl 1 rfl) ?_
  refine lv_if_lt (tgt := 20) hx hb d_Image_change_1 (by decide) (fun h1 => ?_) (fun h1 => ?_)
  · exact absurd h1 (nI_pos (by omega))
  · refine lv_iload_n hx hb d_Image_change_4 rfl (lv_at hl 1 rfl) ?_
    refine lv_aload_n hx hb d_Image_change_5 rfl (lv_at hl 0 rfl) ?_
    refine va_get (D := g.1) (ci := 2) (v := .int (nI n)) (C := R_Image) (T := F_Image) (N := 2) hx hb hts in_Image hown hK hP 0 rfl rfl 1 (by decide) (hts _ wd_43) (fun _ h9 => h9) rfl d_Image_change_6 ?_
    refine lv_icmp_ge (tgt := 20) hx hb d_Image_change_9 (by decide) (fun h9 => ?_) (fun h9 => ?_)
    · exact absurd h9 (nI_ge hj (by omega))
    · refine lv_aload_n hx hb d_Image_change_12 rfl (lv_at hl 0 rfl) ?_
      refine va_get (D := g.1) (ci := 2) (v := .ref r) (C := R_Image) (T := F_Image) (N := 2) hx hb hts in_Image hown hK hP 0 rfl rfl 0 (by decide) (hts _ wd_42) (fun _ h9 => h9) rfl d_Image_change_13 ?_
      refine lv_iload_n hx hb d_Image_change_16 rfl (lv_at hl 1 rfl) ?_
      refine lv_iload_n hx hb d_Image_change_17 rfl (lv_at hl 2 rfl) ?_
      refine lv_i2b (v := v.toInt8.toInt32) hx hb d_Image_change_18 rfl ?_
      refine va_bast hx hb hK hP hD hS 1 1 rfl rfl (vp_in_nI (by omega) (by decide)) d_Image_change_19 (fun H locs hP hD hS => ?_)
      have hP : va_P g.1 classes [(h0, .inr (2, [.ref r, .int (nI n)])), (r, aB g 600 (upd f (nI j).toNatClampNeg (vp_nar .byte v.toInt8.toInt32)))] H := hP
      have hD : va_D A [(h0, .inr (2, [.ref r, .int (nI n)])), (r, aB g 600 (upd f (nI j).toNatClampNeg (vp_nar .byte v.toInt8.toInt32)))] := hD
      have e9 : upd f (nI j).toNatClampNeg (vp_nar .byte v.toInt8.toInt32) = upd f j v.toInt8.toInt32 := by rw [nI_clamp (by omega), pk_vb]
      rw [e9] at hP hD
      exact tw_vret E hS () trivial hP hD d_Image_change_20
set_option maxHeartbeats 4000000 in
set_option maxRecDepth 100000 in
theorem c_Ship_feed (l : Launch) (hfl : l.flags = flags0) (g : tw_G) (sz : Nat) (h0 r n : Nat) (q : Nat → Nat) (f : Nat → Int32) (ig many a b c1 d : Int32) (hn : n ≤ 600) : tw_Met l y_Ship_feed [.code y_Ship_feed b_Ship_feed 8 (some .int)] ({ frames := 6, cells := 1, slots := 6, locals := 81 }) (tw_P g [.ref h0, .int many, .int a, .int b, .int c1, .int d] [(h0, .inr (9, [.ref (q 0), .ref (q 1), .ref (q 2), .ref (q 3), .ref (q 4), .ref (q 5), .ref (q 6), .ref (q 7), .int ig])), ((q 0), .inr (2, [.ref r, .int (nI n)])), (r, aB g 600 f)] sz) (tw_QX g (fun r (u : Nat) => many = nI u ∧ u ≤ 16 ∧ n + u ≤ 600 ∧ r = nI (n + u)) (fun u : Nat => [(h0, .inr (9, [.ref (q 0), .ref (q 1), .ref (q 2), .ref (q 3), .ref (q 4), .ref (q 5), .ref (q 6), .ref (q 7), .int ig])), ((q 0), .inr (2, [.ref r, .int (nI (n + u))])), (r, aB g 600 (fd_f f n a b c1 d u))]) (fun X => (X = "java/lang/IllegalArgumentException" ∧ (many < 0 ∨ 16 < many)) ∨ (X = "java/lang/IllegalStateException" ∧ ¬ many < 0 ∧ many ≤ 16 ∧ 600 < nI n + many)) (va_A [(h0, .inr (9, [.ref (q 0), .ref (q 1), .ref (q 2), .ref (q 3), .ref (q 4), .ref (q 5), .ref (q 6), .ref (q 7), .int ig])), ((q 0), .inr (2, [.ref r, .int (nI n)])), (r, aB g 600 f)] sz)) 1 6 (va_A [(h0, .inr (9, [.ref (q 0), .ref (q 1), .ref (q 2), .ref (q 3), .ref (q 4), .ref (q 5), .ref (q 6), .ref (q 7), .int ig])), ((q 0), .inr (2, [.ref r, .int (nI n)])), (r, aB g 600 f)] sz) := by
  refine tw_metX (l := l) (g := g) (y := y_Ship_feed) (cc := b_Ship_feed) (maxL := 8) (ret := (some .int)) (rm := { frames := 6, cells := 1, slots := 6, locals := 81 }) (mc := 1) (ms := 6) (av := [.ref h0, .int many, .int a, .int b, .int c1, .int d]) (ws := [(h0, .inr (9, [.ref (q 0), .ref (q 1), .ref (q 2), .ref (q 3), .ref (q 4), .ref (q 5), .ref (q 6), .ref (q 7), .int ig])), ((q 0), .inr (2, [.ref r, .int (nI n)])), (r, aB g 600 f)]) (sz := sz) (Qc := fun A => (tw_QX g (fun r (u : Nat) => many = nI u ∧ u ≤ 16 ∧ n + u ≤ 600 ∧ r = nI (n + u)) (fun u : Nat => [(h0, .inr (9, [.ref (q 0), .ref (q 1), .ref (q 2), .ref (q 3), .ref (q 4), .ref (q 5), .ref (q 6), .ref (q 7), .int ig])), ((q 0), .inr (2, [.ref r, .int (nI (n + u))])), (r, aB g 600 (fd_f f n a b c1 d u))]) (fun X => (X = "java/lang/IllegalArgumentException" ∧ (many < 0 ∨ 16 < many)) ∨ (X = "java/lang/IllegalStateException" ∧ ¬ many < 0 ∧ many ≤ 16 ∧ 600 < nI n + many)) A)) (by decide) (Nat.le_of_ble_eq_true rfl) ?_
  intro p e s m below meth c ls A E hB hK hZ hP hD hS hA hl hno
  have hX := hZ.1
  obtain ⟨hx, hb, hml, hr, hown, hts, hlocks, hin⟩ := id E
  have hl : lv_has ls 8 [(0, .ref h0), (1, .int many), (2, .int a), (3, .int b), (4, .int c1), (5, .int d)] := hl
  refine lv_iload_n hx hb d_Ship_feed_0 rfl (lv_at hl 1 rfl) ?_
  refine lv_if_lt (tgt := 10) hx hb d_Ship_feed_1 (by decide) (fun h1 => ?_) (fun h1 => ?_)
  · exact tw_throw (X := "java/lang/IllegalArgumentException") (names := ["java/lang/RuntimeException", "java/lang/Exception"]) (ia := 61) (ic := 63) E hfl hno (by decide +kernel) (by decide +kernel) (oa_IAE hts hX) (hts _ wd_1030) (hts _ wd_15) hl.1 (by decide) (by decide) (by decide) (by decide) (fun t hc ho hz hw => ⟨Or.inr ⟨_, Or.inl ⟨rfl, by first | exact Or.inl h1 | exact Or.inr (by first | exact Int32.not_le.mp h7)⟩, rfl, hc, ho⟩, hz, fun q h _ => ho q h⟩) d_Ship_feed_10 d_Ship_feed_13 d_Ship_feed_14 d_Ship_feed_17
  · refine lv_iload_n hx hb d_Ship_feed_4 rfl (lv_at hl 1 rfl) ?_
    refine lv_bipush (v := 16) hx hb d_Ship_feed_5 (by decide) ?_
    refine lv_icmp_le (tgt := 18) hx hb d_Ship_feed_7 (by decide) (fun h7 => ?_) (fun h7 => ?_)
    · obtain ⟨k0, hk0, hke⟩ := nI_of2 (n := 16) (by decide) h1 h7
      refine lv_aload_n hx hb d_Ship_feed_18 rfl (lv_at hl 0 rfl) ?_
      refine va_get (D := g.1) (ci := 9) (v := .ref (q 0)) (C := R_Ship) (T := F_Ship) (N := 9) hx hb hts in_Ship hown hK hP 0 rfl rfl 0 (by decide) (hts _ wd_312) (fun _ h9 => h9) rfl d_Ship_feed_19 ?_
      refine va_getN (D := g.1) (ci := 2) (v := .int (nI n)) (C := R_Image) (T := F_Image) (N := 2) hx hb hts in_Image hown hK hP 1 rfl rfl 1 (by decide) (hts _ wd_44) (fun _ h9 => h9) rfl d_Ship_feed_22 ?_
      refine lv_iload_n hx hb d_Ship_feed_25 rfl (lv_at hl 1 rfl) ?_
      refine lv_iadd hx hb d_Ship_feed_26 ?_
      refine lv_sipush (v := 600) hx hb d_Ship_feed_27 (by decide) ?_
      refine lv_icmp_le (tgt := 41) hx hb d_Ship_feed_30 (by decide) (fun h30 => ?_) (fun h30 => ?_)
      · rw [hke, nI_add] at h30
        have h30 := tn_le (b := 600) h30 (by omega) (by decide)
        subst hke
        refine lv_iconst (v := 0) hx hb d_Ship_feed_41 (by decide) ?_
        refine lv_istore hx hb d_Ship_feed_42 hl (by decide) rfl (fun ls hl => ?_)
        have hl : lv_has ls 8 [(6, .int 0), (0, .ref h0), (1, .int (nI k0)), (2, .int a), (3, .int b), (4, .int c1), (5, .int d)] := hl
        have loop44 : ∀ (k : Nat) (i : Nat) (ls : Array Slot) (H : Heap) (locs : List Loc) , k0 - i = k → (hi : i ≤ k0) → lv_has ls 8 [(6, .int (nI i)), (0, .ref h0), (1, .int (nI k0)), (2, .int a), (3, .int b), (4, .int c1), (5, .int d)] → va_P g.1 classes [(h0, .inr (9, [.ref (q 0), .ref (q 1), .ref (q 2), .ref (q 3), .ref (q 4), .ref (q 5), .ref (q 6), .ref (q 7), .int ig])), ((q 0), .inr (2, [.ref r, .int (nI (n + i))])), (r, aB g 600 (fd_f f n a b c1 d i))] H → va_D A [(h0, .inr (9, [.ref (q 0), .ref (q 1), .ref (q 2), .ref (q 3), .ref (q 4), .ref (q 5), .ref (q 6), .ref (q 7), .int ig])), ((q 0), .inr (2, [.ref r, .int (nI (n + i))])), (r, aB g 600 (fd_f f n a b c1 d i))] → va_S A s.heap H locs → W p l e ({ frames := 6, cells := 1, slots := 6, locals := 81 }) s m [.ref h0, .int (nI k0), .int a, .int b, .int c1, .int d].toArray below meth c H locs 0 0 (tw_MX below (tw_QX g (fun r (u : Nat) => (nI k0) = nI u ∧ u ≤ 16 ∧ n + u ≤ 600 ∧ r = nI (n + u)) (fun u : Nat => [(h0, .inr (9, [.ref (q 0), .ref (q 1), .ref (q 2), .ref (q 3), .ref (q 4), .ref (q 5), .ref (q 6), .ref (q 7), .int ig])), ((q 0), .inr (2, [.ref r, .int (nI (n + u))])), (r, aB g 600 (fd_f f n a b c1 d u))]) (fun X => (X = "java/lang/IllegalArgumentException" ∧ ((nI k0) < 0 ∨ 16 < (nI k0))) ∨ (X = "java/lang/IllegalStateException" ∧ ¬ (nI k0) < 0 ∧ (nI k0) ≤ 16 ∧ 600 < nI n + (nI k0))) A) [.ref h0, .int (nI k0), .int a, .int b, .int c1, .int d].toArray s 1 6 A) (F0 m 44 ls []) := by
          intro k
          induction k using Nat.strongRecOn with
          | _ k ih =>
            intro i ls H locs hk hi hl hP hD hS
            refine lv_iload hx hb d_Ship_feed_44 (lv_at hl 0 rfl) ?_
            refine lv_iload_n hx hb d_Ship_feed_46 rfl (lv_at hl 2 rfl) ?_
            refine lv_icmp_ge (tgt := 113) hx hb d_Ship_feed_47 (by decide) (fun h47 => ?_) (fun h47 => ?_)
            · have h47 := tn_le h47 (by omega) (by omega)
              obtain rfl : i = k0 := by omega
              refine lv_aload_n hx hb d_Ship_feed_113 rfl (lv_at hl 1 rfl) ?_
              refine va_get (D := g.1) (ci := 9) (v := .ref (q 0)) (C := R_Ship) (T := F_Ship) (N := 9) hx hb hts in_Ship hown hK hP 0 rfl rfl 0 (by decide) (hts _ wd_312) (fun _ h9 => h9) rfl d_Ship_feed_114 ?_
              refine va_getN (D := g.1) (ci := 2) (v := .int (nI (n + i))) (C := R_Image) (T := F_Image) (N := 2) hx hb hts in_Image hown hK hP 1 rfl rfl 1 (by decide) (hts _ wd_44) (fun _ h9 => h9) rfl d_Ship_feed_117 ?_
              refine W.widen (k := 1) (n := 6) (by decide) (by decide) ?_
              exact tw_iretX E rfl hS i (⟨rfl, by omega, by omega, rfl⟩) hP hD d_Ship_feed_120
            · have h47 := tn_nle h47 (by omega) (by omega)
              refine lv_iload hx hb d_Ship_feed_50 (lv_at hl 0 rfl) ?_
              refine lv_iconst (v := 4) hx hb d_Ship_feed_52 (by decide) ?_
              refine lv_icmp_ge (tgt := 60) hx hb d_Ship_feed_53 (by decide) (fun h53 => ?_) (fun h53 => ?_)
              · have h53 := tn_le (a := 4) h53 (by decide) (by omega)
                refine lv_iload hx hb d_Ship_feed_60 (lv_at hl 0 rfl) ?_
                refine lv_bipush (v := 8) hx hb d_Ship_feed_62 (by decide) ?_
                refine lv_icmp_ge (tgt := 71) hx hb d_Ship_feed_64 (by decide) (fun h64 => ?_) (fun h64 => ?_)
                · have h64 := tn_le (a := 8) h64 (by decide) (by omega)
                  refine lv_iload hx hb d_Ship_feed_71 (lv_at hl 0 rfl) ?_
                  refine lv_bipush (v := 12) hx hb d_Ship_feed_73 (by decide) ?_
                  refine lv_icmp_ge (tgt := 83) hx hb d_Ship_feed_75 (by decide) (fun h75 => ?_) (fun h75 => ?_)
                  · have h75 := tn_le (a := 12) h75 (by decide) (by omega)
                    have ew : d = fd_w a b c1 d i := by simp [fd_w, show ¬ i < 4 by omega, show ¬ i < 8 by omega, show ¬ i < 12 by omega]
                    refine lv_iload hx hb d_Ship_feed_83 (lv_at hl 6 rfl) ?_
                    refine lv_istore hx hb d_Ship_feed_85 hl (by decide) rfl (fun ls hl => ?_)
                    have hl : lv_has ls 8 [(7, .int d), (6, .int (nI i)), (0, .ref h0), (1, .int (nI k0)), (2, .int a), (3, .int b), (4, .int c1), (5, .int d)] := hl
                    refine lv_aload_n hx hb d_Ship_feed_87 rfl (lv_at hl 2 rfl) ?_
                    refine va_get (D := g.1) (ci := 9) (v := .ref (q 0)) (C := R_Ship) (T := F_Ship) (N := 9) hx hb hts in_Ship hown hK hP 0 rfl rfl 0 (by decide) (hts _ wd_312) (fun _ h9 => h9) rfl d_Ship_feed_88 ?_
                    refine lv_iload hx hb d_Ship_feed_91 (lv_at hl 0 rfl) ?_
                    refine lv_bipush (v := 24) hx hb d_Ship_feed_93 (by decide) ?_
                    refine lv_bipush (v := 8) hx hb d_Ship_feed_95 (by decide) ?_
                    refine lv_iload hx hb d_Ship_feed_97 (lv_at hl 1 rfl) ?_
                    refine lv_iconst (v := 3) hx hb d_Ship_feed_99 (by decide) ?_
                    refine lv_iand hx hb d_Ship_feed_100 ?_
                    refine lv_imul hx hb d_Ship_feed_101 ?_
                    refine lv_isub hx hb d_Ship_feed_102 ?_
                    refine lv_iushr (v := (d.toUInt32 >>> ((24 - (8 * ((nI i) &&& 3))).toUInt32 &&& Int32.toUInt32 31)).toInt32) hx hb d_Ship_feed_103 rfl ?_
                    refine tw_wv (wr := [(h0, .inr (9, [.ref (q 0), .ref (q 1), .ref (q 2), .ref (q 3), .ref (q 4), .ref (q 5), .ref (q 6), .ref (q 7), .int ig]))]) (tw_runV (ws := [(h0, .inr (9, [.ref (q 0), .ref (q 1), .ref (q 2), .ref (q 3), .ref (q 4), .ref (q 5), .ref (q 6), .ref (q 7), .int ig])), ((q 0), .inr (2, [.ref r, .int (nI (n + i))])), (r, aB g 600 (fd_f f n a b c1 d i))]) (wc := [((q 0), .inr (2, [.ref r, .int (nI (n + i))])), (r, aB g 600 (fd_f f n a b c1 d i))]) (As := [.int ((d.toUInt32 >>> ((24 - (8 * ((nI i) &&& 3))).toUInt32 &&& Int32.toUInt32 31)).toInt32)]) (rest := []) E hB hK hZ (c_Image_add l g H.size (q 0) r (n + i) (fd_f f n a b c1 d i) ((d.toUInt32 >>> ((24 - (8 * ((nI i) &&& 3))).toUInt32 &&& Int32.toUInt32 31)).toInt32) (by omega)) mc_Image_add mi_Image_add me_Image_add wd_1108 hP hD hS hA [1, 2] rfl (by decide) 0 rfl rfl rfl rfl rfl (by decide) rfl hl.1 rfl (Nat.le_of_ble_eq_true rfl) (by decide) d_Ship_feed_104) hP hD hS hA [1, 2] [0] rfl rfl (by decide) (by decide) (fun u2 H locs hr1 hP hD hS => ?_)
                    try dsimp only at hr1
                    have hP : va_P g.1 classes [(h0, .inr (9, [.ref (q 0), .ref (q 1), .ref (q 2), .ref (q 3), .ref (q 4), .ref (q 5), .ref (q 6), .ref (q 7), .int ig])), ((q 0), .inr (2, [.ref r, .int (nI (n + i + 1))])), (r, aB g 600 (upd (fd_f f n a b c1 d i) (n + i) ((d.toUInt32 >>> ((24 - (8 * ((nI i) &&& 3))).toUInt32 &&& Int32.toUInt32 31)).toInt32).toInt8.toInt32))] H := hP
                    have hD : va_D A [(h0, .inr (9, [.ref (q 0), .ref (q 1), .ref (q 2), .ref (q 3), .ref (q 4), .ref (q 5), .ref (q 6), .ref (q 7), .int ig])), ((q 0), .inr (2, [.ref r, .int (nI (n + i + 1))])), (r, aB g 600 (upd (fd_f f n a b c1 d i) (n + i) ((d.toUInt32 >>> ((24 - (8 * ((nI i) &&& 3))).toUInt32 &&& Int32.toUInt32 31)).toInt32).toInt8.toInt32))] := hD
                    have hP : va_P g.1 classes [(h0, .inr (9, [.ref (q 0), .ref (q 1), .ref (q 2), .ref (q 3), .ref (q 4), .ref (q 5), .ref (q 6), .ref (q 7), .int ig])), ((q 0), .inr (2, [.ref r, .int (nI (n + i + 1))])), (r, aB g 600 (upd (fd_f f n a b c1 d i) (n + i) ((d.toUInt32 >>> ((24 - (8 * ((nI i) &&& 3))).toUInt32 &&& Int32.toUInt32 31)).toInt32).toInt8.toInt32))] H := hP.sub [0, 1, 2] rfl
                    have hD : va_D A [(h0, .inr (9, [.ref (q 0), .ref (q 1), .ref (q 2), .ref (q 3), .ref (q 4), .ref (q 5), .ref (q 6), .ref (q 7), .int ig])), ((q 0), .inr (2, [.ref r, .int (nI (n + i + 1))])), (r, aB g 600 (upd (fd_f f n a b c1 d i) (n + i) ((d.toUInt32 >>> ((24 - (8 * ((nI i) &&& 3))).toUInt32 &&& Int32.toUInt32 31)).toInt32).toInt8.toInt32))] := hD.sub [0, 1, 2] (by decide) rfl
                    refine lv_iinc (k := 1) (v := nI (i + 1)) hx hb d_Ship_feed_107 hl rfl ((nI_succ i).symm) (by decide) rfl (fun ls hl => ?_)
                    have hl : lv_has ls 8 [(6, .int (nI (i + 1))), (7, .int d), (0, .ref h0), (1, .int (nI k0)), (2, .int a), (3, .int b), (4, .int c1), (5, .int d)] := hl
                    refine lv_goto (tgt := 44) hx hb d_Ship_feed_110 (by decide) ?_
                    have e8 : upd (fd_f f n a b c1 d i) (n + i) ((d.toUInt32 >>> ((24 - (8 * ((nI i) &&& 3))).toUInt32 &&& Int32.toUInt32 31)).toInt32).toInt8.toInt32 = fd_f f n a b c1 d (i + 1) := by rw [fd_f, ← ew]; rfl
                    rw [e8] at hP hD
                    exact ih _ (by omega) (i + 1) ls _ _ rfl (by omega) (lv_sub hl [0, 2, 3, 4, 5, 6, 7] rfl) hP hD hS
                  · have h75 := tn_nle (a := 12) h75 (by decide) (by omega)
                    have ew : c1 = fd_w a b c1 d i := by simp [fd_w, show ¬ i < 4 by omega, show ¬ i < 8 by omega, h75]
                    refine lv_iload hx hb d_Ship_feed_78 (lv_at hl 5 rfl) ?_
                    refine lv_goto (tgt := 85) hx hb d_Ship_feed_80 (by decide) ?_
                    refine lv_istore hx hb d_Ship_feed_85 hl (by decide) rfl (fun ls hl => ?_)
                    have hl : lv_has ls 8 [(7, .int c1), (6, .int (nI i)), (0, .ref h0), (1, .int (nI k0)), (2, .int a), (3, .int b), (4, .int c1), (5, .int d)] := hl
                    refine lv_aload_n hx hb d_Ship_feed_87 rfl (lv_at hl 2 rfl) ?_
                    refine va_get (D := g.1) (ci := 9) (v := .ref (q 0)) (C := R_Ship) (T := F_Ship) (N := 9) hx hb hts in_Ship hown hK hP 0 rfl rfl 0 (by decide) (hts _ wd_312) (fun _ h9 => h9) rfl d_Ship_feed_88 ?_
                    refine lv_iload hx hb d_Ship_feed_91 (lv_at hl 0 rfl) ?_
                    refine lv_bipush (v := 24) hx hb d_Ship_feed_93 (by decide) ?_
                    refine lv_bipush (v := 8) hx hb d_Ship_feed_95 (by decide) ?_
                    refine lv_iload hx hb d_Ship_feed_97 (lv_at hl 1 rfl) ?_
                    refine lv_iconst (v := 3) hx hb d_Ship_feed_99 (by decide) ?_
                    refine lv_iand hx hb d_Ship_feed_100 ?_
                    refine lv_imul hx hb d_Ship_feed_101 ?_
                    refine lv_isub hx hb d_Ship_feed_102 ?_
                    refine lv_iushr (v := (c1.toUInt32 >>> ((24 - (8 * ((nI i) &&& 3))).toUInt32 &&& Int32.toUInt32 31)).toInt32) hx hb d_Ship_feed_103 rfl ?_
                    refine tw_wv (wr := [(h0, .inr (9, [.ref (q 0), .ref (q 1), .ref (q 2), .ref (q 3), .ref (q 4), .ref (q 5), .ref (q 6), .ref (q 7), .int ig]))]) (tw_runV (ws := [(h0, .inr (9, [.ref (q 0), .ref (q 1), .ref (q 2), .ref (q 3), .ref (q 4), .ref (q 5), .ref (q 6), .ref (q 7), .int ig])), ((q 0), .inr (2, [.ref r, .int (nI (n + i))])), (r, aB g 600 (fd_f f n a b c1 d i))]) (wc := [((q 0), .inr (2, [.ref r, .int (nI (n + i))])), (r, aB g 600 (fd_f f n a b c1 d i))]) (As := [.int ((c1.toUInt32 >>> ((24 - (8 * ((nI i) &&& 3))).toUInt32 &&& Int32.toUInt32 31)).toInt32)]) (rest := []) E hB hK hZ (c_Image_add l g H.size (q 0) r (n + i) (fd_f f n a b c1 d i) ((c1.toUInt32 >>> ((24 - (8 * ((nI i) &&& 3))).toUInt32 &&& Int32.toUInt32 31)).toInt32) (by omega)) mc_Image_add mi_Image_add me_Image_add wd_1108 hP hD hS hA [1, 2] rfl (by decide) 0 rfl rfl rfl rfl rfl (by decide) rfl hl.1 rfl (Nat.le_of_ble_eq_true rfl) (by decide) d_Ship_feed_104) hP hD hS hA [1, 2] [0] rfl rfl (by decide) (by decide) (fun u4 H locs hr3 hP hD hS => ?_)
                    try dsimp only at hr3
                    have hP : va_P g.1 classes [(h0, .inr (9, [.ref (q 0), .ref (q 1), .ref (q 2), .ref (q 3), .ref (q 4), .ref (q 5), .ref (q 6), .ref (q 7), .int ig])), ((q 0), .inr (2, [.ref r, .int (nI (n + i + 1))])), (r, aB g 600 (upd (fd_f f n a b c1 d i) (n + i) ((c1.toUInt32 >>> ((24 - (8 * ((nI i) &&& 3))).toUInt32 &&& Int32.toUInt32 31)).toInt32).toInt8.toInt32))] H := hP
                    have hD : va_D A [(h0, .inr (9, [.ref (q 0), .ref (q 1), .ref (q 2), .ref (q 3), .ref (q 4), .ref (q 5), .ref (q 6), .ref (q 7), .int ig])), ((q 0), .inr (2, [.ref r, .int (nI (n + i + 1))])), (r, aB g 600 (upd (fd_f f n a b c1 d i) (n + i) ((c1.toUInt32 >>> ((24 - (8 * ((nI i) &&& 3))).toUInt32 &&& Int32.toUInt32 31)).toInt32).toInt8.toInt32))] := hD
                    have hP : va_P g.1 classes [(h0, .inr (9, [.ref (q 0), .ref (q 1), .ref (q 2), .ref (q 3), .ref (q 4), .ref (q 5), .ref (q 6), .ref (q 7), .int ig])), ((q 0), .inr (2, [.ref r, .int (nI (n + i + 1))])), (r, aB g 600 (upd (fd_f f n a b c1 d i) (n + i) ((c1.toUInt32 >>> ((24 - (8 * ((nI i) &&& 3))).toUInt32 &&& Int32.toUInt32 31)).toInt32).toInt8.toInt32))] H := hP.sub [0, 1, 2] rfl
                    have hD : va_D A [(h0, .inr (9, [.ref (q 0), .ref (q 1), .ref (q 2), .ref (q 3), .ref (q 4), .ref (q 5), .ref (q 6), .ref (q 7), .int ig])), ((q 0), .inr (2, [.ref r, .int (nI (n + i + 1))])), (r, aB g 600 (upd (fd_f f n a b c1 d i) (n + i) ((c1.toUInt32 >>> ((24 - (8 * ((nI i) &&& 3))).toUInt32 &&& Int32.toUInt32 31)).toInt32).toInt8.toInt32))] := hD.sub [0, 1, 2] (by decide) rfl
                    refine lv_iinc (k := 1) (v := nI (i + 1)) hx hb d_Ship_feed_107 hl rfl ((nI_succ i).symm) (by decide) rfl (fun ls hl => ?_)
                    have hl : lv_has ls 8 [(6, .int (nI (i + 1))), (7, .int c1), (0, .ref h0), (1, .int (nI k0)), (2, .int a), (3, .int b), (4, .int c1), (5, .int d)] := hl
                    refine lv_goto (tgt := 44) hx hb d_Ship_feed_110 (by decide) ?_
                    have e8 : upd (fd_f f n a b c1 d i) (n + i) ((c1.toUInt32 >>> ((24 - (8 * ((nI i) &&& 3))).toUInt32 &&& Int32.toUInt32 31)).toInt32).toInt8.toInt32 = fd_f f n a b c1 d (i + 1) := by rw [fd_f, ← ew]; rfl
                    rw [e8] at hP hD
                    exact ih _ (by omega) (i + 1) ls _ _ rfl (by omega) (lv_sub hl [0, 2, 3, 4, 5, 6, 7] rfl) hP hD hS
                · have h64 := tn_nle (a := 8) h64 (by decide) (by omega)
                  have ew : b = fd_w a b c1 d i := by simp [fd_w, show ¬ i < 4 by omega, h64]
                  refine lv_iload_n hx hb d_Ship_feed_67 rfl (lv_at hl 4 rfl) ?_
                  refine lv_goto (tgt := 85) hx hb d_Ship_feed_68 (by decide) ?_
                  refine lv_istore hx hb d_Ship_feed_85 hl (by decide) rfl (fun ls hl => ?_)
                  have hl : lv_has ls 8 [(7, .int b), (6, .int (nI i)), (0, .ref h0), (1, .int (nI k0)), (2, .int a), (3, .int b), (4, .int c1), (5, .int d)] := hl
                  refine lv_aload_n hx hb d_Ship_feed_87 rfl (lv_at hl 2 rfl) ?_
                  refine va_get (D := g.1) (ci := 9) (v := .ref (q 0)) (C := R_Ship) (T := F_Ship) (N := 9) hx hb hts in_Ship hown hK hP 0 rfl rfl 0 (by decide) (hts _ wd_312) (fun _ h9 => h9) rfl d_Ship_feed_88 ?_
                  refine lv_iload hx hb d_Ship_feed_91 (lv_at hl 0 rfl) ?_
                  refine lv_bipush (v := 24) hx hb d_Ship_feed_93 (by decide) ?_
                  refine lv_bipush (v := 8) hx hb d_Ship_feed_95 (by decide) ?_
                  refine lv_iload hx hb d_Ship_feed_97 (lv_at hl 1 rfl) ?_
                  refine lv_iconst (v := 3) hx hb d_Ship_feed_99 (by decide) ?_
                  refine lv_iand hx hb d_Ship_feed_100 ?_
                  refine lv_imul hx hb d_Ship_feed_101 ?_
                  refine lv_isub hx hb d_Ship_feed_102 ?_
                  refine lv_iushr (v := (b.toUInt32 >>> ((24 - (8 * ((nI i) &&& 3))).toUInt32 &&& Int32.toUInt32 31)).toInt32) hx hb d_Ship_feed_103 rfl ?_
                  refine tw_wv (wr := [(h0, .inr (9, [.ref (q 0), .ref (q 1), .ref (q 2), .ref (q 3), .ref (q 4), .ref (q 5), .ref (q 6), .ref (q 7), .int ig]))]) (tw_runV (ws := [(h0, .inr (9, [.ref (q 0), .ref (q 1), .ref (q 2), .ref (q 3), .ref (q 4), .ref (q 5), .ref (q 6), .ref (q 7), .int ig])), ((q 0), .inr (2, [.ref r, .int (nI (n + i))])), (r, aB g 600 (fd_f f n a b c1 d i))]) (wc := [((q 0), .inr (2, [.ref r, .int (nI (n + i))])), (r, aB g 600 (fd_f f n a b c1 d i))]) (As := [.int ((b.toUInt32 >>> ((24 - (8 * ((nI i) &&& 3))).toUInt32 &&& Int32.toUInt32 31)).toInt32)]) (rest := []) E hB hK hZ (c_Image_add l g H.size (q 0) r (n + i) (fd_f f n a b c1 d i) ((b.toUInt32 >>> ((24 - (8 * ((nI i) &&& 3))).toUInt32 &&& Int32.toUInt32 31)).toInt32) (by omega)) mc_Image_add mi_Image_add me_Image_add wd_1108 hP hD hS hA [1, 2] rfl (by decide) 0 rfl rfl rfl rfl rfl (by decide) rfl hl.1 rfl (Nat.le_of_ble_eq_true rfl) (by decide) d_Ship_feed_104) hP hD hS hA [1, 2] [0] rfl rfl (by decide) (by decide) (fun u6 H locs hr5 hP hD hS => ?_)
                  try dsimp only at hr5
                  have hP : va_P g.1 classes [(h0, .inr (9, [.ref (q 0), .ref (q 1), .ref (q 2), .ref (q 3), .ref (q 4), .ref (q 5), .ref (q 6), .ref (q 7), .int ig])), ((q 0), .inr (2, [.ref r, .int (nI (n + i + 1))])), (r, aB g 600 (upd (fd_f f n a b c1 d i) (n + i) ((b.toUInt32 >>> ((24 - (8 * ((nI i) &&& 3))).toUInt32 &&& Int32.toUInt32 31)).toInt32).toInt8.toInt32))] H := hP
                  have hD : va_D A [(h0, .inr (9, [.ref (q 0), .ref (q 1), .ref (q 2), .ref (q 3), .ref (q 4), .ref (q 5), .ref (q 6), .ref (q 7), .int ig])), ((q 0), .inr (2, [.ref r, .int (nI (n + i + 1))])), (r, aB g 600 (upd (fd_f f n a b c1 d i) (n + i) ((b.toUInt32 >>> ((24 - (8 * ((nI i) &&& 3))).toUInt32 &&& Int32.toUInt32 31)).toInt32).toInt8.toInt32))] := hD
                  have hP : va_P g.1 classes [(h0, .inr (9, [.ref (q 0), .ref (q 1), .ref (q 2), .ref (q 3), .ref (q 4), .ref (q 5), .ref (q 6), .ref (q 7), .int ig])), ((q 0), .inr (2, [.ref r, .int (nI (n + i + 1))])), (r, aB g 600 (upd (fd_f f n a b c1 d i) (n + i) ((b.toUInt32 >>> ((24 - (8 * ((nI i) &&& 3))).toUInt32 &&& Int32.toUInt32 31)).toInt32).toInt8.toInt32))] H := hP.sub [0, 1, 2] rfl
                  have hD : va_D A [(h0, .inr (9, [.ref (q 0), .ref (q 1), .ref (q 2), .ref (q 3), .ref (q 4), .ref (q 5), .ref (q 6), .ref (q 7), .int ig])), ((q 0), .inr (2, [.ref r, .int (nI (n + i + 1))])), (r, aB g 600 (upd (fd_f f n a b c1 d i) (n + i) ((b.toUInt32 >>> ((24 - (8 * ((nI i) &&& 3))).toUInt32 &&& Int32.toUInt32 31)).toInt32).toInt8.toInt32))] := hD.sub [0, 1, 2] (by decide) rfl
                  refine lv_iinc (k := 1) (v := nI (i + 1)) hx hb d_Ship_feed_107 hl rfl ((nI_succ i).symm) (by decide) rfl (fun ls hl => ?_)
                  have hl : lv_has ls 8 [(6, .int (nI (i + 1))), (7, .int b), (0, .ref h0), (1, .int (nI k0)), (2, .int a), (3, .int b), (4, .int c1), (5, .int d)] := hl
                  refine lv_goto (tgt := 44) hx hb d_Ship_feed_110 (by decide) ?_
                  have e8 : upd (fd_f f n a b c1 d i) (n + i) ((b.toUInt32 >>> ((24 - (8 * ((nI i) &&& 3))).toUInt32 &&& Int32.toUInt32 31)).toInt32).toInt8.toInt32 = fd_f f n a b c1 d (i + 1) := by rw [fd_f, ← ew]; rfl
                  rw [e8] at hP hD
                  exact ih _ (by omega) (i + 1) ls _ _ rfl (by omega) (lv_sub hl [0, 2, 3, 4, 5, 6, 7] rfl) hP hD hS
              · have h53 := tn_nle (a := 4) h53 (by decide) (by omega)
                have ew : a = fd_w a b c1 d i := by simp [fd_w, h53]
                refine lv_iload_n hx hb d_Ship_feed_56 rfl (lv_at hl 3 rfl) ?_
                refine lv_goto (tgt := 85) hx hb d_Ship_feed_57 (by decide) ?_
                refine lv_istore hx hb d_Ship_feed_85 hl (by decide) rfl (fun ls hl => ?_)
                have hl : lv_has ls 8 [(7, .int a), (6, .int (nI i)), (0, .ref h0), (1, .int (nI k0)), (2, .int a), (3, .int b), (4, .int c1), (5, .int d)] := hl
                refine lv_aload_n hx hb d_Ship_feed_87 rfl (lv_at hl 2 rfl) ?_
                refine va_get (D := g.1) (ci := 9) (v := .ref (q 0)) (C := R_Ship) (T := F_Ship) (N := 9) hx hb hts in_Ship hown hK hP 0 rfl rfl 0 (by decide) (hts _ wd_312) (fun _ h9 => h9) rfl d_Ship_feed_88 ?_
                refine lv_iload hx hb d_Ship_feed_91 (lv_at hl 0 rfl) ?_
                refine lv_bipush (v := 24) hx hb d_Ship_feed_93 (by decide) ?_
                refine lv_bipush (v := 8) hx hb d_Ship_feed_95 (by decide) ?_
                refine lv_iload hx hb d_Ship_feed_97 (lv_at hl 1 rfl) ?_
                refine lv_iconst (v := 3) hx hb d_Ship_feed_99 (by decide) ?_
                refine lv_iand hx hb d_Ship_feed_100 ?_
                refine lv_imul hx hb d_Ship_feed_101 ?_
                refine lv_isub hx hb d_Ship_feed_102 ?_
                refine lv_iushr (v := (a.toUInt32 >>> ((24 - (8 * ((nI i) &&& 3))).toUInt32 &&& Int32.toUInt32 31)).toInt32) hx hb d_Ship_feed_103 rfl ?_
                refine tw_wv (wr := [(h0, .inr (9, [.ref (q 0), .ref (q 1), .ref (q 2), .ref (q 3), .ref (q 4), .ref (q 5), .ref (q 6), .ref (q 7), .int ig]))]) (tw_runV (ws := [(h0, .inr (9, [.ref (q 0), .ref (q 1), .ref (q 2), .ref (q 3), .ref (q 4), .ref (q 5), .ref (q 6), .ref (q 7), .int ig])), ((q 0), .inr (2, [.ref r, .int (nI (n + i))])), (r, aB g 600 (fd_f f n a b c1 d i))]) (wc := [((q 0), .inr (2, [.ref r, .int (nI (n + i))])), (r, aB g 600 (fd_f f n a b c1 d i))]) (As := [.int ((a.toUInt32 >>> ((24 - (8 * ((nI i) &&& 3))).toUInt32 &&& Int32.toUInt32 31)).toInt32)]) (rest := []) E hB hK hZ (c_Image_add l g H.size (q 0) r (n + i) (fd_f f n a b c1 d i) ((a.toUInt32 >>> ((24 - (8 * ((nI i) &&& 3))).toUInt32 &&& Int32.toUInt32 31)).toInt32) (by omega)) mc_Image_add mi_Image_add me_Image_add wd_1108 hP hD hS hA [1, 2] rfl (by decide) 0 rfl rfl rfl rfl rfl (by decide) rfl hl.1 rfl (Nat.le_of_ble_eq_true rfl) (by decide) d_Ship_feed_104) hP hD hS hA [1, 2] [0] rfl rfl (by decide) (by decide) (fun u8 H locs hr7 hP hD hS => ?_)
                try dsimp only at hr7
                have hP : va_P g.1 classes [(h0, .inr (9, [.ref (q 0), .ref (q 1), .ref (q 2), .ref (q 3), .ref (q 4), .ref (q 5), .ref (q 6), .ref (q 7), .int ig])), ((q 0), .inr (2, [.ref r, .int (nI (n + i + 1))])), (r, aB g 600 (upd (fd_f f n a b c1 d i) (n + i) ((a.toUInt32 >>> ((24 - (8 * ((nI i) &&& 3))).toUInt32 &&& Int32.toUInt32 31)).toInt32).toInt8.toInt32))] H := hP
                have hD : va_D A [(h0, .inr (9, [.ref (q 0), .ref (q 1), .ref (q 2), .ref (q 3), .ref (q 4), .ref (q 5), .ref (q 6), .ref (q 7), .int ig])), ((q 0), .inr (2, [.ref r, .int (nI (n + i + 1))])), (r, aB g 600 (upd (fd_f f n a b c1 d i) (n + i) ((a.toUInt32 >>> ((24 - (8 * ((nI i) &&& 3))).toUInt32 &&& Int32.toUInt32 31)).toInt32).toInt8.toInt32))] := hD
                have hP : va_P g.1 classes [(h0, .inr (9, [.ref (q 0), .ref (q 1), .ref (q 2), .ref (q 3), .ref (q 4), .ref (q 5), .ref (q 6), .ref (q 7), .int ig])), ((q 0), .inr (2, [.ref r, .int (nI (n + i + 1))])), (r, aB g 600 (upd (fd_f f n a b c1 d i) (n + i) ((a.toUInt32 >>> ((24 - (8 * ((nI i) &&& 3))).toUInt32 &&& Int32.toUInt32 31)).toInt32).toInt8.toInt32))] H := hP.sub [0, 1, 2] rfl
                have hD : va_D A [(h0, .inr (9, [.ref (q 0), .ref (q 1), .ref (q 2), .ref (q 3), .ref (q 4), .ref (q 5), .ref (q 6), .ref (q 7), .int ig])), ((q 0), .inr (2, [.ref r, .int (nI (n + i + 1))])), (r, aB g 600 (upd (fd_f f n a b c1 d i) (n + i) ((a.toUInt32 >>> ((24 - (8 * ((nI i) &&& 3))).toUInt32 &&& Int32.toUInt32 31)).toInt32).toInt8.toInt32))] := hD.sub [0, 1, 2] (by decide) rfl
                refine lv_iinc (k := 1) (v := nI (i + 1)) hx hb d_Ship_feed_107 hl rfl ((nI_succ i).symm) (by decide) rfl (fun ls hl => ?_)
                have hl : lv_has ls 8 [(6, .int (nI (i + 1))), (7, .int a), (0, .ref h0), (1, .int (nI k0)), (2, .int a), (3, .int b), (4, .int c1), (5, .int d)] := hl
                refine lv_goto (tgt := 44) hx hb d_Ship_feed_110 (by decide) ?_
                have e8 : upd (fd_f f n a b c1 d i) (n + i) ((a.toUInt32 >>> ((24 - (8 * ((nI i) &&& 3))).toUInt32 &&& Int32.toUInt32 31)).toInt32).toInt8.toInt32 = fd_f f n a b c1 d (i + 1) := by rw [fd_f, ← ew]; rfl
                rw [e8] at hP hD
                exact ih _ (by omega) (i + 1) ls _ _ rfl (by omega) (lv_sub hl [0, 2, 3, 4, 5, 6, 7] rfl) hP hD hS
        exact loop44 _ 0 ls _ _ rfl (Nat.zero_le _) (lv_sub hl [0, 1, 2, 3, 4, 5, 6] rfl) hP hD hS
      · exact tw_throw (X := "java/lang/IllegalStateException") (names := ["java/lang/RuntimeException", "java/lang/Exception"]) (ia := 68) (ic := 70) E hfl hno (by decide +kernel) (by decide +kernel) (oa_ISE hts hX) (hts _ wd_1093) (hts _ wd_16) hl.1 (by decide) (by decide) (by decide) (by decide) (fun t hc ho hz hw => ⟨Or.inr ⟨_, Or.inr ⟨rfl, h1, h7, Int32.not_le.mp h30⟩, rfl, hc, ho⟩, hz, fun q h _ => ho q h⟩) d_Ship_feed_33 d_Ship_feed_36 d_Ship_feed_37 d_Ship_feed_40
    · exact tw_throw (X := "java/lang/IllegalArgumentException") (names := ["java/lang/RuntimeException", "java/lang/Exception"]) (ia := 61) (ic := 63) E hfl hno (by decide +kernel) (by decide +kernel) (oa_IAE hts hX) (hts _ wd_1030) (hts _ wd_15) hl.1 (by decide) (by decide) (by decide) (by decide) (fun t hc ho hz hw => ⟨Or.inr ⟨_, Or.inl ⟨rfl, by first | exact Or.inl h1 | exact Or.inr (by first | exact Int32.not_le.mp h7)⟩, rfl, hc, ho⟩, hz, fun q h _ => ho q h⟩) d_Ship_feed_10 d_Ship_feed_13 d_Ship_feed_14 d_Ship_feed_17
set_option maxHeartbeats 4000000 in
set_option maxRecDepth 100000 in
theorem c_Ship_put (l : Launch) (hfl : l.flags = flags0) (g : tw_G) (sz : Nat) (h0 r n : Nat) (q : Nat → Nat) (f : Nat → Int32) (ig pl v : Int32) (hn : n ≤ 600) : tw_Met l y_Ship_put [.code y_Ship_put b_Ship_put 4 (some .int)] ({ frames := 6, cells := 1, slots := 6, locals := 81 }) (tw_P g [.ref h0, .int pl, .int v] [(h0, .inr (9, [.ref (q 0), .ref (q 1), .ref (q 2), .ref (q 3), .ref (q 4), .ref (q 5), .ref (q 6), .ref (q 7), .int ig])), ((q 0), .inr (2, [.ref r, .int (nI n)])), (r, aB g 600 f)] sz) (tw_QX g (fun r (u : Nat) => pl = nI u ∧ u < n ∧ ¬ v < 0 ∧ v ≤ 255 ∧ r = f u &&& 255) (fun u : Nat => [(h0, .inr (9, [.ref (q 0), .ref (q 1), .ref (q 2), .ref (q 3), .ref (q 4), .ref (q 5), .ref (q 6), .ref (q 7), .int ig])), ((q 0), .inr (2, [.ref r, .int (nI n)])), (r, aB g 600 (upd f u v.toInt8.toInt32))]) (fun X => (X = "java/lang/IndexOutOfBoundsException" ∧ (pl < 0 ∨ nI n ≤ pl)) ∨ (X = "java/lang/IllegalArgumentException" ∧ ¬ pl < 0 ∧ pl < nI n ∧ (v < 0 ∨ 255 < v))) (va_A [(h0, .inr (9, [.ref (q 0), .ref (q 1), .ref (q 2), .ref (q 3), .ref (q 4), .ref (q 5), .ref (q 6), .ref (q 7), .int ig])), ((q 0), .inr (2, [.ref r, .int (nI n)])), (r, aB g 600 f)] sz)) 1 6 (va_A [(h0, .inr (9, [.ref (q 0), .ref (q 1), .ref (q 2), .ref (q 3), .ref (q 4), .ref (q 5), .ref (q 6), .ref (q 7), .int ig])), ((q 0), .inr (2, [.ref r, .int (nI n)])), (r, aB g 600 f)] sz) := by
  refine tw_metX (l := l) (g := g) (y := y_Ship_put) (cc := b_Ship_put) (maxL := 4) (ret := (some .int)) (rm := { frames := 6, cells := 1, slots := 6, locals := 81 }) (mc := 1) (ms := 6) (av := [.ref h0, .int pl, .int v]) (ws := [(h0, .inr (9, [.ref (q 0), .ref (q 1), .ref (q 2), .ref (q 3), .ref (q 4), .ref (q 5), .ref (q 6), .ref (q 7), .int ig])), ((q 0), .inr (2, [.ref r, .int (nI n)])), (r, aB g 600 f)]) (sz := sz) (Qc := fun A => (tw_QX g (fun r (u : Nat) => pl = nI u ∧ u < n ∧ ¬ v < 0 ∧ v ≤ 255 ∧ r = f u &&& 255) (fun u : Nat => [(h0, .inr (9, [.ref (q 0), .ref (q 1), .ref (q 2), .ref (q 3), .ref (q 4), .ref (q 5), .ref (q 6), .ref (q 7), .int ig])), ((q 0), .inr (2, [.ref r, .int (nI n)])), (r, aB g 600 (upd f u v.toInt8.toInt32))]) (fun X => (X = "java/lang/IndexOutOfBoundsException" ∧ (pl < 0 ∨ nI n ≤ pl)) ∨ (X = "java/lang/IllegalArgumentException" ∧ ¬ pl < 0 ∧ pl < nI n ∧ (v < 0 ∨ 255 < v))) A)) (by decide) (Nat.le_of_ble_eq_true rfl) ?_
  intro p e s m below meth c ls A E hB hK hZ hP hD hS hA hl hno
  have hX := hZ.1
  obtain ⟨hx, hb, hml, hr, hown, hts, hlocks, hin⟩ := id E
  have hl : lv_has ls 4 [(0, .ref h0), (1, .int pl), (2, .int v)] := hl
  refine lv_iload_n hx hb d_Ship_put_0 rfl (lv_at hl 1 rfl) ?_
  refine lv_if_lt (tgt := 15) hx hb d_Ship_put_1 (by decide) (fun h1 => ?_) (fun h1 => ?_)
  · exact tw_throw (X := "java/lang/IndexOutOfBoundsException") (names := ["java/lang/RuntimeException", "java/lang/Exception"]) (ia := 75) (ic := 77) E hfl hno (by decide +kernel) (by decide +kernel) (oa_IOB hts hX) (hts _ wd_1120) (hts _ wd_17) hl.1 (by decide) (by decide) (by decide) (by decide) (fun t hc ho hz hw => ⟨Or.inr ⟨_, Or.inl ⟨rfl, by first | exact Or.inl h1 | exact Or.inr (Int32.not_lt.mp h12)⟩, rfl, hc, ho⟩, hz, fun q h _ => ho q h⟩) d_Ship_put_15 d_Ship_put_18 d_Ship_put_19 d_Ship_put_22
  · refine lv_iload_n hx hb d_Ship_put_4 rfl (lv_at hl 1 rfl) ?_
    refine lv_aload_n hx hb d_Ship_put_5 rfl (lv_at hl 0 rfl) ?_
    refine va_get (D := g.1) (ci := 9) (v := .ref (q 0)) (C := R_Ship) (T := F_Ship) (N := 9) hx hb hts in_Ship hown hK hP 0 rfl rfl 0 (by decide) (hts _ wd_312) (fun _ h9 => h9) rfl d_Ship_put_6 ?_
    refine va_getN (D := g.1) (ci := 2) (v := .int (nI n)) (C := R_Image) (T := F_Image) (N := 2) hx hb hts in_Image hown hK hP 1 rfl rfl 1 (by decide) (hts _ wd_44) (fun _ h9 => h9) rfl d_Ship_put_9 ?_
    refine lv_icmp_lt (tgt := 23) hx hb d_Ship_put_12 (by decide) (fun h12 => ?_) (fun h12 => ?_)
    · refine lv_iload_n hx hb d_Ship_put_23 rfl (lv_at hl 2 rfl) ?_
      refine lv_if_lt (tgt := 34) hx hb d_Ship_put_24 (by decide) (fun h24 => ?_) (fun h24 => ?_)
      · exact tw_throw (X := "java/lang/IllegalArgumentException") (names := ["java/lang/RuntimeException", "java/lang/Exception"]) (ia := 61) (ic := 63) E hfl hno (by decide +kernel) (by decide +kernel) (oa_IAE hts hX) (hts _ wd_1030) (hts _ wd_15) hl.1 (by decide) (by decide) (by decide) (by decide) (fun t hc ho hz hw => ⟨Or.inr ⟨_, Or.inr ⟨rfl, h1, h12, by first | exact Or.inl h24 | exact Or.inr (Int32.not_le.mp h31)⟩, rfl, hc, ho⟩, hz, fun q h _ => ho q h⟩) d_Ship_put_34 d_Ship_put_37 d_Ship_put_38 d_Ship_put_41
      · refine lv_iload_n hx hb d_Ship_put_27 rfl (lv_at hl 2 rfl) ?_
        refine lv_sipush (v := 255) hx hb d_Ship_put_28 (by decide) ?_
        refine lv_icmp_le (tgt := 42) hx hb d_Ship_put_31 (by decide) (fun h31 => ?_) (fun h31 => ?_)
        · obtain ⟨j, hj, hje⟩ := nI_of h1
          subst hje
          have hj := tn_lt h12 (by omega) (by omega)
          refine lv_aload_n hx hb d_Ship_put_42 rfl (lv_at hl 0 rfl) ?_
          refine va_get (D := g.1) (ci := 9) (v := .ref (q 0)) (C := R_Ship) (T := F_Ship) (N := 9) hx hb hts in_Ship hown hK hP 0 rfl rfl 0 (by decide) (hts _ wd_312) (fun _ h9 => h9) rfl d_Ship_put_43 ?_
          refine lv_iload_n hx hb d_Ship_put_46 rfl (lv_at hl 1 rfl) ?_
          refine tw_si (tw_runV (ws := [(h0, .inr (9, [.ref (q 0), .ref (q 1), .ref (q 2), .ref (q 3), .ref (q 4), .ref (q 5), .ref (q 6), .ref (q 7), .int ig])), ((q 0), .inr (2, [.ref r, .int (nI n)])), (r, aB g 600 f)]) (wc := [((q 0), .inr (2, [.ref r, .int (nI n)])), (r, aB g 600 f)]) (As := [.int (nI j)]) (rest := []) E hB hK hZ (c_Image_oneAt l g s.heap.size (q 0) r n f (nI j) hn) mc_Image_oneAt mi_Image_oneAt me_Image_oneAt wd_1135 hP hD hS hA [1, 2] rfl (by decide) 0 rfl rfl rfl rfl rfl (by decide) rfl hl.1 rfl (Nat.le_of_ble_eq_true rfl) (by decide) d_Ship_put_47) (fun r1 hr1 => ?_)
          obtain rfl : r1 = im_b f n (nI j) := hr1
          refine lv_istore_n hx hb d_Ship_put_50 rfl hl (by decide) rfl (fun ls hl => ?_)
          have hl : lv_has ls 4 [(3, .int (im_b f n (nI j))), (0, .ref h0), (1, .int (nI j)), (2, .int v)] := hl
          refine lv_aload_n hx hb d_Ship_put_51 rfl (lv_at hl 1 rfl) ?_
          refine va_get (D := g.1) (ci := 9) (v := .ref (q 0)) (C := R_Ship) (T := F_Ship) (N := 9) hx hb hts in_Ship hown hK hP 0 rfl rfl 0 (by decide) (hts _ wd_312) (fun _ h9 => h9) rfl d_Ship_put_52 ?_
          refine lv_iload_n hx hb d_Ship_put_55 rfl (lv_at hl 2 rfl) ?_
          refine lv_iload_n hx hb d_Ship_put_56 rfl (lv_at hl 3 rfl) ?_
          refine tw_wv (wr := [(h0, .inr (9, [.ref (q 0), .ref (q 1), .ref (q 2), .ref (q 3), .ref (q 4), .ref (q 5), .ref (q 6), .ref (q 7), .int ig]))]) (tw_runV (ws := [(h0, .inr (9, [.ref (q 0), .ref (q 1), .ref (q 2), .ref (q 3), .ref (q 4), .ref (q 5), .ref (q 6), .ref (q 7), .int ig])), ((q 0), .inr (2, [.ref r, .int (nI n)])), (r, aB g 600 f)]) (wc := [((q 0), .inr (2, [.ref r, .int (nI n)])), (r, aB g 600 f)]) (As := [.int (nI j), .int v]) (rest := []) E hB hK hZ (c_Image_change l g s.heap.size (q 0) r n j f v hj hn) mc_Image_change mi_Image_change me_Image_change wd_1136 hP hD hS hA [1, 2] rfl (by decide) 0 rfl rfl rfl rfl rfl (by decide) rfl hl.1 rfl (Nat.le_of_ble_eq_true rfl) (by decide) d_Ship_put_57) hP hD hS hA [1, 2] [0] rfl rfl (by decide) (by decide) (fun u3 H locs hr2 hP hD hS => ?_)
          try dsimp only at hr2
          have hP : va_P g.1 classes [(h0, .inr (9, [.ref (q 0), .ref (q 1), .ref (q 2), .ref (q 3), .ref (q 4), .ref (q 5), .ref (q 6), .ref (q 7), .int ig])), ((q 0), .inr (2, [.ref r, .int (nI n)])), (r, aB g 600 (upd f j v.toInt8.toInt32))] H := hP
          have hD : va_D A [(h0, .inr (9, [.ref (q 0), .ref (q 1), .ref (q 2), .ref (q 3), .ref (q 4), .ref (q 5), .ref (q 6), .ref (q 7), .int ig])), ((q 0), .inr (2, [.ref r, .int (nI n)])), (r, aB g 600 (upd f j v.toInt8.toInt32))] := hD
          refine lv_iload_n hx hb d_Ship_put_60 rfl (lv_at hl 0 rfl) ?_
          refine W.widen (k := 1) (n := 6) (by decide) (by decide) ?_
          exact tw_iretX E rfl hS j (⟨rfl, hj, h24, h31, by rw [im_b2 h1 (Int32.not_le.mpr h12), nI_clamp (by omega)]⟩) hP hD d_Ship_put_61
        · exact tw_throw (X := "java/lang/IllegalArgumentException") (names := ["java/lang/RuntimeException", "java/lang/Exception"]) (ia := 61) (ic := 63) E hfl hno (by decide +kernel) (by decide +kernel) (oa_IAE hts hX) (hts _ wd_1030) (hts _ wd_15) hl.1 (by decide) (by decide) (by decide) (by decide) (fun t hc ho hz hw => ⟨Or.inr ⟨_, Or.inr ⟨rfl, h1, h12, by first | exact Or.inl h24 | exact Or.inr (Int32.not_le.mp h31)⟩, rfl, hc, ho⟩, hz, fun q h _ => ho q h⟩) d_Ship_put_34 d_Ship_put_37 d_Ship_put_38 d_Ship_put_41
    · exact tw_throw (X := "java/lang/IndexOutOfBoundsException") (names := ["java/lang/RuntimeException", "java/lang/Exception"]) (ia := 75) (ic := 77) E hfl hno (by decide +kernel) (by decide +kernel) (oa_IOB hts hX) (hts _ wd_1120) (hts _ wd_17) hl.1 (by decide) (by decide) (by decide) (by decide) (fun t hc ho hz hw => ⟨Or.inr ⟨_, Or.inl ⟨rfl, by first | exact Or.inl h1 | exact Or.inr (Int32.not_lt.mp h12)⟩, rfl, hc, ho⟩, hz, fun q h _ => ho q h⟩) d_Ship_put_15 d_Ship_put_18 d_Ship_put_19 d_Ship_put_22
set_option maxHeartbeats 4000000 in
set_option maxRecDepth 100000 in
theorem c_Ship_cut (l : Launch) (hfl : l.flags = flags0) (g : tw_G) (sz : Nat) (h0 r n : Nat) (q : Nat → Nat) (ig kc : Int32) (hn : n ≤ 600) : tw_Met l y_Ship_cut [.code y_Ship_cut b_Ship_cut 3 (some .int)] ({ frames := 6, cells := 1, slots := 6, locals := 81 }) (tw_P g [.ref h0, .int kc] [(h0, .inr (9, [.ref (q 0), .ref (q 1), .ref (q 2), .ref (q 3), .ref (q 4), .ref (q 5), .ref (q 6), .ref (q 7), .int ig])), ((q 0), .inr (2, [.ref r, .int (nI n)]))] sz) (tw_QX g (fun r (u : Nat) => kc = nI u ∧ u ≤ n ∧ r = nI (n - u)) (fun u : Nat => [(h0, .inr (9, [.ref (q 0), .ref (q 1), .ref (q 2), .ref (q 3), .ref (q 4), .ref (q 5), .ref (q 6), .ref (q 7), .int ig])), ((q 0), .inr (2, [.ref r, .int (nI u)]))]) (fun X => X = "java/lang/IllegalArgumentException" ∧ (kc < 0 ∨ nI n < kc)) (va_A [(h0, .inr (9, [.ref (q 0), .ref (q 1), .ref (q 2), .ref (q 3), .ref (q 4), .ref (q 5), .ref (q 6), .ref (q 7), .int ig])), ((q 0), .inr (2, [.ref r, .int (nI n)]))] sz)) 1 6 (va_A [(h0, .inr (9, [.ref (q 0), .ref (q 1), .ref (q 2), .ref (q 3), .ref (q 4), .ref (q 5), .ref (q 6), .ref (q 7), .int ig])), ((q 0), .inr (2, [.ref r, .int (nI n)]))] sz) := by
  refine tw_metX (l := l) (g := g) (y := y_Ship_cut) (cc := b_Ship_cut) (maxL := 3) (ret := (some .int)) (rm := { frames := 6, cells := 1, slots := 6, locals := 81 }) (mc := 1) (ms := 6) (av := [.ref h0, .int kc]) (ws := [(h0, .inr (9, [.ref (q 0), .ref (q 1), .ref (q 2), .ref (q 3), .ref (q 4), .ref (q 5), .ref (q 6), .ref (q 7), .int ig])), ((q 0), .inr (2, [.ref r, .int (nI n)]))]) (sz := sz) (Qc := fun A => (tw_QX g (fun r (u : Nat) => kc = nI u ∧ u ≤ n ∧ r = nI (n - u)) (fun u : Nat => [(h0, .inr (9, [.ref (q 0), .ref (q 1), .ref (q 2), .ref (q 3), .ref (q 4), .ref (q 5), .ref (q 6), .ref (q 7), .int ig])), ((q 0), .inr (2, [.ref r, .int (nI u)]))]) (fun X => X = "java/lang/IllegalArgumentException" ∧ (kc < 0 ∨ nI n < kc)) A)) (by decide) (Nat.le_of_ble_eq_true rfl) ?_
  intro p e s m below meth c ls A E hB hK hZ hP hD hS hA hl hno
  have hX := hZ.1
  obtain ⟨hx, hb, hml, hr, hown, hts, hlocks, hin⟩ := id E
  have hl : lv_has ls 3 [(0, .ref h0), (1, .int kc)] := hl
  refine lv_iload_n hx hb d_Ship_cut_0 rfl (lv_at hl 1 rfl) ?_
  refine lv_if_lt (tgt := 15) hx hb d_Ship_cut_1 (by decide) (fun h1 => ?_) (fun h1 => ?_)
  · exact tw_throw (X := "java/lang/IllegalArgumentException") (names := ["java/lang/RuntimeException", "java/lang/Exception"]) (ia := 61) (ic := 63) E hfl hno (by decide +kernel) (by decide +kernel) (oa_IAE hts hX) (hts _ wd_1030) (hts _ wd_15) hl.1 (by decide) (by decide) (by decide) (by decide) (fun t hc ho hz hw => ⟨Or.inr ⟨_, ⟨rfl, by first | exact Or.inl h1 | exact Or.inr (Int32.not_le.mp h12)⟩, rfl, hc, ho⟩, hz, fun q h _ => ho q h⟩) d_Ship_cut_15 d_Ship_cut_18 d_Ship_cut_19 d_Ship_cut_22
  · refine lv_iload_n hx hb d_Ship_cut_4 rfl (lv_at hl 1 rfl) ?_
    refine lv_aload_n hx hb d_Ship_cut_5 rfl (lv_at hl 0 rfl) ?_
    refine va_get (D := g.1) (ci := 9) (v := .ref (q 0)) (C := R_Ship) (T := F_Ship) (N := 9) hx hb hts in_Ship hown hK hP 0 rfl rfl 0 (by decide) (hts _ wd_312) (fun _ h9 => h9) rfl d_Ship_cut_6 ?_
    refine va_getN (D := g.1) (ci := 2) (v := .int (nI n)) (C := R_Image) (T := F_Image) (N := 2) hx hb hts in_Image hown hK hP 1 rfl rfl 1 (by decide) (hts _ wd_44) (fun _ h9 => h9) rfl d_Ship_cut_9 ?_
    refine lv_icmp_le (tgt := 23) hx hb d_Ship_cut_12 (by decide) (fun h12 => ?_) (fun h12 => ?_)
    · obtain ⟨j, hj, hje⟩ := nI_of h1
      subst hje
      have hj := tn_le h12 (by omega) (by omega)
      refine lv_aload_n hx hb d_Ship_cut_23 rfl (lv_at hl 0 rfl) ?_
      refine va_get (D := g.1) (ci := 9) (v := .ref (q 0)) (C := R_Ship) (T := F_Ship) (N := 9) hx hb hts in_Ship hown hK hP 0 rfl rfl 0 (by decide) (hts _ wd_312) (fun _ h9 => h9) rfl d_Ship_cut_24 ?_
      refine va_getN (D := g.1) (ci := 2) (v := .int (nI n)) (C := R_Image) (T := F_Image) (N := 2) hx hb hts in_Image hown hK hP 1 rfl rfl 1 (by decide) (hts _ wd_44) (fun _ h9 => h9) rfl d_Ship_cut_27 ?_
      refine lv_iload_n hx hb d_Ship_cut_30 rfl (lv_at hl 1 rfl) ?_
      refine lv_isub hx hb d_Ship_cut_31 ?_
      refine tw_ri (e2 := nI (n - j)) (pk_sub hj) ?_
      refine lv_istore_n hx hb d_Ship_cut_32 rfl hl (by decide) rfl (fun ls hl => ?_)
      have hl : lv_has ls 3 [(2, .int (nI (n - j))), (0, .ref h0), (1, .int (nI j))] := hl
      refine lv_aload_n hx hb d_Ship_cut_33 rfl (lv_at hl 1 rfl) ?_
      refine va_get (D := g.1) (ci := 9) (v := .ref (q 0)) (C := R_Ship) (T := F_Ship) (N := 9) hx hb hts in_Ship hown hK hP 0 rfl rfl 0 (by decide) (hts _ wd_312) (fun _ h9 => h9) rfl d_Ship_cut_34 ?_
      refine lv_iload_n hx hb d_Ship_cut_37 rfl (lv_at hl 2 rfl) ?_
      refine va_putN (D := g.1) (ci := 2) (v := .int (nI j)) (ty := .int) (C := R_Image) (T := F_Image) (N := 2) hx hb hts in_Image t_Image t_Image_ok n_Image hown hK hP hD hS 1 rfl rfl 1 (by decide) (hts _ wd_44) (fun _ h9 => h9) rfl (t_Image_ok 1 (by decide)) rfl rfl (Nat.le_of_ble_eq_true rfl) d_Ship_cut_38 (fun H locs hP hD hS => ?_)
      have hP : va_P g.1 classes [(h0, .inr (9, [.ref (q 0), .ref (q 1), .ref (q 2), .ref (q 3), .ref (q 4), .ref (q 5), .ref (q 6), .ref (q 7), .int ig])), ((q 0), .inr (2, [.ref r, .int (nI j)]))] H := hP
      have hD : va_D A [(h0, .inr (9, [.ref (q 0), .ref (q 1), .ref (q 2), .ref (q 3), .ref (q 4), .ref (q 5), .ref (q 6), .ref (q 7), .int ig])), ((q 0), .inr (2, [.ref r, .int (nI j)]))] := hD
      refine lv_iload_n hx hb d_Ship_cut_41 rfl (lv_at hl 0 rfl) ?_
      refine W.widen (k := 1) (n := 6) (by decide) (by decide) ?_
      exact tw_iretX E rfl hS j (⟨rfl, hj, rfl⟩) hP hD d_Ship_cut_42
    · exact tw_throw (X := "java/lang/IllegalArgumentException") (names := ["java/lang/RuntimeException", "java/lang/Exception"]) (ia := 61) (ic := 63) E hfl hno (by decide +kernel) (by decide +kernel) (oa_IAE hts hX) (hts _ wd_1030) (hts _ wd_15) hl.1 (by decide) (by decide) (by decide) (by decide) (fun t hc ho hz hw => ⟨Or.inr ⟨_, ⟨rfl, by first | exact Or.inl h1 | exact Or.inr (Int32.not_le.mp h12)⟩, rfl, hc, ho⟩, hz, fun q h _ => ho q h⟩) d_Ship_cut_15 d_Ship_cut_18 d_Ship_cut_19 d_Ship_cut_22
set_option maxHeartbeats 4000000 in
set_option maxRecDepth 100000 in
theorem c_Ship_limit (l : Launch) (hfl : l.flags = flags0) (g : tw_G) (sz : Nat) (h0 p0 p1 p2 : Nat) (q : Nat → Nat) (ig mm mb wh k : Int32) : tw_Met l y_Ship_limit [.code y_Ship_limit b_Ship_limit 4 (some .int)] ({ frames := 6, cells := 1, slots := 6, locals := 81 }) (tw_P g [.ref h0, .int wh, .int k] [(h0, .inr (9, [.ref (q 0), .ref (q 1), .ref (q 2), .ref (q 3), .ref (q 4), .ref (q 5), .ref (q 6), .ref (q 7), .int ig])), ((q 2), .inr (6, [.ref p0, .ref p1, .ref p2, .int mm, .int mb]))] sz) (tw_QX g (fun r (u : Int32 × Int32) => ¬ k < 0 ∧ k ≤ 600 ∧ ((wh = 0 ∧ r = mm ∧ u = (k, mb)) ∨ (wh = 1 ∧ r = mb ∧ u = (mm, k)))) (fun u : Int32 × Int32 => [(h0, .inr (9, [.ref (q 0), .ref (q 1), .ref (q 2), .ref (q 3), .ref (q 4), .ref (q 5), .ref (q 6), .ref (q 7), .int ig])), ((q 2), .inr (6, [.ref p0, .ref p1, .ref p2, .int u.1, .int u.2]))]) (fun X => X = "java/lang/IllegalArgumentException" ∧ (wh < 0 ∨ 1 < wh ∨ k < 0 ∨ 600 < k)) (va_A [(h0, .inr (9, [.ref (q 0), .ref (q 1), .ref (q 2), .ref (q 3), .ref (q 4), .ref (q 5), .ref (q 6), .ref (q 7), .int ig])), ((q 2), .inr (6, [.ref p0, .ref p1, .ref p2, .int mm, .int mb]))] sz)) 1 6 (va_A [(h0, .inr (9, [.ref (q 0), .ref (q 1), .ref (q 2), .ref (q 3), .ref (q 4), .ref (q 5), .ref (q 6), .ref (q 7), .int ig])), ((q 2), .inr (6, [.ref p0, .ref p1, .ref p2, .int mm, .int mb]))] sz) := by
  refine tw_metX (l := l) (g := g) (y := y_Ship_limit) (cc := b_Ship_limit) (maxL := 4) (ret := (some .int)) (rm := { frames := 6, cells := 1, slots := 6, locals := 81 }) (mc := 1) (ms := 6) (av := [.ref h0, .int wh, .int k]) (ws := [(h0, .inr (9, [.ref (q 0), .ref (q 1), .ref (q 2), .ref (q 3), .ref (q 4), .ref (q 5), .ref (q 6), .ref (q 7), .int ig])), ((q 2), .inr (6, [.ref p0, .ref p1, .ref p2, .int mm, .int mb]))]) (sz := sz) (Qc := fun A => (tw_QX g (fun r (u : Int32 × Int32) => ¬ k < 0 ∧ k ≤ 600 ∧ ((wh = 0 ∧ r = mm ∧ u = (k, mb)) ∨ (wh = 1 ∧ r = mb ∧ u = (mm, k)))) (fun u : Int32 × Int32 => [(h0, .inr (9, [.ref (q 0), .ref (q 1), .ref (q 2), .ref (q 3), .ref (q 4), .ref (q 5), .ref (q 6), .ref (q 7), .int ig])), ((q 2), .inr (6, [.ref p0, .ref p1, .ref p2, .int u.1, .int u.2]))]) (fun X => X = "java/lang/IllegalArgumentException" ∧ (wh < 0 ∨ 1 < wh ∨ k < 0 ∨ 600 < k)) A)) (by decide) (Nat.le_of_ble_eq_true rfl) ?_
  intro p e s m below meth c ls A E hB hK hZ hP hD hS hA hl hno
  have hX := hZ.1
  obtain ⟨hx, hb, hml, hr, hown, hts, hlocks, hin⟩ := id E
  have hl : lv_has ls 4 [(0, .ref h0), (1, .int wh), (2, .int k)] := hl
  refine lv_iload_n hx hb d_Ship_limit_0 rfl (lv_at hl 1 rfl) ?_
  refine lv_if_lt (tgt := 20) hx hb d_Ship_limit_1 (by decide) (fun h1 => ?_) (fun h1 => ?_)
  · exact tw_throw (X := "java/lang/IllegalArgumentException") (names := ["java/lang/RuntimeException", "java/lang/Exception"]) (ia := 61) (ic := 63) E hfl hno (by decide +kernel) (by decide +kernel) (oa_IAE hts hX) (hts _ wd_1030) (hts _ wd_15) hl.1 (by decide) (by decide) (by decide) (by decide) (fun t hc ho hz hw => ⟨Or.inr ⟨_, ⟨rfl, by first | exact Or.inl h1 | exact Or.inr (Or.inl h6) | exact Or.inr (Or.inr (Or.inl h10)) | exact Or.inr (Or.inr (Or.inr (Int32.not_le.mp h17)))⟩, rfl, hc, ho⟩, hz, fun q h _ => ho q h⟩) d_Ship_limit_20 d_Ship_limit_23 d_Ship_limit_24 d_Ship_limit_27
  · refine lv_iload_n hx hb d_Ship_limit_4 rfl (lv_at hl 1 rfl) ?_
    refine lv_iconst (v := 1) hx hb d_Ship_limit_5 (by decide) ?_
    refine lv_icmp_gt (tgt := 20) hx hb d_Ship_limit_6 (by decide) (fun h6 => ?_) (fun h6 => ?_)
    · exact tw_throw (X := "java/lang/IllegalArgumentException") (names := ["java/lang/RuntimeException", "java/lang/Exception"]) (ia := 61) (ic := 63) E hfl hno (by decide +kernel) (by decide +kernel) (oa_IAE hts hX) (hts _ wd_1030) (hts _ wd_15) hl.1 (by decide) (by decide) (by decide) (by decide) (fun t hc ho hz hw => ⟨Or.inr ⟨_, ⟨rfl, by first | exact Or.inl h1 | exact Or.inr (Or.inl h6) | exact Or.inr (Or.inr (Or.inl h10)) | exact Or.inr (Or.inr (Or.inr (Int32.not_le.mp h17)))⟩, rfl, hc, ho⟩, hz, fun q h _ => ho q h⟩) d_Ship_limit_20 d_Ship_limit_23 d_Ship_limit_24 d_Ship_limit_27
    · refine lv_iload_n hx hb d_Ship_limit_9 rfl (lv_at hl 2 rfl) ?_
      refine lv_if_lt (tgt := 20) hx hb d_Ship_limit_10 (by decide) (fun h10 => ?_) (fun h10 => ?_)
      · exact tw_throw (X := "java/lang/IllegalArgumentException") (names := ["java/lang/RuntimeException", "java/lang/Exception"]) (ia := 61) (ic := 63) E hfl hno (by decide +kernel) (by decide +kernel) (oa_IAE hts hX) (hts _ wd_1030) (hts _ wd_15) hl.1 (by decide) (by decide) (by decide) (by decide) (fun t hc ho hz hw => ⟨Or.inr ⟨_, ⟨rfl, by first | exact Or.inl h1 | exact Or.inr (Or.inl h6) | exact Or.inr (Or.inr (Or.inl h10)) | exact Or.inr (Or.inr (Or.inr (Int32.not_le.mp h17)))⟩, rfl, hc, ho⟩, hz, fun q h _ => ho q h⟩) d_Ship_limit_20 d_Ship_limit_23 d_Ship_limit_24 d_Ship_limit_27
      · refine lv_iload_n hx hb d_Ship_limit_13 rfl (lv_at hl 2 rfl) ?_
        refine lv_sipush (v := 600) hx hb d_Ship_limit_14 (by decide) ?_
        refine lv_icmp_le (tgt := 28) hx hb d_Ship_limit_17 (by decide) (fun h17 => ?_) (fun h17 => ?_)
        · refine lv_iload_n hx hb d_Ship_limit_28 rfl (lv_at hl 1 rfl) ?_
          refine lv_if_ne (tgt := 42) hx hb d_Ship_limit_29 (by decide) (fun h29 => ?_) (fun h29 => ?_)
          · refine lv_aload_n hx hb d_Ship_limit_42 rfl (lv_at hl 0 rfl) ?_
            refine va_get (D := g.1) (ci := 9) (v := .ref (q 2)) (C := R_Ship) (T := F_Ship) (N := 9) hx hb hts in_Ship hown hK hP 0 rfl rfl 2 (by decide) (hts _ wd_314) (fun _ h9 => h9) rfl d_Ship_limit_43 ?_
            refine va_getN (D := g.1) (ci := 6) (v := .int mb) (C := R_Policy) (T := F_Policy) (N := 5) hx hb hts in_Policy hown hK hP 1 rfl rfl 4 (by decide) (hts _ wd_82) (fun _ h9 => h9) rfl d_Ship_limit_46 ?_
            refine lv_istore_n hx hb d_Ship_limit_49 rfl hl (by decide) rfl (fun ls hl => ?_)
            have hl : lv_has ls 4 [(3, .int mb), (0, .ref h0), (1, .int wh), (2, .int k)] := hl
            refine lv_iload_n hx hb d_Ship_limit_50 rfl (lv_at hl 2 rfl) ?_
            refine lv_if_ne (tgt := 65) hx hb d_Ship_limit_51 (by decide) (fun h51 => ?_) (fun h51 => ?_)
            · refine lv_aload_n hx hb d_Ship_limit_65 rfl (lv_at hl 1 rfl) ?_
              refine va_get (D := g.1) (ci := 9) (v := .ref (q 2)) (C := R_Ship) (T := F_Ship) (N := 9) hx hb hts in_Ship hown hK hP 0 rfl rfl 2 (by decide) (hts _ wd_314) (fun _ h9 => h9) rfl d_Ship_limit_66 ?_
              refine lv_iload_n hx hb d_Ship_limit_69 rfl (lv_at hl 3 rfl) ?_
              refine va_putN (D := g.1) (ci := 6) (v := .int k) (ty := .int) (C := R_Policy) (T := F_Policy) (N := 5) hx hb hts in_Policy t_Policy t_Policy_ok n_Policy hown hK hP hD hS 1 rfl rfl 4 (by decide) (hts _ wd_82) (fun _ h9 => h9) rfl (t_Policy_ok 4 (by decide)) rfl rfl (Nat.le_of_ble_eq_true rfl) d_Ship_limit_70 (fun H locs hP hD hS => ?_)
              have hP : va_P g.1 classes [(h0, .inr (9, [.ref (q 0), .ref (q 1), .ref (q 2), .ref (q 3), .ref (q 4), .ref (q 5), .ref (q 6), .ref (q 7), .int ig])), ((q 2), .inr (6, [.ref p0, .ref p1, .ref p2, .int mm, .int k]))] H := hP
              have hD : va_D A [(h0, .inr (9, [.ref (q 0), .ref (q 1), .ref (q 2), .ref (q 3), .ref (q 4), .ref (q 5), .ref (q 6), .ref (q 7), .int ig])), ((q 2), .inr (6, [.ref p0, .ref p1, .ref p2, .int mm, .int k]))] := hD
              refine lv_iload_n hx hb d_Ship_limit_73 rfl (lv_at hl 0 rfl) ?_
              refine W.widen (k := 1) (n := 6) (by decide) (by decide) ?_
              exact tw_iretX E rfl hS (mm, k) (⟨h10, h17, Or.inr ⟨tn_1 h1 h6 h29, rfl, rfl⟩⟩) hP hD d_Ship_limit_74
            · exact absurd h51 h29
          · refine lv_aload_n hx hb d_Ship_limit_32 rfl (lv_at hl 0 rfl) ?_
            refine va_get (D := g.1) (ci := 9) (v := .ref (q 2)) (C := R_Ship) (T := F_Ship) (N := 9) hx hb hts in_Ship hown hK hP 0 rfl rfl 2 (by decide) (hts _ wd_314) (fun _ h9 => h9) rfl d_Ship_limit_33 ?_
            refine va_getN (D := g.1) (ci := 6) (v := .int mm) (C := R_Policy) (T := F_Policy) (N := 5) hx hb hts in_Policy hown hK hP 1 rfl rfl 3 (by decide) (hts _ wd_80) (fun _ h9 => h9) rfl d_Ship_limit_36 ?_
            refine lv_goto (tgt := 49) hx hb d_Ship_limit_39 (by decide) ?_
            refine lv_istore_n hx hb d_Ship_limit_49 rfl hl (by decide) rfl (fun ls hl => ?_)
            have hl : lv_has ls 4 [(3, .int mm), (0, .ref h0), (1, .int wh), (2, .int k)] := hl
            refine lv_iload_n hx hb d_Ship_limit_50 rfl (lv_at hl 2 rfl) ?_
            refine lv_if_ne (tgt := 65) hx hb d_Ship_limit_51 (by decide) (fun h51 => ?_) (fun h51 => ?_)
            · exact absurd h29 h51
            · refine lv_aload_n hx hb d_Ship_limit_54 rfl (lv_at hl 1 rfl) ?_
              refine va_get (D := g.1) (ci := 9) (v := .ref (q 2)) (C := R_Ship) (T := F_Ship) (N := 9) hx hb hts in_Ship hown hK hP 0 rfl rfl 2 (by decide) (hts _ wd_314) (fun _ h9 => h9) rfl d_Ship_limit_55 ?_
              refine lv_iload_n hx hb d_Ship_limit_58 rfl (lv_at hl 3 rfl) ?_
              refine va_putN (D := g.1) (ci := 6) (v := .int k) (ty := .int) (C := R_Policy) (T := F_Policy) (N := 5) hx hb hts in_Policy t_Policy t_Policy_ok n_Policy hown hK hP hD hS 1 rfl rfl 3 (by decide) (hts _ wd_80) (fun _ h9 => h9) rfl (t_Policy_ok 3 (by decide)) rfl rfl (Nat.le_of_ble_eq_true rfl) d_Ship_limit_59 (fun H locs hP hD hS => ?_)
              have hP : va_P g.1 classes [(h0, .inr (9, [.ref (q 0), .ref (q 1), .ref (q 2), .ref (q 3), .ref (q 4), .ref (q 5), .ref (q 6), .ref (q 7), .int ig])), ((q 2), .inr (6, [.ref p0, .ref p1, .ref p2, .int k, .int mb]))] H := hP
              have hD : va_D A [(h0, .inr (9, [.ref (q 0), .ref (q 1), .ref (q 2), .ref (q 3), .ref (q 4), .ref (q 5), .ref (q 6), .ref (q 7), .int ig])), ((q 2), .inr (6, [.ref p0, .ref p1, .ref p2, .int k, .int mb]))] := hD
              refine lv_goto (tgt := 73) hx hb d_Ship_limit_62 (by decide) ?_
              refine lv_iload_n hx hb d_Ship_limit_73 rfl (lv_at hl 0 rfl) ?_
              refine W.widen (k := 1) (n := 6) (by decide) (by decide) ?_
              exact tw_iretX E rfl hS (k, mb) (⟨h10, h17, Or.inl ⟨h29, rfl, rfl⟩⟩) hP hD d_Ship_limit_74
        · exact tw_throw (X := "java/lang/IllegalArgumentException") (names := ["java/lang/RuntimeException", "java/lang/Exception"]) (ia := 61) (ic := 63) E hfl hno (by decide +kernel) (by decide +kernel) (oa_IAE hts hX) (hts _ wd_1030) (hts _ wd_15) hl.1 (by decide) (by decide) (by decide) (by decide) (fun t hc ho hz hw => ⟨Or.inr ⟨_, ⟨rfl, by first | exact Or.inl h1 | exact Or.inr (Or.inl h6) | exact Or.inr (Or.inr (Or.inl h10)) | exact Or.inr (Or.inr (Or.inr (Int32.not_le.mp h17)))⟩, rfl, hc, ho⟩, hz, fun q h _ => ho q h⟩) d_Ship_limit_20 d_Ship_limit_23 d_Ship_limit_24 d_Ship_limit_27
set_option maxHeartbeats 4000000 in
set_option maxRecDepth 100000 in
theorem c_Ship_place (l : Launch) (g : tw_G) (sz : Nat) (h0 : Nat) (q : Nat → Nat) (ig fa at1 : Int32) : Met l y_Ship_place [.code y_Ship_place b_Ship_place 1 (some .int)] ({ frames := 0, cells := 0, slots := 0, locals := 0 }) (tw_P g [.ref h0] [(h0, .inr (9, [.ref (q 0), .ref (q 1), .ref (q 2), .ref (q 3), .ref (q 4), .ref (q 5), .ref (q 6), .ref (q 7), .int ig])), ((q 1), .inr (0, [.int fa, .int at1]))] sz) (vp_Si (fun r => r = at1)) 0 0 (fun _ => False) := by
  refine tw_met (l := l) (g := g) (y := y_Ship_place) (cc := b_Ship_place) (maxL := 1) (ret := (some .int)) (rm := { frames := 0, cells := 0, slots := 0, locals := 0 }) (mc := 0) (ms := 0) (av := [.ref h0]) (ws := [(h0, .inr (9, [.ref (q 0), .ref (q 1), .ref (q 2), .ref (q 3), .ref (q 4), .ref (q 5), .ref (q 6), .ref (q 7), .int ig])), ((q 1), .inr (0, [.int fa, .int at1]))]) (sz := sz) (Qc := fun _ => (vp_Si (fun r => r = at1))) (free := fun _ _ => False) (by decide) (Nat.le_of_ble_eq_true rfl) ?_
  intro p e s m below meth c ls A E hB hK hZ hP hD hS hA hl
  obtain ⟨hx, hb, hml, hr, hown, hts, hlocks, hin⟩ := id E
  have hl : lv_has ls 1 [(0, .ref h0)] := hl
  refine lv_aload_n hx hb d_Ship_place_0 rfl (lv_at hl 0 rfl) ?_
  refine va_get (D := g.1) (ci := 9) (v := .ref (q 1)) (C := R_Ship) (T := F_Ship) (N := 9) hx hb hts in_Ship hown hK hP 0 rfl rfl 1 (by decide) (hts _ wd_313) (fun _ h9 => h9) rfl d_Ship_place_1 ?_
  refine va_getN (D := g.1) (ci := 0) (v := .int at1) (C := R_Finding) (T := F_Finding) (N := 2) hx hb hts in_Finding hown hK hP 1 rfl rfl 1 (by decide) (hts _ wd_63) (fun _ h9 => h9) rfl d_Ship_place_4 ?_
  exact tw_isret E rfl d_Ship_place_7
set_option maxHeartbeats 4000000 in
set_option maxRecDepth 100000 in
theorem c_Ship_rule0 (l : Launch) (hfl : l.flags = flags0) (g : tw_G) (sz : Nat) (h0 r : Nat) (q : Nat → Nat) (ig al k : Int32) : tw_Met l y_Ship_rule [.code y_Ship_rule b_Ship_rule 4 (some .int)] ({ frames := 6, cells := 1, slots := 6, locals := 81 }) (tw_P g [.ref h0, .int al, .int k] [(h0, .inr (9, [.ref (q 0), .ref (q 1), .ref (q 2), .ref (q 3), .ref (q 4), .ref (q 5), .ref (q 6), .ref (q 7), .int ig])), ((q 0), .inr (2, [.ref r, .int 0]))] sz) (tw_QX g (fun _ _ => False) (fun u : Unit => []) (fun X => X = "java/lang/IllegalArgumentException") (va_A [(h0, .inr (9, [.ref (q 0), .ref (q 1), .ref (q 2), .ref (q 3), .ref (q 4), .ref (q 5), .ref (q 6), .ref (q 7), .int ig])), ((q 0), .inr (2, [.ref r, .int 0]))] sz)) 1 6 (va_A [(h0, .inr (9, [.ref (q 0), .ref (q 1), .ref (q 2), .ref (q 3), .ref (q 4), .ref (q 5), .ref (q 6), .ref (q 7), .int ig])), ((q 0), .inr (2, [.ref r, .int 0]))] sz) := by
  refine tw_metX (l := l) (g := g) (y := y_Ship_rule) (cc := b_Ship_rule) (maxL := 4) (ret := (some .int)) (rm := { frames := 6, cells := 1, slots := 6, locals := 81 }) (mc := 1) (ms := 6) (av := [.ref h0, .int al, .int k]) (ws := [(h0, .inr (9, [.ref (q 0), .ref (q 1), .ref (q 2), .ref (q 3), .ref (q 4), .ref (q 5), .ref (q 6), .ref (q 7), .int ig])), ((q 0), .inr (2, [.ref r, .int 0]))]) (sz := sz) (Qc := fun A => (tw_QX g (fun _ _ => False) (fun u : Unit => []) (fun X => X = "java/lang/IllegalArgumentException") A)) (by decide) (Nat.le_of_ble_eq_true rfl) ?_
  intro p e s m below meth c ls A E hB hK hZ hP hD hS hA hl hno
  have hX := hZ.1
  obtain ⟨hx, hb, hml, hr, hown, hts, hlocks, hin⟩ := id E
  have hl : lv_has ls 4 [(0, .ref h0), (1, .int al), (2, .int k)] := hl
  refine lv_iload_n hx hb d_Ship_rule_0 rfl (lv_at hl 2 rfl) ?_
  refine lv_iconst (v := 1) hx hb d_Ship_rule_1 (by decide) ?_
  refine lv_icmp_lt (tgt := 41) hx hb d_Ship_rule_2 (by decide) (fun h2 => ?_) (fun h2 => ?_)
  · exact tw_throw (X := "java/lang/IllegalArgumentException") (names := ["java/lang/RuntimeException", "java/lang/Exception"]) (ia := 61) (ic := 63) E hfl hno (by decide +kernel) (by decide +kernel) (oa_IAE hts hX) (hts _ wd_1030) (hts _ wd_15) hl.1 (by decide) (by decide) (by decide) (by decide) (fun t hc ho hz hw => ⟨Or.inr ⟨_, rfl, rfl, hc, ho⟩, hz, fun q h _ => ho q h⟩) d_Ship_rule_41 d_Ship_rule_44 d_Ship_rule_45 d_Ship_rule_48
  · refine lv_iload_n hx hb d_Ship_rule_5 rfl (lv_at hl 2 rfl) ?_
    refine lv_bipush (v := 40) hx hb d_Ship_rule_6 (by decide) ?_
    refine lv_icmp_gt (tgt := 41) hx hb d_Ship_rule_8 (by decide) (fun h8 => ?_) (fun h8 => ?_)
    · exact tw_throw (X := "java/lang/IllegalArgumentException") (names := ["java/lang/RuntimeException", "java/lang/Exception"]) (ia := 61) (ic := 63) E hfl hno (by decide +kernel) (by decide +kernel) (oa_IAE hts hX) (hts _ wd_1030) (hts _ wd_15) hl.1 (by decide) (by decide) (by decide) (by decide) (fun t hc ho hz hw => ⟨Or.inr ⟨_, rfl, rfl, hc, ho⟩, hz, fun q h _ => ho q h⟩) d_Ship_rule_41 d_Ship_rule_44 d_Ship_rule_45 d_Ship_rule_48
    · refine lv_iload_n hx hb d_Ship_rule_11 rfl (lv_at hl 2 rfl) ?_
      refine lv_aload_n hx hb d_Ship_rule_12 rfl (lv_at hl 0 rfl) ?_
      refine va_get (D := g.1) (ci := 9) (v := .ref (q 0)) (C := R_Ship) (T := F_Ship) (N := 9) hx hb hts in_Ship hown hK hP 0 rfl rfl 0 (by decide) (hts _ wd_312) (fun _ h9 => h9) rfl d_Ship_rule_13 ?_
      refine va_getN (D := g.1) (ci := 2) (v := .int 0) (C := R_Image) (T := F_Image) (N := 2) hx hb hts in_Image hown hK hP 1 rfl rfl 1 (by decide) (hts _ wd_44) (fun _ h9 => h9) rfl d_Ship_rule_16 ?_
      refine lv_icmp_gt (tgt := 41) hx hb d_Ship_rule_19 (by decide) (fun h19 => ?_) (fun h19 => ?_)
      · exact tw_throw (X := "java/lang/IllegalArgumentException") (names := ["java/lang/RuntimeException", "java/lang/Exception"]) (ia := 61) (ic := 63) E hfl hno (by decide +kernel) (by decide +kernel) (oa_IAE hts hX) (hts _ wd_1030) (hts _ wd_15) hl.1 (by decide) (by decide) (by decide) (by decide) (fun t hc ho hz hw => ⟨Or.inr ⟨_, rfl, rfl, hc, ho⟩, hz, fun q h _ => ho q h⟩) d_Ship_rule_41 d_Ship_rule_44 d_Ship_rule_45 d_Ship_rule_48
      · exact (tn_01 h2 h19).elim
set_option maxHeartbeats 4000000 in
set_option maxRecDepth 100000 in
theorem c_Ship_count0 (l : Launch) (hfl : l.flags = flags0) (g : tw_G) (sz : Nat) (h0 : Nat) (q : Nat → Nat) (a0 : Int32) : tw_Met l y_Ship_count [.code y_Ship_count b_Ship_count 2 (some .int)] ({ frames := 6, cells := 1, slots := 6, locals := 81 }) (tw_P g [.ref h0, .int a0] [(h0, .inr (9, [.ref (q 0), .ref (q 1), .ref (q 2), .ref (q 3), .ref (q 4), .ref (q 5), .ref (q 6), .ref (q 7), .int 0]))] sz) (tw_QX g (fun _ _ => False) (fun u : Unit => []) (fun X => X = "java/lang/IllegalStateException") (va_A [(h0, .inr (9, [.ref (q 0), .ref (q 1), .ref (q 2), .ref (q 3), .ref (q 4), .ref (q 5), .ref (q 6), .ref (q 7), .int 0]))] sz)) 1 6 (va_A [(h0, .inr (9, [.ref (q 0), .ref (q 1), .ref (q 2), .ref (q 3), .ref (q 4), .ref (q 5), .ref (q 6), .ref (q 7), .int 0]))] sz) := by
  refine tw_metX (l := l) (g := g) (y := y_Ship_count) (cc := b_Ship_count) (maxL := 2) (ret := (some .int)) (rm := { frames := 6, cells := 1, slots := 6, locals := 81 }) (mc := 1) (ms := 6) (av := [.ref h0, .int a0]) (ws := [(h0, .inr (9, [.ref (q 0), .ref (q 1), .ref (q 2), .ref (q 3), .ref (q 4), .ref (q 5), .ref (q 6), .ref (q 7), .int 0]))]) (sz := sz) (Qc := fun A => (tw_QX g (fun _ _ => False) (fun u : Unit => []) (fun X => X = "java/lang/IllegalStateException") A)) (by decide) (Nat.le_of_ble_eq_true rfl) ?_
  intro p e s m below meth c ls A E hB hK hZ hP hD hS hA hl hno
  have hX := hZ.1
  obtain ⟨hx, hb, hml, hr, hown, hts, hlocks, hin⟩ := id E
  have hl : lv_has ls 2 [(0, .ref h0), (1, .int a0)] := hl
  refine lv_aload_n hx hb d_Ship_count_0 rfl (lv_at hl 0 rfl) ?_
  refine va_get (D := g.1) (ci := 9) (v := .int 0) (C := R_Ship) (T := F_Ship) (N := 9) hx hb hts in_Ship hown hK hP 0 rfl rfl 8 (by decide) (hts _ wd_320) (fun _ h9 => h9) rfl d_Ship_count_1 ?_
  refine lv_if_ne (tgt := 15) hx hb d_Ship_count_4 (by decide) (fun h4 => ?_) (fun h4 => ?_)
  · exact absurd rfl h4
  · exact tw_throw (X := "java/lang/IllegalStateException") (names := ["java/lang/RuntimeException", "java/lang/Exception"]) (ia := 68) (ic := 70) E hfl hno (by decide +kernel) (by decide +kernel) (oa_ISE hts hX) (hts _ wd_1093) (hts _ wd_16) hl.1 (by decide) (by decide) (by decide) (by decide) (fun t hc ho hz hw => ⟨Or.inr ⟨_, rfl, rfl, hc, ho⟩, hz, fun q h _ => ho q h⟩) d_Ship_count_7 d_Ship_count_10 d_Ship_count_11 d_Ship_count_14
set_option maxHeartbeats 4000000 in
set_option maxRecDepth 100000 in
theorem c_Ship_text0 (l : Launch) (hfl : l.flags = flags0) (g : tw_G) (sz : Nat) (h0 : Nat) (q : Nat → Nat) (a0 : Int32) (a1 : Int32) (a2 : Int32) : tw_Met l y_Ship_text [.code y_Ship_text b_Ship_text 4 (some .char)] ({ frames := 6, cells := 1, slots := 6, locals := 81 }) (tw_P g [.ref h0, .int a0, .int a1, .int a2] [(h0, .inr (9, [.ref (q 0), .ref (q 1), .ref (q 2), .ref (q 3), .ref (q 4), .ref (q 5), .ref (q 6), .ref (q 7), .int 0]))] sz) (tw_QX g (fun _ _ => False) (fun u : Unit => []) (fun X => X = "java/lang/IllegalStateException") (va_A [(h0, .inr (9, [.ref (q 0), .ref (q 1), .ref (q 2), .ref (q 3), .ref (q 4), .ref (q 5), .ref (q 6), .ref (q 7), .int 0]))] sz)) 1 6 (va_A [(h0, .inr (9, [.ref (q 0), .ref (q 1), .ref (q 2), .ref (q 3), .ref (q 4), .ref (q 5), .ref (q 6), .ref (q 7), .int 0]))] sz) := by
  refine tw_metX (l := l) (g := g) (y := y_Ship_text) (cc := b_Ship_text) (maxL := 4) (ret := (some .char)) (rm := { frames := 6, cells := 1, slots := 6, locals := 81 }) (mc := 1) (ms := 6) (av := [.ref h0, .int a0, .int a1, .int a2]) (ws := [(h0, .inr (9, [.ref (q 0), .ref (q 1), .ref (q 2), .ref (q 3), .ref (q 4), .ref (q 5), .ref (q 6), .ref (q 7), .int 0]))]) (sz := sz) (Qc := fun A => (tw_QX g (fun _ _ => False) (fun u : Unit => []) (fun X => X = "java/lang/IllegalStateException") A)) (by decide) (Nat.le_of_ble_eq_true rfl) ?_
  intro p e s m below meth c ls A E hB hK hZ hP hD hS hA hl hno
  have hX := hZ.1
  obtain ⟨hx, hb, hml, hr, hown, hts, hlocks, hin⟩ := id E
  have hl : lv_has ls 4 [(0, .ref h0), (1, .int a0), (2, .int a1), (3, .int a2)] := hl
  refine lv_aload_n hx hb d_Ship_text_0 rfl (lv_at hl 0 rfl) ?_
  refine va_get (D := g.1) (ci := 9) (v := .int 0) (C := R_Ship) (T := F_Ship) (N := 9) hx hb hts in_Ship hown hK hP 0 rfl rfl 8 (by decide) (hts _ wd_320) (fun _ h9 => h9) rfl d_Ship_text_1 ?_
  refine lv_if_ne (tgt := 15) hx hb d_Ship_text_4 (by decide) (fun h4 => ?_) (fun h4 => ?_)
  · exact absurd rfl h4
  · exact tw_throw (X := "java/lang/IllegalStateException") (names := ["java/lang/RuntimeException", "java/lang/Exception"]) (ia := 68) (ic := 70) E hfl hno (by decide +kernel) (by decide +kernel) (oa_ISE hts hX) (hts _ wd_1093) (hts _ wd_16) hl.1 (by decide) (by decide) (by decide) (by decide) (fun t hc ho hz hw => ⟨Or.inr ⟨_, rfl, rfl, hc, ho⟩, hz, fun q h _ => ho q h⟩) d_Ship_text_7 d_Ship_text_10 d_Ship_text_11 d_Ship_text_14
set_option maxHeartbeats 4000000 in
set_option maxRecDepth 100000 in
theorem c_Ship_depth0 (l : Launch) (hfl : l.flags = flags0) (g : tw_G) (sz : Nat) (h0 : Nat) (q : Nat → Nat) (a0 : Int32) (a1 : Int32) : tw_Met l y_Ship_depth [.code y_Ship_depth b_Ship_depth 3 (some .int)] ({ frames := 6, cells := 1, slots := 6, locals := 81 }) (tw_P g [.ref h0, .int a0, .int a1] [(h0, .inr (9, [.ref (q 0), .ref (q 1), .ref (q 2), .ref (q 3), .ref (q 4), .ref (q 5), .ref (q 6), .ref (q 7), .int 0]))] sz) (tw_QX g (fun _ _ => False) (fun u : Unit => []) (fun X => X = "java/lang/IllegalStateException") (va_A [(h0, .inr (9, [.ref (q 0), .ref (q 1), .ref (q 2), .ref (q 3), .ref (q 4), .ref (q 5), .ref (q 6), .ref (q 7), .int 0]))] sz)) 1 6 (va_A [(h0, .inr (9, [.ref (q 0), .ref (q 1), .ref (q 2), .ref (q 3), .ref (q 4), .ref (q 5), .ref (q 6), .ref (q 7), .int 0]))] sz) := by
  refine tw_metX (l := l) (g := g) (y := y_Ship_depth) (cc := b_Ship_depth) (maxL := 3) (ret := (some .int)) (rm := { frames := 6, cells := 1, slots := 6, locals := 81 }) (mc := 1) (ms := 6) (av := [.ref h0, .int a0, .int a1]) (ws := [(h0, .inr (9, [.ref (q 0), .ref (q 1), .ref (q 2), .ref (q 3), .ref (q 4), .ref (q 5), .ref (q 6), .ref (q 7), .int 0]))]) (sz := sz) (Qc := fun A => (tw_QX g (fun _ _ => False) (fun u : Unit => []) (fun X => X = "java/lang/IllegalStateException") A)) (by decide) (Nat.le_of_ble_eq_true rfl) ?_
  intro p e s m below meth c ls A E hB hK hZ hP hD hS hA hl hno
  have hX := hZ.1
  obtain ⟨hx, hb, hml, hr, hown, hts, hlocks, hin⟩ := id E
  have hl : lv_has ls 3 [(0, .ref h0), (1, .int a0), (2, .int a1)] := hl
  refine lv_aload_n hx hb d_Ship_depth_0 rfl (lv_at hl 0 rfl) ?_
  refine va_get (D := g.1) (ci := 9) (v := .int 0) (C := R_Ship) (T := F_Ship) (N := 9) hx hb hts in_Ship hown hK hP 0 rfl rfl 8 (by decide) (hts _ wd_320) (fun _ h9 => h9) rfl d_Ship_depth_1 ?_
  refine lv_if_ne (tgt := 15) hx hb d_Ship_depth_4 (by decide) (fun h4 => ?_) (fun h4 => ?_)
  · exact absurd rfl h4
  · exact tw_throw (X := "java/lang/IllegalStateException") (names := ["java/lang/RuntimeException", "java/lang/Exception"]) (ia := 68) (ic := 70) E hfl hno (by decide +kernel) (by decide +kernel) (oa_ISE hts hX) (hts _ wd_1093) (hts _ wd_16) hl.1 (by decide) (by decide) (by decide) (by decide) (fun t hc ho hz hw => ⟨Or.inr ⟨_, rfl, rfl, hc, ho⟩, hz, fun q h _ => ho q h⟩) d_Ship_depth_7 d_Ship_depth_10 d_Ship_depth_11 d_Ship_depth_14
set_option maxHeartbeats 4000000 in
set_option maxRecDepth 100000 in
theorem c_Ship_kind0 (l : Launch) (hfl : l.flags = flags0) (g : tw_G) (sz : Nat) (h0 : Nat) (q : Nat → Nat) (a0 : Int32) (a1 : Int32) (a2 : Int32) (a3 : Int32) : tw_Met l y_Ship_kind [.code y_Ship_kind b_Ship_kind 8 (some .int)] ({ frames := 6, cells := 1, slots := 6, locals := 81 }) (tw_P g [.ref h0, .int a0, .int a1, .int a2, .int a3] [(h0, .inr (9, [.ref (q 0), .ref (q 1), .ref (q 2), .ref (q 3), .ref (q 4), .ref (q 5), .ref (q 6), .ref (q 7), .int 0]))] sz) (tw_QX g (fun _ _ => False) (fun u : Unit => []) (fun X => X = "java/lang/IllegalStateException") (va_A [(h0, .inr (9, [.ref (q 0), .ref (q 1), .ref (q 2), .ref (q 3), .ref (q 4), .ref (q 5), .ref (q 6), .ref (q 7), .int 0]))] sz)) 1 6 (va_A [(h0, .inr (9, [.ref (q 0), .ref (q 1), .ref (q 2), .ref (q 3), .ref (q 4), .ref (q 5), .ref (q 6), .ref (q 7), .int 0]))] sz) := by
  refine tw_metX (l := l) (g := g) (y := y_Ship_kind) (cc := b_Ship_kind) (maxL := 8) (ret := (some .int)) (rm := { frames := 6, cells := 1, slots := 6, locals := 81 }) (mc := 1) (ms := 6) (av := [.ref h0, .int a0, .int a1, .int a2, .int a3]) (ws := [(h0, .inr (9, [.ref (q 0), .ref (q 1), .ref (q 2), .ref (q 3), .ref (q 4), .ref (q 5), .ref (q 6), .ref (q 7), .int 0]))]) (sz := sz) (Qc := fun A => (tw_QX g (fun _ _ => False) (fun u : Unit => []) (fun X => X = "java/lang/IllegalStateException") A)) (by decide) (Nat.le_of_ble_eq_true rfl) ?_
  intro p e s m below meth c ls A E hB hK hZ hP hD hS hA hl hno
  have hX := hZ.1
  obtain ⟨hx, hb, hml, hr, hown, hts, hlocks, hin⟩ := id E
  have hl : lv_has ls 8 [(0, .ref h0), (1, .int a0), (2, .int a1), (3, .int a2), (4, .int a3)] := hl
  refine lv_aload_n hx hb d_Ship_kind_0 rfl (lv_at hl 0 rfl) ?_
  refine va_get (D := g.1) (ci := 9) (v := .int 0) (C := R_Ship) (T := F_Ship) (N := 9) hx hb hts in_Ship hown hK hP 0 rfl rfl 8 (by decide) (hts _ wd_320) (fun _ h9 => h9) rfl d_Ship_kind_1 ?_
  refine lv_if_ne (tgt := 15) hx hb d_Ship_kind_4 (by decide) (fun h4 => ?_) (fun h4 => ?_)
  · exact absurd rfl h4
  · exact tw_throw (X := "java/lang/IllegalStateException") (names := ["java/lang/RuntimeException", "java/lang/Exception"]) (ia := 68) (ic := 70) E hfl hno (by decide +kernel) (by decide +kernel) (oa_ISE hts hX) (hts _ wd_1093) (hts _ wd_16) hl.1 (by decide) (by decide) (by decide) (by decide) (fun t hc ho hz hw => ⟨Or.inr ⟨_, rfl, rfl, hc, ho⟩, hz, fun q h _ => ho q h⟩) d_Ship_kind_7 d_Ship_kind_10 d_Ship_kind_11 d_Ship_kind_14
end
section
theorem d_Arrays_fill_aBBV_0 : decode b_Arrays_fill_aBBV 0 = .ok (.iconst 0, 1) := by decide +kernel
theorem d_Arrays_fill_aBBV_1 : decode b_Arrays_fill_aBBV 1 = .ok (.istore_n 2, 1) := by decide +kernel
theorem d_Arrays_fill_aBBV_2 : decode b_Arrays_fill_aBBV 2 = .ok (.aload_n 0, 1) := by decide +kernel
theorem d_Arrays_fill_aBBV_3 : decode b_Arrays_fill_aBBV 3 = .ok (.arraylength, 1) := by decide +kernel
theorem d_Arrays_fill_aBBV_4 : decode b_Arrays_fill_aBBV 4 = .ok (.istore_n 3, 1) := by decide +kernel
theorem d_Arrays_fill_aBBV_5 : decode b_Arrays_fill_aBBV 5 = .ok (.iload_n 2, 1) := by decide +kernel
theorem d_Arrays_fill_aBBV_6 : decode b_Arrays_fill_aBBV 6 = .ok (.iload_n 3, 1) := by decide +kernel
theorem d_Arrays_fill_aBBV_7 : decode b_Arrays_fill_aBBV 7 = .ok (.if_icmp .ge 13, 3) := by decide +kernel
theorem d_Arrays_fill_aBBV_10 : decode b_Arrays_fill_aBBV 10 = .ok (.aload_n 0, 1) := by decide +kernel
theorem d_Arrays_fill_aBBV_11 : decode b_Arrays_fill_aBBV 11 = .ok (.iload_n 2, 1) := by decide +kernel
theorem d_Arrays_fill_aBBV_12 : decode b_Arrays_fill_aBBV 12 = .ok (.iload_n 1, 1) := by decide +kernel
theorem d_Arrays_fill_aBBV_13 : decode b_Arrays_fill_aBBV 13 = .ok (.bastore, 1) := by decide +kernel
theorem d_Arrays_fill_aBBV_14 : decode b_Arrays_fill_aBBV 14 = .ok (.iinc 2 1, 3) := by decide +kernel
theorem d_Arrays_fill_aBBV_17 : decode b_Arrays_fill_aBBV 17 = .ok (.goto (-12), 3) := by decide +kernel
theorem d_Arrays_fill_aBBV_20 : decode b_Arrays_fill_aBBV 20 = .ok (.return_, 1) := by decide +kernel
theorem d_Arrays_fill_aIIV_0 : decode b_Arrays_fill_aIIV 0 = .ok (.iconst 0, 1) := by decide +kernel
theorem d_Arrays_fill_aIIV_1 : decode b_Arrays_fill_aIIV 1 = .ok (.istore_n 2, 1) := by decide +kernel
theorem d_Arrays_fill_aIIV_2 : decode b_Arrays_fill_aIIV 2 = .ok (.aload_n 0, 1) := by decide +kernel
theorem d_Arrays_fill_aIIV_3 : decode b_Arrays_fill_aIIV 3 = .ok (.arraylength, 1) := by decide +kernel
theorem d_Arrays_fill_aIIV_4 : decode b_Arrays_fill_aIIV 4 = .ok (.istore_n 3, 1) := by decide +kernel
theorem d_Arrays_fill_aIIV_5 : decode b_Arrays_fill_aIIV 5 = .ok (.iload_n 2, 1) := by decide +kernel
theorem d_Arrays_fill_aIIV_6 : decode b_Arrays_fill_aIIV 6 = .ok (.iload_n 3, 1) := by decide +kernel
theorem d_Arrays_fill_aIIV_7 : decode b_Arrays_fill_aIIV 7 = .ok (.if_icmp .ge 13, 3) := by decide +kernel
theorem d_Arrays_fill_aIIV_10 : decode b_Arrays_fill_aIIV 10 = .ok (.aload_n 0, 1) := by decide +kernel
theorem d_Arrays_fill_aIIV_11 : decode b_Arrays_fill_aIIV 11 = .ok (.iload_n 2, 1) := by decide +kernel
theorem d_Arrays_fill_aIIV_12 : decode b_Arrays_fill_aIIV 12 = .ok (.iload_n 1, 1) := by decide +kernel
theorem d_Arrays_fill_aIIV_13 : decode b_Arrays_fill_aIIV 13 = .ok (.iastore, 1) := by decide +kernel
theorem d_Arrays_fill_aIIV_14 : decode b_Arrays_fill_aIIV 14 = .ok (.iinc 2 1, 3) := by decide +kernel
theorem d_Arrays_fill_aIIV_17 : decode b_Arrays_fill_aIIV 17 = .ok (.goto (-12), 3) := by decide +kernel
theorem d_Arrays_fill_aIIV_20 : decode b_Arrays_fill_aIIV 20 = .ok (.return_, 1) := by decide +kernel
theorem d_Finding_clear_0 : decode b_Finding_clear 0 = .ok (.aload_n 0, 1) := by decide +kernel
theorem d_Finding_clear_1 : decode b_Finding_clear 1 = .ok (.iconst 0, 1) := by decide +kernel
theorem d_Finding_clear_2 : decode b_Finding_clear 2 = .ok (.putfield 15, 3) := by decide +kernel
theorem d_Finding_clear_5 : decode b_Finding_clear 5 = .ok (.aload_n 0, 1) := by decide +kernel
theorem d_Finding_clear_6 : decode b_Finding_clear 6 = .ok (.iconst (-1), 1) := by decide +kernel
theorem d_Finding_clear_7 : decode b_Finding_clear 7 = .ok (.putfield 9, 3) := by decide +kernel
theorem d_Finding_clear_10 : decode b_Finding_clear 10 = .ok (.return_, 1) := by decide +kernel
theorem d_Finding_tell_0 : decode b_Finding_tell 0 = .ok (.aload_n 0, 1) := by decide +kernel
theorem d_Finding_tell_1 : decode b_Finding_tell 1 = .ok (.iload_n 1, 1) := by decide +kernel
theorem d_Finding_tell_2 : decode b_Finding_tell 2 = .ok (.putfield 15, 3) := by decide +kernel
theorem d_Finding_tell_5 : decode b_Finding_tell 5 = .ok (.aload_n 0, 1) := by decide +kernel
theorem d_Finding_tell_6 : decode b_Finding_tell 6 = .ok (.iload_n 2, 1) := by decide +kernel
theorem d_Finding_tell_7 : decode b_Finding_tell 7 = .ok (.putfield 9, 3) := by decide +kernel
theorem d_Finding_tell_10 : decode b_Finding_tell 10 = .ok (.iconst 0, 1) := by decide +kernel
theorem d_Finding_tell_11 : decode b_Finding_tell 11 = .ok (.ireturn, 1) := by decide +kernel
theorem d_Frames_clear_0 : decode b_Frames_clear 0 = .ok (.aload_n 0, 1) := by decide +kernel
theorem d_Frames_clear_1 : decode b_Frames_clear 1 = .ok (.sipush 600, 3) := by decide +kernel
theorem d_Frames_clear_4 : decode b_Frames_clear 4 = .ok (.putfield 25, 3) := by decide +kernel
theorem d_Frames_clear_7 : decode b_Frames_clear 7 = .ok (.aload_n 0, 1) := by decide +kernel
theorem d_Frames_clear_8 : decode b_Frames_clear 8 = .ok (.getfield 15, 3) := by decide +kernel
theorem d_Frames_clear_11 : decode b_Frames_clear 11 = .ok (.iconst 0, 1) := by decide +kernel
theorem d_Frames_clear_12 : decode b_Frames_clear 12 = .ok (.invokestatic 29, 3) := by decide +kernel
theorem d_Frames_clear_15 : decode b_Frames_clear 15 = .ok (.aload_n 0, 1) := by decide +kernel
theorem d_Frames_clear_16 : decode b_Frames_clear 16 = .ok (.getfield 19, 3) := by decide +kernel
theorem d_Frames_clear_19 : decode b_Frames_clear 19 = .ok (.iconst 0, 1) := by decide +kernel
theorem d_Frames_clear_20 : decode b_Frames_clear 20 = .ok (.invokestatic 29, 3) := by decide +kernel
theorem d_Frames_clear_23 : decode b_Frames_clear 23 = .ok (.aload_n 0, 1) := by decide +kernel
theorem d_Frames_clear_24 : decode b_Frames_clear 24 = .ok (.getfield 22, 3) := by decide +kernel
theorem d_Frames_clear_27 : decode b_Frames_clear 27 = .ok (.iconst (-1), 1) := by decide +kernel
theorem d_Frames_clear_28 : decode b_Frames_clear 28 = .ok (.invokestatic 29, 3) := by decide +kernel
theorem d_Frames_clear_31 : decode b_Frames_clear 31 = .ok (.return_, 1) := by decide +kernel
theorem d_Image_copyFrom_0 : decode b_Image_copyFrom 0 = .ok (.aload_n 1, 1) := by decide +kernel
theorem d_Image_copyFrom_1 : decode b_Image_copyFrom 1 = .ok (.getfield 9, 3) := by decide +kernel
theorem d_Image_copyFrom_4 : decode b_Image_copyFrom 4 = .ok (.iconst 0, 1) := by decide +kernel
theorem d_Image_copyFrom_5 : decode b_Image_copyFrom 5 = .ok (.aload_n 0, 1) := by decide +kernel
theorem d_Image_copyFrom_6 : decode b_Image_copyFrom 6 = .ok (.getfield 9, 3) := by decide +kernel
theorem d_Image_copyFrom_9 : decode b_Image_copyFrom 9 = .ok (.iconst 0, 1) := by decide +kernel
theorem d_Image_copyFrom_10 : decode b_Image_copyFrom 10 = .ok (.sipush 600, 3) := by decide +kernel
theorem d_Image_copyFrom_13 : decode b_Image_copyFrom 13 = .ok (.invokestatic 19, 3) := by decide +kernel
theorem d_Image_copyFrom_16 : decode b_Image_copyFrom 16 = .ok (.aload_n 0, 1) := by decide +kernel
theorem d_Image_copyFrom_17 : decode b_Image_copyFrom 17 = .ok (.aload_n 1, 1) := by decide +kernel
theorem d_Image_copyFrom_18 : decode b_Image_copyFrom 18 = .ok (.getfield 15, 3) := by decide +kernel
theorem d_Image_copyFrom_21 : decode b_Image_copyFrom 21 = .ok (.putfield 15, 3) := by decide +kernel
theorem d_Image_copyFrom_24 : decode b_Image_copyFrom 24 = .ok (.return_, 1) := by decide +kernel
theorem d_Image_holds_0 : decode b_Image_holds 0 = .ok (.iload_n 1, 1) := by decide +kernel
theorem d_Image_holds_1 : decode b_Image_holds 1 = .ok (.ifCond .lt 25, 3) := by decide +kernel
theorem d_Image_holds_4 : decode b_Image_holds 4 = .ok (.lload_n 2, 1) := by decide +kernel
theorem d_Image_holds_5 : decode b_Image_holds 5 = .ok (.lconst 0, 1) := by decide +kernel
theorem d_Image_holds_6 : decode b_Image_holds 6 = .ok (.lcmp, 1) := by decide +kernel
theorem d_Image_holds_7 : decode b_Image_holds 7 = .ok (.ifCond .lt 19, 3) := by decide +kernel
theorem d_Image_holds_10 : decode b_Image_holds 10 = .ok (.lload_n 2, 1) := by decide +kernel
theorem d_Image_holds_11 : decode b_Image_holds 11 = .ok (.aload_n 0, 1) := by decide +kernel
theorem d_Image_holds_12 : decode b_Image_holds 12 = .ok (.getfield 15, 3) := by decide +kernel
theorem d_Image_holds_15 : decode b_Image_holds 15 = .ok (.iload_n 1, 1) := by decide +kernel
theorem d_Image_holds_16 : decode b_Image_holds 16 = .ok (.isub, 1) := by decide +kernel
theorem d_Image_holds_17 : decode b_Image_holds 17 = .ok (.i2l, 1) := by decide +kernel
theorem d_Image_holds_18 : decode b_Image_holds 18 = .ok (.lcmp, 1) := by decide +kernel
theorem d_Image_holds_19 : decode b_Image_holds 19 = .ok (.ifCond .gt 7, 3) := by decide +kernel
theorem d_Image_holds_22 : decode b_Image_holds 22 = .ok (.iconst 1, 1) := by decide +kernel
theorem d_Image_holds_23 : decode b_Image_holds 23 = .ok (.goto 4, 3) := by decide +kernel
theorem d_Image_holds_26 : decode b_Image_holds 26 = .ok (.iconst 0, 1) := by decide +kernel
theorem d_Image_holds_27 : decode b_Image_holds 27 = .ok (.ireturn, 1) := by decide +kernel
theorem d_Layout_begin_0 : decode b_Layout_begin 0 = .ok (.aload_n 0, 1) := by decide +kernel
theorem d_Layout_begin_1 : decode b_Layout_begin 1 = .ok (.getfield 12, 3) := by decide +kernel
theorem d_Layout_begin_4 : decode b_Layout_begin 4 = .ok (.aload_n 1, 1) := by decide +kernel
theorem d_Layout_begin_5 : decode b_Layout_begin 5 = .ok (.invokevirtual 47, 3) := by decide +kernel
theorem d_Layout_begin_8 : decode b_Layout_begin 8 = .ok (.aload_n 0, 1) := by decide +kernel
theorem d_Layout_begin_9 : decode b_Layout_begin 9 = .ok (.getfield 21, 3) := by decide +kernel
theorem d_Layout_begin_12 : decode b_Layout_begin 12 = .ok (.invokevirtual 51, 3) := by decide +kernel
theorem d_Layout_begin_15 : decode b_Layout_begin 15 = .ok (.aload_n 0, 1) := by decide +kernel
theorem d_Layout_begin_16 : decode b_Layout_begin 16 = .ok (.getfield 25, 3) := by decide +kernel
theorem d_Layout_begin_19 : decode b_Layout_begin 19 = .ok (.iconst 0, 1) := by decide +kernel
theorem d_Layout_begin_20 : decode b_Layout_begin 20 = .ok (.invokestatic 54, 3) := by decide +kernel
theorem d_Layout_begin_23 : decode b_Layout_begin 23 = .ok (.aload_n 0, 1) := by decide +kernel
theorem d_Layout_begin_24 : decode b_Layout_begin 24 = .ok (.getfield 44, 3) := by decide +kernel
theorem d_Layout_begin_27 : decode b_Layout_begin 27 = .ok (.iconst 0, 1) := by decide +kernel
theorem d_Layout_begin_28 : decode b_Layout_begin 28 = .ok (.invokestatic 54, 3) := by decide +kernel
theorem d_Layout_begin_31 : decode b_Layout_begin 31 = .ok (.aload_n 0, 1) := by decide +kernel
theorem d_Layout_begin_32 : decode b_Layout_begin 32 = .ok (.iconst 0, 1) := by decide +kernel
theorem d_Layout_begin_33 : decode b_Layout_begin 33 = .ok (.putfield 60, 3) := by decide +kernel
theorem d_Layout_begin_36 : decode b_Layout_begin 36 = .ok (.aload_n 0, 1) := by decide +kernel
theorem d_Layout_begin_37 : decode b_Layout_begin 37 = .ok (.iconst 0, 1) := by decide +kernel
theorem d_Layout_begin_38 : decode b_Layout_begin 38 = .ok (.putfield 64, 3) := by decide +kernel
theorem d_Layout_begin_41 : decode b_Layout_begin 41 = .ok (.aload_n 0, 1) := by decide +kernel
theorem d_Layout_begin_42 : decode b_Layout_begin 42 = .ok (.iconst 0, 1) := by decide +kernel
theorem d_Layout_begin_43 : decode b_Layout_begin 43 = .ok (.putfield 67, 3) := by decide +kernel
theorem d_Layout_begin_46 : decode b_Layout_begin 46 = .ok (.aload_n 0, 1) := by decide +kernel
theorem d_Layout_begin_47 : decode b_Layout_begin 47 = .ok (.iconst 0, 1) := by decide +kernel
theorem d_Layout_begin_48 : decode b_Layout_begin 48 = .ok (.putfield 70, 3) := by decide +kernel
theorem d_Layout_begin_51 : decode b_Layout_begin 51 = .ok (.return_, 1) := by decide +kernel
theorem d_Reader_passes_0 : decode b_Reader_passes 0 = .ok (.aload_n 0, 1) := by decide +kernel
theorem d_Reader_passes_1 : decode b_Reader_passes 1 = .ok (.getfield 21, 3) := by decide +kernel
theorem d_Reader_passes_4 : decode b_Reader_passes 4 = .ok (.aload_n 0, 1) := by decide +kernel
theorem d_Reader_passes_5 : decode b_Reader_passes 5 = .ok (.getfield 26, 3) := by decide +kernel
theorem d_Reader_passes_8 : decode b_Reader_passes 8 = .ok (.lload_n 1, 1) := by decide +kernel
theorem d_Reader_passes_9 : decode b_Reader_passes 9 = .ok (.invokevirtual 59, 3) := by decide +kernel
theorem d_Reader_passes_12 : decode b_Reader_passes 12 = .ok (.ifCond .ne 16, 3) := by decide +kernel
theorem d_Reader_passes_15 : decode b_Reader_passes 15 = .ok (.aload_n 0, 1) := by decide +kernel
theorem d_Reader_passes_16 : decode b_Reader_passes 16 = .ok (.getfield 22, 3) := by decide +kernel
theorem d_Reader_passes_19 : decode b_Reader_passes 19 = .ok (.iconst 1, 1) := by decide +kernel
theorem d_Reader_passes_20 : decode b_Reader_passes 20 = .ok (.aload_n 0, 1) := by decide +kernel
theorem d_Reader_passes_21 : decode b_Reader_passes 21 = .ok (.getfield 26, 3) := by decide +kernel
theorem d_Reader_passes_24 : decode b_Reader_passes 24 = .ok (.invokevirtual 53, 3) := by decide +kernel
theorem d_Reader_passes_27 : decode b_Reader_passes 27 = .ok (.ireturn, 1) := by decide +kernel
theorem d_Reader_passes_28 : decode b_Reader_passes 28 = .ok (.aload_n 0, 1) := by decide +kernel
theorem d_Reader_passes_29 : decode b_Reader_passes 29 = .ok (.dup, 1) := by decide +kernel
theorem d_Reader_passes_30 : decode b_Reader_passes 30 = .ok (.getfield 26, 3) := by decide +kernel
theorem d_Reader_passes_33 : decode b_Reader_passes 33 = .ok (.lload_n 1, 1) := by decide +kernel
theorem d_Reader_passes_34 : decode b_Reader_passes 34 = .ok (.l2i, 1) := by decide +kernel
theorem d_Reader_passes_35 : decode b_Reader_passes 35 = .ok (.iadd, 1) := by decide +kernel
theorem d_Reader_passes_36 : decode b_Reader_passes 36 = .ok (.putfield 26, 3) := by decide +kernel
theorem d_Reader_passes_39 : decode b_Reader_passes 39 = .ok (.iconst 1, 1) := by decide +kernel
theorem d_Reader_passes_40 : decode b_Reader_passes 40 = .ok (.ireturn, 1) := by decide +kernel
theorem d_Reader_readHead_0 : decode b_Reader_readHead 0 = .ok (.aload_n 0, 1) := by decide +kernel
theorem d_Reader_readHead_1 : decode b_Reader_readHead 1 = .ok (.ldc2_w 67, 3) := by decide +kernel
theorem d_Reader_readHead_4 : decode b_Reader_readHead 4 = .ok (.invokevirtual 63, 3) := by decide +kernel
theorem d_Reader_readHead_7 : decode b_Reader_readHead 7 = .ok (.ifCond .ne 5, 3) := by decide +kernel
theorem d_Reader_readHead_10 : decode b_Reader_readHead 10 = .ok (.iconst 0, 1) := by decide +kernel
theorem d_Reader_readHead_11 : decode b_Reader_readHead 11 = .ok (.ireturn, 1) := by decide +kernel
theorem d_Reader_reads_0 : decode b_Reader_reads 0 = .ok (.aload_n 0, 1) := by decide +kernel
theorem d_Reader_reads_1 : decode b_Reader_reads 1 = .ok (.aload_n 1, 1) := by decide +kernel
theorem d_Reader_reads_2 : decode b_Reader_reads 2 = .ok (.putfield 9, 3) := by decide +kernel
theorem d_Reader_reads_5 : decode b_Reader_reads 5 = .ok (.aload_n 0, 1) := by decide +kernel
theorem d_Reader_reads_6 : decode b_Reader_reads 6 = .ok (.aload_n 1, 1) := by decide +kernel
theorem d_Reader_reads_7 : decode b_Reader_reads 7 = .ok (.getfield 15, 3) := by decide +kernel
theorem d_Reader_reads_10 : decode b_Reader_reads 10 = .ok (.putfield 21, 3) := by decide +kernel
theorem d_Reader_reads_13 : decode b_Reader_reads 13 = .ok (.aload_n 0, 1) := by decide +kernel
theorem d_Reader_reads_14 : decode b_Reader_reads 14 = .ok (.aload_n 2, 1) := by decide +kernel
theorem d_Reader_reads_15 : decode b_Reader_reads 15 = .ok (.putfield 22, 3) := by decide +kernel
theorem d_Reader_reads_18 : decode b_Reader_reads 18 = .ok (.aload_n 0, 1) := by decide +kernel
theorem d_Reader_reads_19 : decode b_Reader_reads 19 = .ok (.iconst 0, 1) := by decide +kernel
theorem d_Reader_reads_20 : decode b_Reader_reads 20 = .ok (.putfield 26, 3) := by decide +kernel
theorem d_Reader_reads_23 : decode b_Reader_reads 23 = .ok (.aload_n 0, 1) := by decide +kernel
theorem d_Reader_reads_24 : decode b_Reader_reads 24 = .ok (.invokevirtual 30, 3) := by decide +kernel
theorem d_Reader_reads_27 : decode b_Reader_reads 27 = .ok (.ifCond .eq 33, 3) := by decide +kernel
theorem d_Reader_reads_60 : decode b_Reader_reads 60 = .ok (.iconst 0, 1) := by decide +kernel
theorem d_Reader_reads_61 : decode b_Reader_reads 61 = .ok (.ireturn, 1) := by decide +kernel
theorem d_Ship_audit_0 : decode b_Ship_audit 0 = .ok (.aload_n 0, 1) := by decide +kernel
theorem d_Ship_audit_1 : decode b_Ship_audit 1 = .ok (.getfield 54, 3) := by decide +kernel
theorem d_Ship_audit_4 : decode b_Ship_audit 4 = .ok (.aload_n 0, 1) := by decide +kernel
theorem d_Ship_audit_5 : decode b_Ship_audit 5 = .ok (.getfield 10, 3) := by decide +kernel
theorem d_Ship_audit_8 : decode b_Ship_audit 8 = .ok (.invokevirtual 107, 3) := by decide +kernel
theorem d_Ship_audit_11 : decode b_Ship_audit 11 = .ok (.aload_n 0, 1) := by decide +kernel
theorem d_Ship_audit_12 : decode b_Ship_audit 12 = .ok (.getfield 19, 3) := by decide +kernel
theorem d_Ship_audit_15 : decode b_Ship_audit 15 = .ok (.invokevirtual 111, 3) := by decide +kernel
theorem d_Ship_audit_18 : decode b_Ship_audit 18 = .ok (.aload_n 0, 1) := by decide +kernel
theorem d_Ship_audit_19 : decode b_Ship_audit 19 = .ok (.getfield 33, 3) := by decide +kernel
theorem d_Ship_audit_22 : decode b_Ship_audit 22 = .ok (.aload_n 0, 1) := by decide +kernel
theorem d_Ship_audit_23 : decode b_Ship_audit 23 = .ok (.getfield 54, 3) := by decide +kernel
theorem d_Ship_audit_26 : decode b_Ship_audit 26 = .ok (.aload_n 0, 1) := by decide +kernel
theorem d_Ship_audit_27 : decode b_Ship_audit 27 = .ok (.getfield 19, 3) := by decide +kernel
theorem d_Ship_audit_30 : decode b_Ship_audit 30 = .ok (.invokevirtual 114, 3) := by decide +kernel
theorem d_Ship_audit_33 : decode b_Ship_audit 33 = .ok (.ifCond .eq 80, 3) := by decide +kernel
theorem d_Ship_audit_113 : decode b_Ship_audit 113 = .ok (.aload_n 0, 1) := by decide +kernel
theorem d_Ship_audit_114 : decode b_Ship_audit 114 = .ok (.getfield 19, 3) := by decide +kernel
theorem d_Ship_audit_117 : decode b_Ship_audit 117 = .ok (.getfield 131, 3) := by decide +kernel
theorem d_Ship_audit_120 : decode b_Ship_audit 120 = .ok (.ireturn, 1) := by decide +kernel
end
section
set_option maxHeartbeats 4000000 in
set_option maxRecDepth 100000 in
theorem c_fillB (l : Launch) (g : tw_G) (sz : Nat) (a N : Nat) (f : Nat → Int32) (v : Int32) (hN : N < 2 ^ 31) (hv : v.toInt8.toInt32 = v) : Met l y_Arrays_fill_aBBV [.code y_Arrays_fill_aBBV b_Arrays_fill_aBBV 4 none] ({ frames := 0, cells := 0, slots := 0, locals := 0 }) (tw_P g [.ref a, .int v] [(a, aB g N f)] sz) (tw_Qv g (fun _ => True) (fun u : Unit => [(a, aB g N (fun _ => v))]) (va_A [(a, aB g N f)] sz)) 0 0 (va_A [(a, aB g N f)] sz) := by
  refine tw_metW (l := l) (g := g) (y := y_Arrays_fill_aBBV) (cc := b_Arrays_fill_aBBV) (maxL := 4) (ret := none) (rm := { frames := 0, cells := 0, slots := 0, locals := 0 }) (mc := 0) (ms := 0) (av := [.ref a, .int v]) (ws := [(a, aB g N f)]) (sz := sz) (Qc := fun A => (tw_Qv g (fun _ => True) (fun u : Unit => [(a, aB g N (fun _ => v))]) A)) (by decide) (Nat.le_of_ble_eq_true rfl) ?_
  intro p e s m below meth c ls H A E hB hK hZ hP hD hS hA hl
  obtain ⟨hx, hb, hml, hr, hown, hts, hlocks, hin⟩ := id E
  have hl : lv_has ls 4 [(0, .ref a), (1, .int v)] := hl
  refine lv_iconst (v := 0) hx hb d_Arrays_fill_aBBV_0 (by decide) ?_
  refine lv_istore_n hx hb d_Arrays_fill_aBBV_1 rfl hl (by decide) rfl (fun ls hl => ?_)
  have hl : lv_has ls 4 [(2, .int 0), (0, .ref a), (1, .int v)] := hl
  refine lv_aload_n hx hb d_Arrays_fill_aBBV_2 rfl (lv_at hl 1 rfl) ?_
  refine va_alen (v := nI N) hx hb hK hP 0 1 rfl rfl rfl d_Arrays_fill_aBBV_3 ?_
  refine lv_istore_n hx hb d_Arrays_fill_aBBV_4 rfl hl (by decide) rfl (fun ls hl => ?_)
  have hl : lv_has ls 4 [(3, .int (nI N)), (2, .int 0), (0, .ref a), (1, .int v)] := hl
  have loop5 : ∀ (k : Nat) (i : Nat) (ls : Array Slot) (H : Heap) (locs : List Loc) , N - i = k → (hi : i ≤ N) → lv_has ls 4 [(2, .int (nI i)), (3, .int (nI N)), (0, .ref a), (1, .int v)] → va_P g.1 classes [(a, aB g N (fl_f f v i))] H → va_D A [(a, aB g N (fl_f f v i))] → va_S A s.heap H locs → W p l e ({ frames := 0, cells := 0, slots := 0, locals := 0 }) s m [.ref a, .int v].toArray below meth c H locs 0 0 (MQ below (tw_Qv g (fun _ => True) (fun u : Unit => [(a, aB g N (fun _ => v))]) A) [.ref a, .int v].toArray s 0 0 A) (F0 m 5 ls []) := by
    intro k
    induction k using Nat.strongRecOn with
    | _ k ih =>
      intro i ls H locs hk hi hl hP hD hS
      refine lv_iload_n hx hb d_Arrays_fill_aBBV_5 rfl (lv_at hl 0 rfl) ?_
      refine lv_iload_n hx hb d_Arrays_fill_aBBV_6 rfl (lv_at hl 1 rfl) ?_
      refine lv_icmp_ge (tgt := 20) hx hb d_Arrays_fill_aBBV_7 (by decide) (fun h7 => ?_) (fun h7 => ?_)
      · have h7 := tn_le h7 (by omega) (by omega)
        obtain rfl : i = N := by omega
        exact tw_vret E hS () trivial (tw_Pext hP 0 rfl fl_fN) (hD.set (p := 0) rfl) d_Arrays_fill_aBBV_20
      · have h7 := tn_nle h7 (by omega) (by omega)
        refine lv_aload_n hx hb d_Arrays_fill_aBBV_10 rfl (lv_at hl 2 rfl) ?_
        refine lv_iload_n hx hb d_Arrays_fill_aBBV_11 rfl (lv_at hl 0 rfl) ?_
        refine lv_iload_n hx hb d_Arrays_fill_aBBV_12 rfl (lv_at hl 3 rfl) ?_
        refine va_bast hx hb hK hP hD hS 0 1 rfl rfl (vp_in_nI h7 hN) d_Arrays_fill_aBBV_13 (fun H locs hP hD hS => ?_)
        have hP : va_P g.1 classes [(a, aB g N (upd (fl_f f v i) (nI i).toNatClampNeg (vp_nar .byte v)))] H := hP
        have hD : va_D A [(a, aB g N (upd (fl_f f v i) (nI i).toNatClampNeg (vp_nar .byte v)))] := hD
        have e9 : upd (fl_f f v i) (nI i).toNatClampNeg (vp_nar .byte v) = fl_f f v (i + 1) := by rw [nI_clamp (by omega), vp_nar_byte, hv, fl_fs]
        rw [e9] at hP hD
        refine lv_iinc (k := 0) (v := nI (i + 1)) hx hb d_Arrays_fill_aBBV_14 hl rfl ((nI_succ i).symm) (by decide) rfl (fun ls hl => ?_)
        have hl : lv_has ls 4 [(2, .int (nI (i + 1))), (3, .int (nI N)), (0, .ref a), (1, .int v)] := hl
        refine lv_goto (tgt := 5) hx hb d_Arrays_fill_aBBV_17 (by decide) ?_
        exact ih _ (by omega) (i + 1) ls _ _ rfl (by omega) (lv_sub hl [0, 1, 2, 3] rfl) hP hD hS
  rw [fl_f0 f v] at hP hD
  exact loop5 _ 0 ls _ _ rfl (Nat.zero_le _) (lv_sub hl [1, 0, 2, 3] rfl) hP hD hS
set_option maxHeartbeats 4000000 in
set_option maxRecDepth 100000 in
theorem c_fillI (l : Launch) (g : tw_G) (sz : Nat) (a N : Nat) (f : Nat → Int32) (v : Int32) (hN : N < 2 ^ 31) : Met l y_Arrays_fill_aIIV [.code y_Arrays_fill_aIIV b_Arrays_fill_aIIV 4 none] ({ frames := 0, cells := 0, slots := 0, locals := 0 }) (tw_P g [.ref a, .int v] [(a, aI g N f)] sz) (tw_Qv g (fun _ => True) (fun u : Unit => [(a, aI g N (fun _ => v))]) (va_A [(a, aI g N f)] sz)) 0 0 (va_A [(a, aI g N f)] sz) := by
  refine tw_metW (l := l) (g := g) (y := y_Arrays_fill_aIIV) (cc := b_Arrays_fill_aIIV) (maxL := 4) (ret := none) (rm := { frames := 0, cells := 0, slots := 0, locals := 0 }) (mc := 0) (ms := 0) (av := [.ref a, .int v]) (ws := [(a, aI g N f)]) (sz := sz) (Qc := fun A => (tw_Qv g (fun _ => True) (fun u : Unit => [(a, aI g N (fun _ => v))]) A)) (by decide) (Nat.le_of_ble_eq_true rfl) ?_
  intro p e s m below meth c ls H A E hB hK hZ hP hD hS hA hl
  obtain ⟨hx, hb, hml, hr, hown, hts, hlocks, hin⟩ := id E
  have hl : lv_has ls 4 [(0, .ref a), (1, .int v)] := hl
  refine lv_iconst (v := 0) hx hb d_Arrays_fill_aIIV_0 (by decide) ?_
  refine lv_istore_n hx hb d_Arrays_fill_aIIV_1 rfl hl (by decide) rfl (fun ls hl => ?_)
  have hl : lv_has ls 4 [(2, .int 0), (0, .ref a), (1, .int v)] := hl
  refine lv_aload_n hx hb d_Arrays_fill_aIIV_2 rfl (lv_at hl 1 rfl) ?_
  refine va_alen (v := nI N) hx hb hK hP 0 0 rfl rfl rfl d_Arrays_fill_aIIV_3 ?_
  refine lv_istore_n hx hb d_Arrays_fill_aIIV_4 rfl hl (by decide) rfl (fun ls hl => ?_)
  have hl : lv_has ls 4 [(3, .int (nI N)), (2, .int 0), (0, .ref a), (1, .int v)] := hl
  have loop5 : ∀ (k : Nat) (i : Nat) (ls : Array Slot) (H : Heap) (locs : List Loc) , N - i = k → (hi : i ≤ N) → lv_has ls 4 [(2, .int (nI i)), (3, .int (nI N)), (0, .ref a), (1, .int v)] → va_P g.1 classes [(a, aI g N (fl_f f v i))] H → va_D A [(a, aI g N (fl_f f v i))] → va_S A s.heap H locs → W p l e ({ frames := 0, cells := 0, slots := 0, locals := 0 }) s m [.ref a, .int v].toArray below meth c H locs 0 0 (MQ below (tw_Qv g (fun _ => True) (fun u : Unit => [(a, aI g N (fun _ => v))]) A) [.ref a, .int v].toArray s 0 0 A) (F0 m 5 ls []) := by
    intro k
    induction k using Nat.strongRecOn with
    | _ k ih =>
      intro i ls H locs hk hi hl hP hD hS
      refine lv_iload_n hx hb d_Arrays_fill_aIIV_5 rfl (lv_at hl 0 rfl) ?_
      refine lv_iload_n hx hb d_Arrays_fill_aIIV_6 rfl (lv_at hl 1 rfl) ?_
      refine lv_icmp_ge (tgt := 20) hx hb d_Arrays_fill_aIIV_7 (by decide) (fun h7 => ?_) (fun h7 => ?_)
      · have h7 := tn_le h7 (by omega) (by omega)
        obtain rfl : i = N := by omega
        exact tw_vret E hS () trivial (tw_Pext hP 0 rfl fl_fN) (hD.set (p := 0) rfl) d_Arrays_fill_aIIV_20
      · have h7 := tn_nle h7 (by omega) (by omega)
        refine lv_aload_n hx hb d_Arrays_fill_aIIV_10 rfl (lv_at hl 2 rfl) ?_
        refine lv_iload_n hx hb d_Arrays_fill_aIIV_11 rfl (lv_at hl 0 rfl) ?_
        refine lv_iload_n hx hb d_Arrays_fill_aIIV_12 rfl (lv_at hl 3 rfl) ?_
        refine va_iast hx hb hK hP hD hS 0 0 rfl rfl (vp_in_nI h7 hN) d_Arrays_fill_aIIV_13 (fun H locs hP hD hS => ?_)
        have hP : va_P g.1 classes [(a, aI g N (upd (fl_f f v i) (nI i).toNatClampNeg v))] H := hP
        have hD : va_D A [(a, aI g N (upd (fl_f f v i) (nI i).toNatClampNeg v))] := hD
        have e9 : upd (fl_f f v i) (nI i).toNatClampNeg v = fl_f f v (i + 1) := by rw [nI_clamp (by omega), fl_fs]
        rw [e9] at hP hD
        refine lv_iinc (k := 0) (v := nI (i + 1)) hx hb d_Arrays_fill_aIIV_14 hl rfl ((nI_succ i).symm) (by decide) rfl (fun ls hl => ?_)
        have hl : lv_has ls 4 [(2, .int (nI (i + 1))), (3, .int (nI N)), (0, .ref a), (1, .int v)] := hl
        refine lv_goto (tgt := 5) hx hb d_Arrays_fill_aIIV_17 (by decide) ?_
        exact ih _ (by omega) (i + 1) ls _ _ rfl (by omega) (lv_sub hl [0, 1, 2, 3] rfl) hP hD hS
  rw [fl_f0 f v] at hP hD
  exact loop5 _ 0 ls _ _ rfl (Nat.zero_le _) (lv_sub hl [1, 0, 2, 3] rfl) hP hD hS
set_option maxHeartbeats 4000000 in
set_option maxRecDepth 100000 in
theorem c_Image_copyFrom (l : Launch) (g : tw_G) (sz : Nat) (h0 r h1 r1 : Nat) (n n1 : Int32) (f f1 : Nat → Int32) (hf1 : ∀ j, j < 600 → fits .byte (.int (f1 j)) = true) : Met l y_Image_copyFrom [.code y_Image_copyFrom b_Image_copyFrom 2 none] ({ frames := 1, cells := 0, slots := 0, locals := 60 }) (tw_P g [.ref h0, .ref h1] [(h0, .inr (2, [.ref r, .int n])), (r, aB g 600 f), (h1, .inr (2, [.ref r1, .int n1])), (r1, aB g 600 f1)] sz) (tw_Qv g (fun _ => True) (fun u : Unit => [(h0, .inr (2, [.ref r, .int n1])), (r, aB g 600 f1), (h1, .inr (2, [.ref r1, .int n1])), (r1, aB g 600 f1)]) (va_A [(h0, .inr (2, [.ref r, .int n])), (r, aB g 600 f), (h1, .inr (2, [.ref r1, .int n1])), (r1, aB g 600 f1)] sz)) 0 0 (va_A [(h0, .inr (2, [.ref r, .int n])), (r, aB g 600 f), (h1, .inr (2, [.ref r1, .int n1])), (r1, aB g 600 f1)] sz) := by
  refine tw_metW (l := l) (g := g) (y := y_Image_copyFrom) (cc := b_Image_copyFrom) (maxL := 2) (ret := none) (rm := { frames := 1, cells := 0, slots := 0, locals := 60 }) (mc := 0) (ms := 0) (av := [.ref h0, .ref h1]) (ws := [(h0, .inr (2, [.ref r, .int n])), (r, aB g 600 f), (h1, .inr (2, [.ref r1, .int n1])), (r1, aB g 600 f1)]) (sz := sz) (Qc := fun A => (tw_Qv g (fun _ => True) (fun u : Unit => [(h0, .inr (2, [.ref r, .int n1])), (r, aB g 600 f1), (h1, .inr (2, [.ref r1, .int n1])), (r1, aB g 600 f1)]) A)) (by decide) (Nat.le_of_ble_eq_true rfl) ?_
  intro p e s m below meth c ls H A E hB hK hZ hP hD hS hA hl
  obtain ⟨hx, hb, hml, hr, hown, hts, hlocks, hin⟩ := id E
  have hl : lv_has ls 2 [(0, .ref h0), (1, .ref h1)] := hl
  refine lv_aload_n hx hb d_Image_copyFrom_0 rfl (lv_at hl 1 rfl) ?_
  refine va_get (D := g.1) (ci := 2) (v := .ref r1) (C := R_Image) (T := F_Image) (N := 2) hx hb hts in_Image hown hK hP 2 rfl rfl 0 (by decide) (hts _ wd_42) (fun _ h9 => h9) rfl d_Image_copyFrom_1 ?_
  refine lv_iconst (v := 0) hx hb d_Image_copyFrom_4 (by decide) ?_
  refine lv_aload_n hx hb d_Image_copyFrom_5 rfl (lv_at hl 0 rfl) ?_
  refine va_get (D := g.1) (ci := 2) (v := .ref r) (C := R_Image) (T := F_Image) (N := 2) hx hb hts in_Image hown hK hP 0 rfl rfl 0 (by decide) (hts _ wd_42) (fun _ h9 => h9) rfl d_Image_copyFrom_6 ?_
  refine lv_iconst (v := 0) hx hb d_Image_copyFrom_9 (by decide) ?_
  refine lv_sipush (v := 600) hx hb d_Image_copyFrom_10 (by decide) ?_
  refine va_copyi (ty := .byte) hx hb (by rw [hml]; exact hl.1.symm) hown (hts _ wd_352) (hts _ wd_354) (hts _ wd_353) (hts _ wd_18) hK hP hD hS 3 1 1 1 rfl rfl rfl rfl rfl (by decide) (by decide) (by decide) (by decide) (by decide) (tn_cf hf1) (by decide) (by decide) d_Image_copyFrom_13 (fun H locs hP hD hS => ?_)
  have hP : va_P g.1 classes [(h0, .inr (2, [.ref r, .int n])), (r, aB g 600 (va_cpy f1 f (0 : Int32).toNatClampNeg (0 : Int32).toNatClampNeg (600 : Int32).toNatClampNeg)), (h1, .inr (2, [.ref r1, .int n1])), (r1, aB g 600 f1)] H := hP
  have hD : va_D A [(h0, .inr (2, [.ref r, .int n])), (r, aB g 600 (va_cpy f1 f (0 : Int32).toNatClampNeg (0 : Int32).toNatClampNeg (600 : Int32).toNatClampNeg)), (h1, .inr (2, [.ref r1, .int n1])), (r1, aB g 600 f1)] := hD
  have hP : va_P g.1 classes [(h0, .inr (2, [.ref r, .int n])), (r, aB g 600 f1), (h1, .inr (2, [.ref r1, .int n1])), (r1, aB g 600 f1)] H := tw_Pext hP 1 rfl (tn_cp _ _)
  have hD : va_D A [(h0, .inr (2, [.ref r, .int n])), (r, aB g 600 f1), (h1, .inr (2, [.ref r1, .int n1])), (r1, aB g 600 f1)] := hD.set (p := 1) rfl
  refine lv_aload_n hx hb d_Image_copyFrom_16 rfl (lv_at hl 0 rfl) ?_
  refine lv_aload_n hx hb d_Image_copyFrom_17 rfl (lv_at hl 1 rfl) ?_
  refine va_get (D := g.1) (ci := 2) (v := .int n1) (C := R_Image) (T := F_Image) (N := 2) hx hb hts in_Image hown hK hP 2 rfl rfl 1 (by decide) (hts _ wd_43) (fun _ h9 => h9) rfl d_Image_copyFrom_18 ?_
  refine va_put (D := g.1) (ci := 2) (v := .int n1) (ty := .int) (C := R_Image) (T := F_Image) (N := 2) hx hb hts in_Image t_Image t_Image_ok n_Image hown hK hP hD hS 0 rfl rfl 1 (by decide) (hts _ wd_43) (fun _ h9 => h9) rfl (t_Image_ok 1 (by decide)) rfl rfl (Nat.le_of_ble_eq_true rfl) d_Image_copyFrom_21 (fun H locs hP hD hS => ?_)
  have hP : va_P g.1 classes [(h0, .inr (2, [.ref r, .int n1])), (r, aB g 600 f1), (h1, .inr (2, [.ref r1, .int n1])), (r1, aB g 600 f1)] H := hP
  have hD : va_D A [(h0, .inr (2, [.ref r, .int n1])), (r, aB g 600 f1), (h1, .inr (2, [.ref r1, .int n1])), (r1, aB g 600 f1)] := hD
  exact tw_vret E hS () trivial hP hD d_Image_copyFrom_24
set_option maxHeartbeats 4000000 in
set_option maxRecDepth 100000 in
theorem c_Frames_clear (l : Launch) (g : tw_G) (sz : Nat) (h0 : Nat) (w : Nat → Nat) (lo : Int32) (fb fw fd : Nat → Int32) : Met l y_Frames_clear [.code y_Frames_clear b_Frames_clear 1 none] ({ frames := 1, cells := 0, slots := 0, locals := 23 }) (tw_P g [.ref h0] [(h0, .inr (1, [.ref (w 3), .ref (w 4), .ref (w 5), .ref (w 6), .int lo])), ((w 4), aB g 600 fb), ((w 5), aB g 600 fw), ((w 6), aB g 600 fd)] sz) (tw_Qv g (fun _ => True) (fun u : Unit => [(h0, .inr (1, [.ref (w 3), .ref (w 4), .ref (w 5), .ref (w 6), .int 600])), ((w 4), aB g 600 (fun _ => 0)), ((w 5), aB g 600 (fun _ => 0)), ((w 6), aB g 600 (fun _ => -1))]) (va_A [(h0, .inr (1, [.ref (w 3), .ref (w 4), .ref (w 5), .ref (w 6), .int lo])), ((w 4), aB g 600 fb), ((w 5), aB g 600 fw), ((w 6), aB g 600 fd)] sz)) 0 0 (va_A [(h0, .inr (1, [.ref (w 3), .ref (w 4), .ref (w 5), .ref (w 6), .int lo])), ((w 4), aB g 600 fb), ((w 5), aB g 600 fw), ((w 6), aB g 600 fd)] sz) := by
  refine tw_metW (l := l) (g := g) (y := y_Frames_clear) (cc := b_Frames_clear) (maxL := 1) (ret := none) (rm := { frames := 1, cells := 0, slots := 0, locals := 23 }) (mc := 0) (ms := 0) (av := [.ref h0]) (ws := [(h0, .inr (1, [.ref (w 3), .ref (w 4), .ref (w 5), .ref (w 6), .int lo])), ((w 4), aB g 600 fb), ((w 5), aB g 600 fw), ((w 6), aB g 600 fd)]) (sz := sz) (Qc := fun A => (tw_Qv g (fun _ => True) (fun u : Unit => [(h0, .inr (1, [.ref (w 3), .ref (w 4), .ref (w 5), .ref (w 6), .int 600])), ((w 4), aB g 600 (fun _ => 0)), ((w 5), aB g 600 (fun _ => 0)), ((w 6), aB g 600 (fun _ => -1))]) A)) (by decide) (Nat.le_of_ble_eq_true rfl) ?_
  intro p e s m below meth c ls H A E hB hK hZ hP hD hS hA hl
  obtain ⟨hx, hb, hml, hr, hown, hts, hlocks, hin⟩ := id E
  have hl : lv_has ls 1 [(0, .ref h0)] := hl
  refine lv_aload_n hx hb d_Frames_clear_0 rfl (lv_at hl 0 rfl) ?_
  refine lv_sipush (v := 600) hx hb d_Frames_clear_1 (by decide) ?_
  refine va_put (D := g.1) (ci := 1) (v := .int 600) (ty := .int) (C := R_Frames) (T := F_Frames) (N := 5) hx hb hts in_Frames t_Frames t_Frames_ok n_Frames hown hK hP hD hS 0 rfl rfl 4 (by decide) (hts _ wd_229) (fun _ h9 => h9) rfl (t_Frames_ok 4 (by decide)) rfl rfl (Nat.le_of_ble_eq_true rfl) d_Frames_clear_4 (fun H locs hP hD hS => ?_)
  have hP : va_P g.1 classes [(h0, .inr (1, [.ref (w 3), .ref (w 4), .ref (w 5), .ref (w 6), .int 600])), ((w 4), aB g 600 fb), ((w 5), aB g 600 fw), ((w 6), aB g 600 fd)] H := hP
  have hD : va_D A [(h0, .inr (1, [.ref (w 3), .ref (w 4), .ref (w 5), .ref (w 6), .int 600])), ((w 4), aB g 600 fb), ((w 5), aB g 600 fw), ((w 6), aB g 600 fd)] := hD
  refine lv_aload_n hx hb d_Frames_clear_7 rfl (lv_at hl 0 rfl) ?_
  refine va_get (D := g.1) (ci := 1) (v := .ref (w 4)) (C := R_Frames) (T := F_Frames) (N := 5) hx hb hts in_Frames hown hK hP 0 rfl rfl 1 (by decide) (hts _ wd_226) (fun _ h9 => h9) rfl d_Frames_clear_8 ?_
  refine lv_iconst (v := 0) hx hb d_Frames_clear_11 (by decide) ?_
  refine tw_wv (wr := [(h0, .inr (1, [.ref (w 3), .ref (w 4), .ref (w 5), .ref (w 6), .int 600])), ((w 5), aB g 600 fw), ((w 6), aB g 600 fd)]) (tw_runS (ws := [(h0, .inr (1, [.ref (w 3), .ref (w 4), .ref (w 5), .ref (w 6), .int 600])), ((w 4), aB g 600 fb), ((w 5), aB g 600 fw), ((w 6), aB g 600 fd)]) (wc := [((w 4), aB g 600 fb)]) (As := [.ref (w 4), .int 0]) (rest := []) E hB hK hZ (c_fillB l g H.size (w 4) 600 fb 0 (by decide) (by decide)) mc_Arrays_fill_aBBV ms_Arrays_fill_aBBV wd_359 hP hD hS hA [1] rfl (by decide) rfl rfl (by decide) rfl hl.1 rfl (Nat.le_of_ble_eq_true rfl) (by decide) d_Frames_clear_12) hP hD hS hA [1] [0, 2, 3] rfl rfl (by decide) (by decide) (fun u2 H locs hr1 hP hD hS => ?_)
  try dsimp only at hr1
  have hP : va_P g.1 classes [(h0, .inr (1, [.ref (w 3), .ref (w 4), .ref (w 5), .ref (w 6), .int 600])), ((w 5), aB g 600 fw), ((w 6), aB g 600 fd), ((w 4), aB g 600 (fun _ => 0))] H := hP
  have hD : va_D A [(h0, .inr (1, [.ref (w 3), .ref (w 4), .ref (w 5), .ref (w 6), .int 600])), ((w 5), aB g 600 fw), ((w 6), aB g 600 fd), ((w 4), aB g 600 (fun _ => 0))] := hD
  have hP : va_P g.1 classes [(h0, .inr (1, [.ref (w 3), .ref (w 4), .ref (w 5), .ref (w 6), .int 600])), ((w 4), aB g 600 (fun _ => 0)), ((w 5), aB g 600 fw), ((w 6), aB g 600 fd)] H := hP.sub [0, 3, 1, 2] rfl
  have hD : va_D A [(h0, .inr (1, [.ref (w 3), .ref (w 4), .ref (w 5), .ref (w 6), .int 600])), ((w 4), aB g 600 (fun _ => 0)), ((w 5), aB g 600 fw), ((w 6), aB g 600 fd)] := hD.sub [0, 3, 1, 2] (by decide) rfl
  refine lv_aload_n hx hb d_Frames_clear_15 rfl (lv_at hl 0 rfl) ?_
  refine va_get (D := g.1) (ci := 1) (v := .ref (w 5)) (C := R_Frames) (T := F_Frames) (N := 5) hx hb hts in_Frames hown hK hP 0 rfl rfl 2 (by decide) (hts _ wd_227) (fun _ h9 => h9) rfl d_Frames_clear_16 ?_
  refine lv_iconst (v := 0) hx hb d_Frames_clear_19 (by decide) ?_
  refine tw_wv (wr := [(h0, .inr (1, [.ref (w 3), .ref (w 4), .ref (w 5), .ref (w 6), .int 600])), ((w 4), aB g 600 (fun _ => 0)), ((w 6), aB g 600 fd)]) (tw_runS (ws := [(h0, .inr (1, [.ref (w 3), .ref (w 4), .ref (w 5), .ref (w 6), .int 600])), ((w 4), aB g 600 (fun _ => 0)), ((w 5), aB g 600 fw), ((w 6), aB g 600 fd)]) (wc := [((w 5), aB g 600 fw)]) (As := [.ref (w 5), .int 0]) (rest := []) E hB hK hZ (c_fillB l g H.size (w 5) 600 fw 0 (by decide) (by decide)) mc_Arrays_fill_aBBV ms_Arrays_fill_aBBV wd_359 hP hD hS hA [2] rfl (by decide) rfl rfl (by decide) rfl hl.1 rfl (Nat.le_of_ble_eq_true rfl) (by decide) d_Frames_clear_20) hP hD hS hA [2] [0, 1, 3] rfl rfl (by decide) (by decide) (fun u4 H locs hr3 hP hD hS => ?_)
  try dsimp only at hr3
  have hP : va_P g.1 classes [(h0, .inr (1, [.ref (w 3), .ref (w 4), .ref (w 5), .ref (w 6), .int 600])), ((w 4), aB g 600 (fun _ => 0)), ((w 6), aB g 600 fd), ((w 5), aB g 600 (fun _ => 0))] H := hP
  have hD : va_D A [(h0, .inr (1, [.ref (w 3), .ref (w 4), .ref (w 5), .ref (w 6), .int 600])), ((w 4), aB g 600 (fun _ => 0)), ((w 6), aB g 600 fd), ((w 5), aB g 600 (fun _ => 0))] := hD
  have hP : va_P g.1 classes [(h0, .inr (1, [.ref (w 3), .ref (w 4), .ref (w 5), .ref (w 6), .int 600])), ((w 4), aB g 600 (fun _ => 0)), ((w 5), aB g 600 (fun _ => 0)), ((w 6), aB g 600 fd)] H := hP.sub [0, 1, 3, 2] rfl
  have hD : va_D A [(h0, .inr (1, [.ref (w 3), .ref (w 4), .ref (w 5), .ref (w 6), .int 600])), ((w 4), aB g 600 (fun _ => 0)), ((w 5), aB g 600 (fun _ => 0)), ((w 6), aB g 600 fd)] := hD.sub [0, 1, 3, 2] (by decide) rfl
  refine lv_aload_n hx hb d_Frames_clear_23 rfl (lv_at hl 0 rfl) ?_
  refine va_get (D := g.1) (ci := 1) (v := .ref (w 6)) (C := R_Frames) (T := F_Frames) (N := 5) hx hb hts in_Frames hown hK hP 0 rfl rfl 3 (by decide) (hts _ wd_228) (fun _ h9 => h9) rfl d_Frames_clear_24 ?_
  refine lv_iconst (v := (-1)) hx hb d_Frames_clear_27 (by decide) ?_
  refine tw_wv (wr := [(h0, .inr (1, [.ref (w 3), .ref (w 4), .ref (w 5), .ref (w 6), .int 600])), ((w 4), aB g 600 (fun _ => 0)), ((w 5), aB g 600 (fun _ => 0))]) (tw_runS (ws := [(h0, .inr (1, [.ref (w 3), .ref (w 4), .ref (w 5), .ref (w 6), .int 600])), ((w 4), aB g 600 (fun _ => 0)), ((w 5), aB g 600 (fun _ => 0)), ((w 6), aB g 600 fd)]) (wc := [((w 6), aB g 600 fd)]) (As := [.ref (w 6), .int (-1)]) (rest := []) E hB hK hZ (c_fillB l g H.size (w 6) 600 fd (-1) (by decide) (by decide)) mc_Arrays_fill_aBBV ms_Arrays_fill_aBBV wd_359 hP hD hS hA [3] rfl (by decide) rfl rfl (by decide) rfl hl.1 rfl (Nat.le_of_ble_eq_true rfl) (by decide) d_Frames_clear_28) hP hD hS hA [3] [0, 1, 2] rfl rfl (by decide) (by decide) (fun u6 H locs hr5 hP hD hS => ?_)
  try dsimp only at hr5
  have hP : va_P g.1 classes [(h0, .inr (1, [.ref (w 3), .ref (w 4), .ref (w 5), .ref (w 6), .int 600])), ((w 4), aB g 600 (fun _ => 0)), ((w 5), aB g 600 (fun _ => 0)), ((w 6), aB g 600 (fun _ => (-1)))] H := hP
  have hD : va_D A [(h0, .inr (1, [.ref (w 3), .ref (w 4), .ref (w 5), .ref (w 6), .int 600])), ((w 4), aB g 600 (fun _ => 0)), ((w 5), aB g 600 (fun _ => 0)), ((w 6), aB g 600 (fun _ => (-1)))] := hD
  have hP : va_P g.1 classes [(h0, .inr (1, [.ref (w 3), .ref (w 4), .ref (w 5), .ref (w 6), .int 600])), ((w 4), aB g 600 (fun _ => 0)), ((w 5), aB g 600 (fun _ => 0)), ((w 6), aB g 600 (fun _ => (-1)))] H := hP.sub [0, 1, 2, 3] rfl
  have hD : va_D A [(h0, .inr (1, [.ref (w 3), .ref (w 4), .ref (w 5), .ref (w 6), .int 600])), ((w 4), aB g 600 (fun _ => 0)), ((w 5), aB g 600 (fun _ => 0)), ((w 6), aB g 600 (fun _ => (-1)))] := hD.sub [0, 1, 2, 3] (by decide) rfl
  exact tw_vret E hS () trivial hP hD d_Frames_clear_31
set_option maxHeartbeats 4000000 in
set_option maxRecDepth 100000 in
theorem c_Layout_begin (l : Launch) (g : tw_G) (sz : Nat) (h0 h1 r1 : Nat) (w : Nat → Nat) (n n1 lo : Int32) (lv f f1 fb fw fd tg cd : Nat → Int32) (hf1 : ∀ j, j < 600 → fits .byte (.int (f1 j)) = true) : Met l y_Layout_begin [.code y_Layout_begin b_Layout_begin 2 none] ({ frames := 2, cells := 0, slots := 0, locals := 81 }) (tw_P g [.ref h0, .ref h1] [(h0, .inr (3, [.ref (w 0), .ref (w 2), .ref (w 7), .ref (w 8), .ref (w 9), .ref (w 10), .ref (w 11), .ref (w 12), .ref (w 13), .int (lv 0), .int (lv 1), .int (lv 2), .int (lv 3), .int (lv 4), .int (lv 5)])), ((w 0), .inr (2, [.ref (w 1), .int n])), ((w 1), aB g 600 f), ((w 2), .inr (1, [.ref (w 3), .ref (w 4), .ref (w 5), .ref (w 6), .int lo])), ((w 4), aB g 600 fb), ((w 5), aB g 600 fw), ((w 6), aB g 600 fd), ((w 7), aI g 200 tg), ((w 13), aI g 75 cd), (h1, .inr (2, [.ref r1, .int n1])), (r1, aB g 600 f1)] sz) (tw_Qv g (fun _ => True) (fun u : Unit => [(h0, .inr (3, [.ref (w 0), .ref (w 2), .ref (w 7), .ref (w 8), .ref (w 9), .ref (w 10), .ref (w 11), .ref (w 12), .ref (w 13), .int 0, .int (lv 1), .int 0, .int 0, .int 0, .int (lv 5)])), ((w 0), .inr (2, [.ref (w 1), .int n1])), ((w 1), aB g 600 f1), ((w 2), .inr (1, [.ref (w 3), .ref (w 4), .ref (w 5), .ref (w 6), .int 600])), ((w 4), aB g 600 (fun _ => 0)), ((w 5), aB g 600 (fun _ => 0)), ((w 6), aB g 600 (fun _ => -1)), ((w 7), aI g 200 (fun _ => 0)), ((w 13), aI g 75 (fun _ => 0)), (h1, .inr (2, [.ref r1, .int n1])), (r1, aB g 600 f1)]) (va_A [(h0, .inr (3, [.ref (w 0), .ref (w 2), .ref (w 7), .ref (w 8), .ref (w 9), .ref (w 10), .ref (w 11), .ref (w 12), .ref (w 13), .int (lv 0), .int (lv 1), .int (lv 2), .int (lv 3), .int (lv 4), .int (lv 5)])), ((w 0), .inr (2, [.ref (w 1), .int n])), ((w 1), aB g 600 f), ((w 2), .inr (1, [.ref (w 3), .ref (w 4), .ref (w 5), .ref (w 6), .int lo])), ((w 4), aB g 600 fb), ((w 5), aB g 600 fw), ((w 6), aB g 600 fd), ((w 7), aI g 200 tg), ((w 13), aI g 75 cd), (h1, .inr (2, [.ref r1, .int n1])), (r1, aB g 600 f1)] sz)) 0 0 (va_A [(h0, .inr (3, [.ref (w 0), .ref (w 2), .ref (w 7), .ref (w 8), .ref (w 9), .ref (w 10), .ref (w 11), .ref (w 12), .ref (w 13), .int (lv 0), .int (lv 1), .int (lv 2), .int (lv 3), .int (lv 4), .int (lv 5)])), ((w 0), .inr (2, [.ref (w 1), .int n])), ((w 1), aB g 600 f), ((w 2), .inr (1, [.ref (w 3), .ref (w 4), .ref (w 5), .ref (w 6), .int lo])), ((w 4), aB g 600 fb), ((w 5), aB g 600 fw), ((w 6), aB g 600 fd), ((w 7), aI g 200 tg), ((w 13), aI g 75 cd), (h1, .inr (2, [.ref r1, .int n1])), (r1, aB g 600 f1)] sz) := by
  refine tw_metW (l := l) (g := g) (y := y_Layout_begin) (cc := b_Layout_begin) (maxL := 2) (ret := none) (rm := { frames := 2, cells := 0, slots := 0, locals := 81 }) (mc := 0) (ms := 0) (av := [.ref h0, .ref h1]) (ws := [(h0, .inr (3, [.ref (w 0), .ref (w 2), .ref (w 7), .ref (w 8), .ref (w 9), .ref (w 10), .ref (w 11), .ref (w 12), .ref (w 13), .int (lv 0), .int (lv 1), .int (lv 2), .int (lv 3), .int (lv 4), .int (lv 5)])), ((w 0), .inr (2, [.ref (w 1), .int n])), ((w 1), aB g 600 f), ((w 2), .inr (1, [.ref (w 3), .ref (w 4), .ref (w 5), .ref (w 6), .int lo])), ((w 4), aB g 600 fb), ((w 5), aB g 600 fw), ((w 6), aB g 600 fd), ((w 7), aI g 200 tg), ((w 13), aI g 75 cd), (h1, .inr (2, [.ref r1, .int n1])), (r1, aB g 600 f1)]) (sz := sz) (Qc := fun A => (tw_Qv g (fun _ => True) (fun u : Unit => [(h0, .inr (3, [.ref (w 0), .ref (w 2), .ref (w 7), .ref (w 8), .ref (w 9), .ref (w 10), .ref (w 11), .ref (w 12), .ref (w 13), .int 0, .int (lv 1), .int 0, .int 0, .int 0, .int (lv 5)])), ((w 0), .inr (2, [.ref (w 1), .int n1])), ((w 1), aB g 600 f1), ((w 2), .inr (1, [.ref (w 3), .ref (w 4), .ref (w 5), .ref (w 6), .int 600])), ((w 4), aB g 600 (fun _ => 0)), ((w 5), aB g 600 (fun _ => 0)), ((w 6), aB g 600 (fun _ => -1)), ((w 7), aI g 200 (fun _ => 0)), ((w 13), aI g 75 (fun _ => 0)), (h1, .inr (2, [.ref r1, .int n1])), (r1, aB g 600 f1)]) A)) (by decide) (Nat.le_of_ble_eq_true rfl) ?_
  intro p e s m below meth c ls H A E hB hK hZ hP hD hS hA hl
  obtain ⟨hx, hb, hml, hr, hown, hts, hlocks, hin⟩ := id E
  have hl : lv_has ls 2 [(0, .ref h0), (1, .ref h1)] := hl
  refine lv_aload_n hx hb d_Layout_begin_0 rfl (lv_at hl 0 rfl) ?_
  refine va_get (D := g.1) (ci := 3) (v := .ref (w 0)) (C := R_Layout) (T := F_Layout) (N := 15) hx hb hts in_Layout hown hK hP 0 rfl rfl 0 (by decide) (hts _ wd_241) (fun _ h9 => h9) rfl d_Layout_begin_1 ?_
  refine lv_aload_n hx hb d_Layout_begin_4 rfl (lv_at hl 1 rfl) ?_
  refine tw_wv (wr := [(h0, .inr (3, [.ref (w 0), .ref (w 2), .ref (w 7), .ref (w 8), .ref (w 9), .ref (w 10), .ref (w 11), .ref (w 12), .ref (w 13), .int (lv 0), .int (lv 1), .int (lv 2), .int (lv 3), .int (lv 4), .int (lv 5)])), ((w 2), .inr (1, [.ref (w 3), .ref (w 4), .ref (w 5), .ref (w 6), .int lo])), ((w 4), aB g 600 fb), ((w 5), aB g 600 fw), ((w 6), aB g 600 fd), ((w 7), aI g 200 tg), ((w 13), aI g 75 cd)]) (tw_runV (ws := [(h0, .inr (3, [.ref (w 0), .ref (w 2), .ref (w 7), .ref (w 8), .ref (w 9), .ref (w 10), .ref (w 11), .ref (w 12), .ref (w 13), .int (lv 0), .int (lv 1), .int (lv 2), .int (lv 3), .int (lv 4), .int (lv 5)])), ((w 0), .inr (2, [.ref (w 1), .int n])), ((w 1), aB g 600 f), ((w 2), .inr (1, [.ref (w 3), .ref (w 4), .ref (w 5), .ref (w 6), .int lo])), ((w 4), aB g 600 fb), ((w 5), aB g 600 fw), ((w 6), aB g 600 fd), ((w 7), aI g 200 tg), ((w 13), aI g 75 cd), (h1, .inr (2, [.ref r1, .int n1])), (r1, aB g 600 f1)]) (wc := [((w 0), .inr (2, [.ref (w 1), .int n])), ((w 1), aB g 600 f), (h1, .inr (2, [.ref r1, .int n1])), (r1, aB g 600 f1)]) (As := [.ref h1]) (rest := []) E hB hK hZ (c_Image_copyFrom l g H.size (w 0) (w 1) h1 r1 n n1 f f1 hf1) mc_Image_copyFrom mi_Image_copyFrom me_Image_copyFrom wd_348 hP hD hS hA [1, 2, 9, 10] rfl (by decide) 0 rfl rfl rfl rfl rfl (by decide) rfl hl.1 rfl (Nat.le_of_ble_eq_true rfl) (by decide) d_Layout_begin_5) hP hD hS hA [1, 2, 9, 10] [0, 3, 4, 5, 6, 7, 8] rfl rfl (by decide) (by decide) (fun u2 H locs hr1 hP hD hS => ?_)
  try dsimp only at hr1
  have hP : va_P g.1 classes [(h0, .inr (3, [.ref (w 0), .ref (w 2), .ref (w 7), .ref (w 8), .ref (w 9), .ref (w 10), .ref (w 11), .ref (w 12), .ref (w 13), .int (lv 0), .int (lv 1), .int (lv 2), .int (lv 3), .int (lv 4), .int (lv 5)])), ((w 2), .inr (1, [.ref (w 3), .ref (w 4), .ref (w 5), .ref (w 6), .int lo])), ((w 4), aB g 600 fb), ((w 5), aB g 600 fw), ((w 6), aB g 600 fd), ((w 7), aI g 200 tg), ((w 13), aI g 75 cd), ((w 0), .inr (2, [.ref (w 1), .int n1])), ((w 1), aB g 600 f1), (h1, .inr (2, [.ref r1, .int n1])), (r1, aB g 600 f1)] H := hP
  have hD : va_D A [(h0, .inr (3, [.ref (w 0), .ref (w 2), .ref (w 7), .ref (w 8), .ref (w 9), .ref (w 10), .ref (w 11), .ref (w 12), .ref (w 13), .int (lv 0), .int (lv 1), .int (lv 2), .int (lv 3), .int (lv 4), .int (lv 5)])), ((w 2), .inr (1, [.ref (w 3), .ref (w 4), .ref (w 5), .ref (w 6), .int lo])), ((w 4), aB g 600 fb), ((w 5), aB g 600 fw), ((w 6), aB g 600 fd), ((w 7), aI g 200 tg), ((w 13), aI g 75 cd), ((w 0), .inr (2, [.ref (w 1), .int n1])), ((w 1), aB g 600 f1), (h1, .inr (2, [.ref r1, .int n1])), (r1, aB g 600 f1)] := hD
  have hP : va_P g.1 classes [(h0, .inr (3, [.ref (w 0), .ref (w 2), .ref (w 7), .ref (w 8), .ref (w 9), .ref (w 10), .ref (w 11), .ref (w 12), .ref (w 13), .int (lv 0), .int (lv 1), .int (lv 2), .int (lv 3), .int (lv 4), .int (lv 5)])), ((w 0), .inr (2, [.ref (w 1), .int n1])), ((w 1), aB g 600 f1), ((w 2), .inr (1, [.ref (w 3), .ref (w 4), .ref (w 5), .ref (w 6), .int lo])), ((w 4), aB g 600 fb), ((w 5), aB g 600 fw), ((w 6), aB g 600 fd), ((w 7), aI g 200 tg), ((w 13), aI g 75 cd), (h1, .inr (2, [.ref r1, .int n1])), (r1, aB g 600 f1)] H := hP.sub [0, 7, 8, 1, 2, 3, 4, 5, 6, 9, 10] rfl
  have hD : va_D A [(h0, .inr (3, [.ref (w 0), .ref (w 2), .ref (w 7), .ref (w 8), .ref (w 9), .ref (w 10), .ref (w 11), .ref (w 12), .ref (w 13), .int (lv 0), .int (lv 1), .int (lv 2), .int (lv 3), .int (lv 4), .int (lv 5)])), ((w 0), .inr (2, [.ref (w 1), .int n1])), ((w 1), aB g 600 f1), ((w 2), .inr (1, [.ref (w 3), .ref (w 4), .ref (w 5), .ref (w 6), .int lo])), ((w 4), aB g 600 fb), ((w 5), aB g 600 fw), ((w 6), aB g 600 fd), ((w 7), aI g 200 tg), ((w 13), aI g 75 cd), (h1, .inr (2, [.ref r1, .int n1])), (r1, aB g 600 f1)] := hD.sub [0, 7, 8, 1, 2, 3, 4, 5, 6, 9, 10] (by decide) rfl
  refine lv_aload_n hx hb d_Layout_begin_8 rfl (lv_at hl 0 rfl) ?_
  refine va_get (D := g.1) (ci := 3) (v := .ref (w 2)) (C := R_Layout) (T := F_Layout) (N := 15) hx hb hts in_Layout hown hK hP 0 rfl rfl 1 (by decide) (hts _ wd_248) (fun _ h9 => h9) rfl d_Layout_begin_9 ?_
  refine tw_wv (wr := [(h0, .inr (3, [.ref (w 0), .ref (w 2), .ref (w 7), .ref (w 8), .ref (w 9), .ref (w 10), .ref (w 11), .ref (w 12), .ref (w 13), .int (lv 0), .int (lv 1), .int (lv 2), .int (lv 3), .int (lv 4), .int (lv 5)])), ((w 0), .inr (2, [.ref (w 1), .int n1])), ((w 1), aB g 600 f1), ((w 7), aI g 200 tg), ((w 13), aI g 75 cd), (h1, .inr (2, [.ref r1, .int n1])), (r1, aB g 600 f1)]) (tw_runV (ws := [(h0, .inr (3, [.ref (w 0), .ref (w 2), .ref (w 7), .ref (w 8), .ref (w 9), .ref (w 10), .ref (w 11), .ref (w 12), .ref (w 13), .int (lv 0), .int (lv 1), .int (lv 2), .int (lv 3), .int (lv 4), .int (lv 5)])), ((w 0), .inr (2, [.ref (w 1), .int n1])), ((w 1), aB g 600 f1), ((w 2), .inr (1, [.ref (w 3), .ref (w 4), .ref (w 5), .ref (w 6), .int lo])), ((w 4), aB g 600 fb), ((w 5), aB g 600 fw), ((w 6), aB g 600 fd), ((w 7), aI g 200 tg), ((w 13), aI g 75 cd), (h1, .inr (2, [.ref r1, .int n1])), (r1, aB g 600 f1)]) (wc := [((w 2), .inr (1, [.ref (w 3), .ref (w 4), .ref (w 5), .ref (w 6), .int lo])), ((w 4), aB g 600 fb), ((w 5), aB g 600 fw), ((w 6), aB g 600 fd)]) (As := []) (rest := []) E hB hK hZ (c_Frames_clear l g H.size (w 2) w lo fb fw fd) mc_Frames_clear mi_Frames_clear me_Frames_clear wd_355 hP hD hS hA [3, 4, 5, 6] rfl (by decide) 0 rfl rfl rfl rfl rfl (by decide) rfl hl.1 rfl (Nat.le_of_ble_eq_true rfl) (by decide) d_Layout_begin_12) hP hD hS hA [3, 4, 5, 6] [0, 1, 2, 7, 8, 9, 10] rfl rfl (by decide) (by decide) (fun u4 H locs hr3 hP hD hS => ?_)
  try dsimp only at hr3
  have hP : va_P g.1 classes [(h0, .inr (3, [.ref (w 0), .ref (w 2), .ref (w 7), .ref (w 8), .ref (w 9), .ref (w 10), .ref (w 11), .ref (w 12), .ref (w 13), .int (lv 0), .int (lv 1), .int (lv 2), .int (lv 3), .int (lv 4), .int (lv 5)])), ((w 0), .inr (2, [.ref (w 1), .int n1])), ((w 1), aB g 600 f1), ((w 7), aI g 200 tg), ((w 13), aI g 75 cd), (h1, .inr (2, [.ref r1, .int n1])), (r1, aB g 600 f1), ((w 2), .inr (1, [.ref (w 3), .ref (w 4), .ref (w 5), .ref (w 6), .int 600])), ((w 4), aB g 600 (fun _ => 0)), ((w 5), aB g 600 (fun _ => 0)), ((w 6), aB g 600 (fun _ => -1))] H := hP
  have hD : va_D A [(h0, .inr (3, [.ref (w 0), .ref (w 2), .ref (w 7), .ref (w 8), .ref (w 9), .ref (w 10), .ref (w 11), .ref (w 12), .ref (w 13), .int (lv 0), .int (lv 1), .int (lv 2), .int (lv 3), .int (lv 4), .int (lv 5)])), ((w 0), .inr (2, [.ref (w 1), .int n1])), ((w 1), aB g 600 f1), ((w 7), aI g 200 tg), ((w 13), aI g 75 cd), (h1, .inr (2, [.ref r1, .int n1])), (r1, aB g 600 f1), ((w 2), .inr (1, [.ref (w 3), .ref (w 4), .ref (w 5), .ref (w 6), .int 600])), ((w 4), aB g 600 (fun _ => 0)), ((w 5), aB g 600 (fun _ => 0)), ((w 6), aB g 600 (fun _ => -1))] := hD
  have hP : va_P g.1 classes [(h0, .inr (3, [.ref (w 0), .ref (w 2), .ref (w 7), .ref (w 8), .ref (w 9), .ref (w 10), .ref (w 11), .ref (w 12), .ref (w 13), .int (lv 0), .int (lv 1), .int (lv 2), .int (lv 3), .int (lv 4), .int (lv 5)])), ((w 0), .inr (2, [.ref (w 1), .int n1])), ((w 1), aB g 600 f1), ((w 2), .inr (1, [.ref (w 3), .ref (w 4), .ref (w 5), .ref (w 6), .int 600])), ((w 4), aB g 600 (fun _ => 0)), ((w 5), aB g 600 (fun _ => 0)), ((w 6), aB g 600 (fun _ => -1)), ((w 7), aI g 200 tg), ((w 13), aI g 75 cd), (h1, .inr (2, [.ref r1, .int n1])), (r1, aB g 600 f1)] H := hP.sub [0, 1, 2, 7, 8, 9, 10, 3, 4, 5, 6] rfl
  have hD : va_D A [(h0, .inr (3, [.ref (w 0), .ref (w 2), .ref (w 7), .ref (w 8), .ref (w 9), .ref (w 10), .ref (w 11), .ref (w 12), .ref (w 13), .int (lv 0), .int (lv 1), .int (lv 2), .int (lv 3), .int (lv 4), .int (lv 5)])), ((w 0), .inr (2, [.ref (w 1), .int n1])), ((w 1), aB g 600 f1), ((w 2), .inr (1, [.ref (w 3), .ref (w 4), .ref (w 5), .ref (w 6), .int 600])), ((w 4), aB g 600 (fun _ => 0)), ((w 5), aB g 600 (fun _ => 0)), ((w 6), aB g 600 (fun _ => -1)), ((w 7), aI g 200 tg), ((w 13), aI g 75 cd), (h1, .inr (2, [.ref r1, .int n1])), (r1, aB g 600 f1)] := hD.sub [0, 1, 2, 7, 8, 9, 10, 3, 4, 5, 6] (by decide) rfl
  refine lv_aload_n hx hb d_Layout_begin_15 rfl (lv_at hl 0 rfl) ?_
  refine va_get (D := g.1) (ci := 3) (v := .ref (w 7)) (C := R_Layout) (T := F_Layout) (N := 15) hx hb hts in_Layout hown hK hP 0 rfl rfl 2 (by decide) (hts _ wd_251) (fun _ h9 => h9) rfl d_Layout_begin_16 ?_
  refine lv_iconst (v := 0) hx hb d_Layout_begin_19 (by decide) ?_
  refine tw_wv (wr := [(h0, .inr (3, [.ref (w 0), .ref (w 2), .ref (w 7), .ref (w 8), .ref (w 9), .ref (w 10), .ref (w 11), .ref (w 12), .ref (w 13), .int (lv 0), .int (lv 1), .int (lv 2), .int (lv 3), .int (lv 4), .int (lv 5)])), ((w 0), .inr (2, [.ref (w 1), .int n1])), ((w 1), aB g 600 f1), ((w 2), .inr (1, [.ref (w 3), .ref (w 4), .ref (w 5), .ref (w 6), .int 600])), ((w 4), aB g 600 (fun _ => 0)), ((w 5), aB g 600 (fun _ => 0)), ((w 6), aB g 600 (fun _ => -1)), ((w 13), aI g 75 cd), (h1, .inr (2, [.ref r1, .int n1])), (r1, aB g 600 f1)]) (tw_runS (ws := [(h0, .inr (3, [.ref (w 0), .ref (w 2), .ref (w 7), .ref (w 8), .ref (w 9), .ref (w 10), .ref (w 11), .ref (w 12), .ref (w 13), .int (lv 0), .int (lv 1), .int (lv 2), .int (lv 3), .int (lv 4), .int (lv 5)])), ((w 0), .inr (2, [.ref (w 1), .int n1])), ((w 1), aB g 600 f1), ((w 2), .inr (1, [.ref (w 3), .ref (w 4), .ref (w 5), .ref (w 6), .int 600])), ((w 4), aB g 600 (fun _ => 0)), ((w 5), aB g 600 (fun _ => 0)), ((w 6), aB g 600 (fun _ => -1)), ((w 7), aI g 200 tg), ((w 13), aI g 75 cd), (h1, .inr (2, [.ref r1, .int n1])), (r1, aB g 600 f1)]) (wc := [((w 7), aI g 200 tg)]) (As := [.ref (w 7), .int 0]) (rest := []) E hB hK hZ (c_fillI l g H.size (w 7) 200 tg 0 (by decide)) mc_Arrays_fill_aIIV ms_Arrays_fill_aIIV wd_362 hP hD hS hA [7] rfl (by decide) rfl rfl (by decide) rfl hl.1 rfl (Nat.le_of_ble_eq_true rfl) (by decide) d_Layout_begin_20) hP hD hS hA [7] [0, 1, 2, 3, 4, 5, 6, 8, 9, 10] rfl rfl (by decide) (by decide) (fun u6 H locs hr5 hP hD hS => ?_)
  try dsimp only at hr5
  have hP : va_P g.1 classes [(h0, .inr (3, [.ref (w 0), .ref (w 2), .ref (w 7), .ref (w 8), .ref (w 9), .ref (w 10), .ref (w 11), .ref (w 12), .ref (w 13), .int (lv 0), .int (lv 1), .int (lv 2), .int (lv 3), .int (lv 4), .int (lv 5)])), ((w 0), .inr (2, [.ref (w 1), .int n1])), ((w 1), aB g 600 f1), ((w 2), .inr (1, [.ref (w 3), .ref (w 4), .ref (w 5), .ref (w 6), .int 600])), ((w 4), aB g 600 (fun _ => 0)), ((w 5), aB g 600 (fun _ => 0)), ((w 6), aB g 600 (fun _ => -1)), ((w 13), aI g 75 cd), (h1, .inr (2, [.ref r1, .int n1])), (r1, aB g 600 f1), ((w 7), aI g 200 (fun _ => 0))] H := hP
  have hD : va_D A [(h0, .inr (3, [.ref (w 0), .ref (w 2), .ref (w 7), .ref (w 8), .ref (w 9), .ref (w 10), .ref (w 11), .ref (w 12), .ref (w 13), .int (lv 0), .int (lv 1), .int (lv 2), .int (lv 3), .int (lv 4), .int (lv 5)])), ((w 0), .inr (2, [.ref (w 1), .int n1])), ((w 1), aB g 600 f1), ((w 2), .inr (1, [.ref (w 3), .ref (w 4), .ref (w 5), .ref (w 6), .int 600])), ((w 4), aB g 600 (fun _ => 0)), ((w 5), aB g 600 (fun _ => 0)), ((w 6), aB g 600 (fun _ => -1)), ((w 13), aI g 75 cd), (h1, .inr (2, [.ref r1, .int n1])), (r1, aB g 600 f1), ((w 7), aI g 200 (fun _ => 0))] := hD
  have hP : va_P g.1 classes [(h0, .inr (3, [.ref (w 0), .ref (w 2), .ref (w 7), .ref (w 8), .ref (w 9), .ref (w 10), .ref (w 11), .ref (w 12), .ref (w 13), .int (lv 0), .int (lv 1), .int (lv 2), .int (lv 3), .int (lv 4), .int (lv 5)])), ((w 0), .inr (2, [.ref (w 1), .int n1])), ((w 1), aB g 600 f1), ((w 2), .inr (1, [.ref (w 3), .ref (w 4), .ref (w 5), .ref (w 6), .int 600])), ((w 4), aB g 600 (fun _ => 0)), ((w 5), aB g 600 (fun _ => 0)), ((w 6), aB g 600 (fun _ => -1)), ((w 7), aI g 200 (fun _ => 0)), ((w 13), aI g 75 cd), (h1, .inr (2, [.ref r1, .int n1])), (r1, aB g 600 f1)] H := hP.sub [0, 1, 2, 3, 4, 5, 6, 10, 7, 8, 9] rfl
  have hD : va_D A [(h0, .inr (3, [.ref (w 0), .ref (w 2), .ref (w 7), .ref (w 8), .ref (w 9), .ref (w 10), .ref (w 11), .ref (w 12), .ref (w 13), .int (lv 0), .int (lv 1), .int (lv 2), .int (lv 3), .int (lv 4), .int (lv 5)])), ((w 0), .inr (2, [.ref (w 1), .int n1])), ((w 1), aB g 600 f1), ((w 2), .inr (1, [.ref (w 3), .ref (w 4), .ref (w 5), .ref (w 6), .int 600])), ((w 4), aB g 600 (fun _ => 0)), ((w 5), aB g 600 (fun _ => 0)), ((w 6), aB g 600 (fun _ => -1)), ((w 7), aI g 200 (fun _ => 0)), ((w 13), aI g 75 cd), (h1, .inr (2, [.ref r1, .int n1])), (r1, aB g 600 f1)] := hD.sub [0, 1, 2, 3, 4, 5, 6, 10, 7, 8, 9] (by decide) rfl
  refine lv_aload_n hx hb d_Layout_begin_23 rfl (lv_at hl 0 rfl) ?_
  refine va_get (D := g.1) (ci := 3) (v := .ref (w 13)) (C := R_Layout) (T := F_Layout) (N := 15) hx hb hts in_Layout hown hK hP 0 rfl rfl 8 (by decide) (hts _ wd_257) (fun _ h9 => h9) rfl d_Layout_begin_24 ?_
  refine lv_iconst (v := 0) hx hb d_Layout_begin_27 (by decide) ?_
  refine tw_wv (wr := [(h0, .inr (3, [.ref (w 0), .ref (w 2), .ref (w 7), .ref (w 8), .ref (w 9), .ref (w 10), .ref (w 11), .ref (w 12), .ref (w 13), .int (lv 0), .int (lv 1), .int (lv 2), .int (lv 3), .int (lv 4), .int (lv 5)])), ((w 0), .inr (2, [.ref (w 1), .int n1])), ((w 1), aB g 600 f1), ((w 2), .inr (1, [.ref (w 3), .ref (w 4), .ref (w 5), .ref (w 6), .int 600])), ((w 4), aB g 600 (fun _ => 0)), ((w 5), aB g 600 (fun _ => 0)), ((w 6), aB g 600 (fun _ => -1)), ((w 7), aI g 200 (fun _ => 0)), (h1, .inr (2, [.ref r1, .int n1])), (r1, aB g 600 f1)]) (tw_runS (ws := [(h0, .inr (3, [.ref (w 0), .ref (w 2), .ref (w 7), .ref (w 8), .ref (w 9), .ref (w 10), .ref (w 11), .ref (w 12), .ref (w 13), .int (lv 0), .int (lv 1), .int (lv 2), .int (lv 3), .int (lv 4), .int (lv 5)])), ((w 0), .inr (2, [.ref (w 1), .int n1])), ((w 1), aB g 600 f1), ((w 2), .inr (1, [.ref (w 3), .ref (w 4), .ref (w 5), .ref (w 6), .int 600])), ((w 4), aB g 600 (fun _ => 0)), ((w 5), aB g 600 (fun _ => 0)), ((w 6), aB g 600 (fun _ => -1)), ((w 7), aI g 200 (fun _ => 0)), ((w 13), aI g 75 cd), (h1, .inr (2, [.ref r1, .int n1])), (r1, aB g 600 f1)]) (wc := [((w 13), aI g 75 cd)]) (As := [.ref (w 13), .int 0]) (rest := []) E hB hK hZ (c_fillI l g H.size (w 13) 75 cd 0 (by decide)) mc_Arrays_fill_aIIV ms_Arrays_fill_aIIV wd_362 hP hD hS hA [8] rfl (by decide) rfl rfl (by decide) rfl hl.1 rfl (Nat.le_of_ble_eq_true rfl) (by decide) d_Layout_begin_28) hP hD hS hA [8] [0, 1, 2, 3, 4, 5, 6, 7, 9, 10] rfl rfl (by decide) (by decide) (fun u8 H locs hr7 hP hD hS => ?_)
  try dsimp only at hr7
  have hP : va_P g.1 classes [(h0, .inr (3, [.ref (w 0), .ref (w 2), .ref (w 7), .ref (w 8), .ref (w 9), .ref (w 10), .ref (w 11), .ref (w 12), .ref (w 13), .int (lv 0), .int (lv 1), .int (lv 2), .int (lv 3), .int (lv 4), .int (lv 5)])), ((w 0), .inr (2, [.ref (w 1), .int n1])), ((w 1), aB g 600 f1), ((w 2), .inr (1, [.ref (w 3), .ref (w 4), .ref (w 5), .ref (w 6), .int 600])), ((w 4), aB g 600 (fun _ => 0)), ((w 5), aB g 600 (fun _ => 0)), ((w 6), aB g 600 (fun _ => -1)), ((w 7), aI g 200 (fun _ => 0)), (h1, .inr (2, [.ref r1, .int n1])), (r1, aB g 600 f1), ((w 13), aI g 75 (fun _ => 0))] H := hP
  have hD : va_D A [(h0, .inr (3, [.ref (w 0), .ref (w 2), .ref (w 7), .ref (w 8), .ref (w 9), .ref (w 10), .ref (w 11), .ref (w 12), .ref (w 13), .int (lv 0), .int (lv 1), .int (lv 2), .int (lv 3), .int (lv 4), .int (lv 5)])), ((w 0), .inr (2, [.ref (w 1), .int n1])), ((w 1), aB g 600 f1), ((w 2), .inr (1, [.ref (w 3), .ref (w 4), .ref (w 5), .ref (w 6), .int 600])), ((w 4), aB g 600 (fun _ => 0)), ((w 5), aB g 600 (fun _ => 0)), ((w 6), aB g 600 (fun _ => -1)), ((w 7), aI g 200 (fun _ => 0)), (h1, .inr (2, [.ref r1, .int n1])), (r1, aB g 600 f1), ((w 13), aI g 75 (fun _ => 0))] := hD
  have hP : va_P g.1 classes [(h0, .inr (3, [.ref (w 0), .ref (w 2), .ref (w 7), .ref (w 8), .ref (w 9), .ref (w 10), .ref (w 11), .ref (w 12), .ref (w 13), .int (lv 0), .int (lv 1), .int (lv 2), .int (lv 3), .int (lv 4), .int (lv 5)])), ((w 0), .inr (2, [.ref (w 1), .int n1])), ((w 1), aB g 600 f1), ((w 2), .inr (1, [.ref (w 3), .ref (w 4), .ref (w 5), .ref (w 6), .int 600])), ((w 4), aB g 600 (fun _ => 0)), ((w 5), aB g 600 (fun _ => 0)), ((w 6), aB g 600 (fun _ => -1)), ((w 7), aI g 200 (fun _ => 0)), ((w 13), aI g 75 (fun _ => 0)), (h1, .inr (2, [.ref r1, .int n1])), (r1, aB g 600 f1)] H := hP.sub [0, 1, 2, 3, 4, 5, 6, 7, 10, 8, 9] rfl
  have hD : va_D A [(h0, .inr (3, [.ref (w 0), .ref (w 2), .ref (w 7), .ref (w 8), .ref (w 9), .ref (w 10), .ref (w 11), .ref (w 12), .ref (w 13), .int (lv 0), .int (lv 1), .int (lv 2), .int (lv 3), .int (lv 4), .int (lv 5)])), ((w 0), .inr (2, [.ref (w 1), .int n1])), ((w 1), aB g 600 f1), ((w 2), .inr (1, [.ref (w 3), .ref (w 4), .ref (w 5), .ref (w 6), .int 600])), ((w 4), aB g 600 (fun _ => 0)), ((w 5), aB g 600 (fun _ => 0)), ((w 6), aB g 600 (fun _ => -1)), ((w 7), aI g 200 (fun _ => 0)), ((w 13), aI g 75 (fun _ => 0)), (h1, .inr (2, [.ref r1, .int n1])), (r1, aB g 600 f1)] := hD.sub [0, 1, 2, 3, 4, 5, 6, 7, 10, 8, 9] (by decide) rfl
  refine lv_aload_n hx hb d_Layout_begin_31 rfl (lv_at hl 0 rfl) ?_
  refine lv_iconst (v := 0) hx hb d_Layout_begin_32 (by decide) ?_
  refine va_put (D := g.1) (ci := 3) (v := .int 0) (ty := .int) (C := R_Layout) (T := F_Layout) (N := 15) hx hb hts in_Layout t_Layout t_Layout_ok n_Layout hown hK hP hD hS 0 rfl rfl 9 (by decide) (hts _ wd_259) (fun _ h9 => h9) rfl (t_Layout_ok 9 (by decide)) rfl rfl (Nat.le_of_ble_eq_true rfl) d_Layout_begin_33 (fun H locs hP hD hS => ?_)
  have hP : va_P g.1 classes [(h0, .inr (3, [.ref (w 0), .ref (w 2), .ref (w 7), .ref (w 8), .ref (w 9), .ref (w 10), .ref (w 11), .ref (w 12), .ref (w 13), .int 0, .int (lv 1), .int (lv 2), .int (lv 3), .int (lv 4), .int (lv 5)])), ((w 0), .inr (2, [.ref (w 1), .int n1])), ((w 1), aB g 600 f1), ((w 2), .inr (1, [.ref (w 3), .ref (w 4), .ref (w 5), .ref (w 6), .int 600])), ((w 4), aB g 600 (fun _ => 0)), ((w 5), aB g 600 (fun _ => 0)), ((w 6), aB g 600 (fun _ => -1)), ((w 7), aI g 200 (fun _ => 0)), ((w 13), aI g 75 (fun _ => 0)), (h1, .inr (2, [.ref r1, .int n1])), (r1, aB g 600 f1)] H := hP
  have hD : va_D A [(h0, .inr (3, [.ref (w 0), .ref (w 2), .ref (w 7), .ref (w 8), .ref (w 9), .ref (w 10), .ref (w 11), .ref (w 12), .ref (w 13), .int 0, .int (lv 1), .int (lv 2), .int (lv 3), .int (lv 4), .int (lv 5)])), ((w 0), .inr (2, [.ref (w 1), .int n1])), ((w 1), aB g 600 f1), ((w 2), .inr (1, [.ref (w 3), .ref (w 4), .ref (w 5), .ref (w 6), .int 600])), ((w 4), aB g 600 (fun _ => 0)), ((w 5), aB g 600 (fun _ => 0)), ((w 6), aB g 600 (fun _ => -1)), ((w 7), aI g 200 (fun _ => 0)), ((w 13), aI g 75 (fun _ => 0)), (h1, .inr (2, [.ref r1, .int n1])), (r1, aB g 600 f1)] := hD
  refine lv_aload_n hx hb d_Layout_begin_36 rfl (lv_at hl 0 rfl) ?_
  refine lv_iconst (v := 0) hx hb d_Layout_begin_37 (by decide) ?_
  refine va_put (D := g.1) (ci := 3) (v := .int 0) (ty := .int) (C := R_Layout) (T := F_Layout) (N := 15) hx hb hts in_Layout t_Layout t_Layout_ok n_Layout hown hK hP hD hS 0 rfl rfl 11 (by decide) (hts _ wd_267) (fun _ h9 => h9) rfl (t_Layout_ok 11 (by decide)) rfl rfl (Nat.le_of_ble_eq_true rfl) d_Layout_begin_38 (fun H locs hP hD hS => ?_)
  have hP : va_P g.1 classes [(h0, .inr (3, [.ref (w 0), .ref (w 2), .ref (w 7), .ref (w 8), .ref (w 9), .ref (w 10), .ref (w 11), .ref (w 12), .ref (w 13), .int 0, .int (lv 1), .int 0, .int (lv 3), .int (lv 4), .int (lv 5)])), ((w 0), .inr (2, [.ref (w 1), .int n1])), ((w 1), aB g 600 f1), ((w 2), .inr (1, [.ref (w 3), .ref (w 4), .ref (w 5), .ref (w 6), .int 600])), ((w 4), aB g 600 (fun _ => 0)), ((w 5), aB g 600 (fun _ => 0)), ((w 6), aB g 600 (fun _ => -1)), ((w 7), aI g 200 (fun _ => 0)), ((w 13), aI g 75 (fun _ => 0)), (h1, .inr (2, [.ref r1, .int n1])), (r1, aB g 600 f1)] H := hP
  have hD : va_D A [(h0, .inr (3, [.ref (w 0), .ref (w 2), .ref (w 7), .ref (w 8), .ref (w 9), .ref (w 10), .ref (w 11), .ref (w 12), .ref (w 13), .int 0, .int (lv 1), .int 0, .int (lv 3), .int (lv 4), .int (lv 5)])), ((w 0), .inr (2, [.ref (w 1), .int n1])), ((w 1), aB g 600 f1), ((w 2), .inr (1, [.ref (w 3), .ref (w 4), .ref (w 5), .ref (w 6), .int 600])), ((w 4), aB g 600 (fun _ => 0)), ((w 5), aB g 600 (fun _ => 0)), ((w 6), aB g 600 (fun _ => -1)), ((w 7), aI g 200 (fun _ => 0)), ((w 13), aI g 75 (fun _ => 0)), (h1, .inr (2, [.ref r1, .int n1])), (r1, aB g 600 f1)] := hD
  refine lv_aload_n hx hb d_Layout_begin_41 rfl (lv_at hl 0 rfl) ?_
  refine lv_iconst (v := 0) hx hb d_Layout_begin_42 (by decide) ?_
  refine va_put (D := g.1) (ci := 3) (v := .int 0) (ty := .int) (C := R_Layout) (T := F_Layout) (N := 15) hx hb hts in_Layout t_Layout t_Layout_ok n_Layout hown hK hP hD hS 0 rfl rfl 12 (by decide) (hts _ wd_271) (fun _ h9 => h9) rfl (t_Layout_ok 12 (by decide)) rfl rfl (Nat.le_of_ble_eq_true rfl) d_Layout_begin_43 (fun H locs hP hD hS => ?_)
  have hP : va_P g.1 classes [(h0, .inr (3, [.ref (w 0), .ref (w 2), .ref (w 7), .ref (w 8), .ref (w 9), .ref (w 10), .ref (w 11), .ref (w 12), .ref (w 13), .int 0, .int (lv 1), .int 0, .int 0, .int (lv 4), .int (lv 5)])), ((w 0), .inr (2, [.ref (w 1), .int n1])), ((w 1), aB g 600 f1), ((w 2), .inr (1, [.ref (w 3), .ref (w 4), .ref (w 5), .ref (w 6), .int 600])), ((w 4), aB g 600 (fun _ => 0)), ((w 5), aB g 600 (fun _ => 0)), ((w 6), aB g 600 (fun _ => -1)), ((w 7), aI g 200 (fun _ => 0)), ((w 13), aI g 75 (fun _ => 0)), (h1, .inr (2, [.ref r1, .int n1])), (r1, aB g 600 f1)] H := hP
  have hD : va_D A [(h0, .inr (3, [.ref (w 0), .ref (w 2), .ref (w 7), .ref (w 8), .ref (w 9), .ref (w 10), .ref (w 11), .ref (w 12), .ref (w 13), .int 0, .int (lv 1), .int 0, .int 0, .int (lv 4), .int (lv 5)])), ((w 0), .inr (2, [.ref (w 1), .int n1])), ((w 1), aB g 600 f1), ((w 2), .inr (1, [.ref (w 3), .ref (w 4), .ref (w 5), .ref (w 6), .int 600])), ((w 4), aB g 600 (fun _ => 0)), ((w 5), aB g 600 (fun _ => 0)), ((w 6), aB g 600 (fun _ => -1)), ((w 7), aI g 200 (fun _ => 0)), ((w 13), aI g 75 (fun _ => 0)), (h1, .inr (2, [.ref r1, .int n1])), (r1, aB g 600 f1)] := hD
  refine lv_aload_n hx hb d_Layout_begin_46 rfl (lv_at hl 0 rfl) ?_
  refine lv_iconst (v := 0) hx hb d_Layout_begin_47 (by decide) ?_
  refine va_put (D := g.1) (ci := 3) (v := .int 0) (ty := .int) (C := R_Layout) (T := F_Layout) (N := 15) hx hb hts in_Layout t_Layout t_Layout_ok n_Layout hown hK hP hD hS 0 rfl rfl 13 (by decide) (hts _ wd_275) (fun _ h9 => h9) rfl (t_Layout_ok 13 (by decide)) rfl rfl (Nat.le_of_ble_eq_true rfl) d_Layout_begin_48 (fun H locs hP hD hS => ?_)
  have hP : va_P g.1 classes [(h0, .inr (3, [.ref (w 0), .ref (w 2), .ref (w 7), .ref (w 8), .ref (w 9), .ref (w 10), .ref (w 11), .ref (w 12), .ref (w 13), .int 0, .int (lv 1), .int 0, .int 0, .int 0, .int (lv 5)])), ((w 0), .inr (2, [.ref (w 1), .int n1])), ((w 1), aB g 600 f1), ((w 2), .inr (1, [.ref (w 3), .ref (w 4), .ref (w 5), .ref (w 6), .int 600])), ((w 4), aB g 600 (fun _ => 0)), ((w 5), aB g 600 (fun _ => 0)), ((w 6), aB g 600 (fun _ => -1)), ((w 7), aI g 200 (fun _ => 0)), ((w 13), aI g 75 (fun _ => 0)), (h1, .inr (2, [.ref r1, .int n1])), (r1, aB g 600 f1)] H := hP
  have hD : va_D A [(h0, .inr (3, [.ref (w 0), .ref (w 2), .ref (w 7), .ref (w 8), .ref (w 9), .ref (w 10), .ref (w 11), .ref (w 12), .ref (w 13), .int 0, .int (lv 1), .int 0, .int 0, .int 0, .int (lv 5)])), ((w 0), .inr (2, [.ref (w 1), .int n1])), ((w 1), aB g 600 f1), ((w 2), .inr (1, [.ref (w 3), .ref (w 4), .ref (w 5), .ref (w 6), .int 600])), ((w 4), aB g 600 (fun _ => 0)), ((w 5), aB g 600 (fun _ => 0)), ((w 6), aB g 600 (fun _ => -1)), ((w 7), aI g 200 (fun _ => 0)), ((w 13), aI g 75 (fun _ => 0)), (h1, .inr (2, [.ref r1, .int n1])), (r1, aB g 600 f1)] := hD
  exact tw_vret E hS () trivial hP hD d_Layout_begin_51
set_option maxHeartbeats 4000000 in
set_option maxRecDepth 100000 in
theorem c_Finding_clear (l : Launch) (g : tw_G) (sz : Nat) (h0 : Nat) (fa fp : Int32) : Met l y_Finding_clear [.code y_Finding_clear b_Finding_clear 1 none] ({ frames := 0, cells := 0, slots := 0, locals := 0 }) (tw_P g [.ref h0] [(h0, .inr (0, [.int fa, .int fp]))] sz) (tw_Qv g (fun _ => True) (fun u : Unit => [(h0, .inr (0, [.int 0, .int (-1)]))]) (va_A [(h0, .inr (0, [.int fa, .int fp]))] sz)) 0 0 (va_A [(h0, .inr (0, [.int fa, .int fp]))] sz) := by
  refine tw_metW (l := l) (g := g) (y := y_Finding_clear) (cc := b_Finding_clear) (maxL := 1) (ret := none) (rm := { frames := 0, cells := 0, slots := 0, locals := 0 }) (mc := 0) (ms := 0) (av := [.ref h0]) (ws := [(h0, .inr (0, [.int fa, .int fp]))]) (sz := sz) (Qc := fun A => (tw_Qv g (fun _ => True) (fun u : Unit => [(h0, .inr (0, [.int 0, .int (-1)]))]) A)) (by decide) (Nat.le_of_ble_eq_true rfl) ?_
  intro p e s m below meth c ls H A E hB hK hZ hP hD hS hA hl
  obtain ⟨hx, hb, hml, hr, hown, hts, hlocks, hin⟩ := id E
  have hl : lv_has ls 1 [(0, .ref h0)] := hl
  refine lv_aload_n hx hb d_Finding_clear_0 rfl (lv_at hl 0 rfl) ?_
  refine lv_iconst (v := 0) hx hb d_Finding_clear_1 (by decide) ?_
  refine va_put (D := g.1) (ci := 0) (v := .int 0) (ty := .int) (C := R_Finding) (T := F_Finding) (N := 2) hx hb hts in_Finding t_Finding t_Finding_ok n_Finding hown hK hP hD hS 0 rfl rfl 0 (by decide) (hts _ wd_59) (fun _ h9 => h9) rfl (t_Finding_ok 0 (by decide)) rfl rfl (Nat.le_of_ble_eq_true rfl) d_Finding_clear_2 (fun H locs hP hD hS => ?_)
  have hP : va_P g.1 classes [(h0, .inr (0, [.int 0, .int fp]))] H := hP
  have hD : va_D A [(h0, .inr (0, [.int 0, .int fp]))] := hD
  refine lv_aload_n hx hb d_Finding_clear_5 rfl (lv_at hl 0 rfl) ?_
  refine lv_iconst (v := (-1)) hx hb d_Finding_clear_6 (by decide) ?_
  refine va_put (D := g.1) (ci := 0) (v := .int (-1)) (ty := .int) (C := R_Finding) (T := F_Finding) (N := 2) hx hb hts in_Finding t_Finding t_Finding_ok n_Finding hown hK hP hD hS 0 rfl rfl 1 (by decide) (hts _ wd_62) (fun _ h9 => h9) rfl (t_Finding_ok 1 (by decide)) rfl rfl (Nat.le_of_ble_eq_true rfl) d_Finding_clear_7 (fun H locs hP hD hS => ?_)
  have hP : va_P g.1 classes [(h0, .inr (0, [.int 0, .int (-1)]))] H := hP
  have hD : va_D A [(h0, .inr (0, [.int 0, .int (-1)]))] := hD
  exact tw_vret E hS () trivial hP hD d_Finding_clear_10
set_option maxHeartbeats 4000000 in
set_option maxRecDepth 100000 in
theorem c_Finding_tell (l : Launch) (g : tw_G) (sz : Nat) (h0 : Nat) (fa fp a b : Int32) : Met l y_Finding_tell [.code y_Finding_tell b_Finding_tell 3 (some .boolean)] ({ frames := 0, cells := 0, slots := 0, locals := 0 }) (tw_P g [.ref h0, .int a, .int b] [(h0, .inr (0, [.int fa, .int fp]))] sz) (tw_Qi g (fun r _ => r = 0) (fun u : Unit => [(h0, .inr (0, [.int a, .int b]))]) (va_A [(h0, .inr (0, [.int fa, .int fp]))] sz)) 0 0 (va_A [(h0, .inr (0, [.int fa, .int fp]))] sz) := by
  refine tw_metW (l := l) (g := g) (y := y_Finding_tell) (cc := b_Finding_tell) (maxL := 3) (ret := (some .boolean)) (rm := { frames := 0, cells := 0, slots := 0, locals := 0 }) (mc := 0) (ms := 0) (av := [.ref h0, .int a, .int b]) (ws := [(h0, .inr (0, [.int fa, .int fp]))]) (sz := sz) (Qc := fun A => (tw_Qi g (fun r _ => r = 0) (fun u : Unit => [(h0, .inr (0, [.int a, .int b]))]) A)) (by decide) (Nat.le_of_ble_eq_true rfl) ?_
  intro p e s m below meth c ls H A E hB hK hZ hP hD hS hA hl
  obtain ⟨hx, hb, hml, hr, hown, hts, hlocks, hin⟩ := id E
  have hl : lv_has ls 3 [(0, .ref h0), (1, .int a), (2, .int b)] := hl
  refine lv_aload_n hx hb d_Finding_tell_0 rfl (lv_at hl 0 rfl) ?_
  refine lv_iload_n hx hb d_Finding_tell_1 rfl (lv_at hl 1 rfl) ?_
  refine va_put (D := g.1) (ci := 0) (v := .int a) (ty := .int) (C := R_Finding) (T := F_Finding) (N := 2) hx hb hts in_Finding t_Finding t_Finding_ok n_Finding hown hK hP hD hS 0 rfl rfl 0 (by decide) (hts _ wd_59) (fun _ h9 => h9) rfl (t_Finding_ok 0 (by decide)) rfl rfl (Nat.le_of_ble_eq_true rfl) d_Finding_tell_2 (fun H locs hP hD hS => ?_)
  have hP : va_P g.1 classes [(h0, .inr (0, [.int a, .int fp]))] H := hP
  have hD : va_D A [(h0, .inr (0, [.int a, .int fp]))] := hD
  refine lv_aload_n hx hb d_Finding_tell_5 rfl (lv_at hl 0 rfl) ?_
  refine lv_iload_n hx hb d_Finding_tell_6 rfl (lv_at hl 2 rfl) ?_
  refine va_put (D := g.1) (ci := 0) (v := .int b) (ty := .int) (C := R_Finding) (T := F_Finding) (N := 2) hx hb hts in_Finding t_Finding t_Finding_ok n_Finding hown hK hP hD hS 0 rfl rfl 1 (by decide) (hts _ wd_62) (fun _ h9 => h9) rfl (t_Finding_ok 1 (by decide)) rfl rfl (Nat.le_of_ble_eq_true rfl) d_Finding_tell_7 (fun H locs hP hD hS => ?_)
  have hP : va_P g.1 classes [(h0, .inr (0, [.int a, .int b]))] H := hP
  have hD : va_D A [(h0, .inr (0, [.int a, .int b]))] := hD
  refine lv_iconst (v := 0) hx hb d_Finding_tell_10 (by decide) ?_
  exact tw_zret E hS () rfl rfl hP hD d_Finding_tell_11
set_option maxHeartbeats 4000000 in
set_option maxRecDepth 100000 in
theorem c_Image_holds (l : Launch) (g : tw_G) (sz : Nat) (h0 r : Nat) (n i : Int32) (k : Int64) : Met l y_Image_holds [.code y_Image_holds b_Image_holds 4 (some .boolean)] ({ frames := 0, cells := 0, slots := 0, locals := 0 }) (tw_P g [.ref h0, .int i, .long k] [(h0, .inr (2, [.ref r, .int n]))] sz) (vp_Si (fun r => r = im_h n i k)) 0 0 (fun _ => False) := by
  refine tw_met (l := l) (g := g) (y := y_Image_holds) (cc := b_Image_holds) (maxL := 4) (ret := (some .boolean)) (rm := { frames := 0, cells := 0, slots := 0, locals := 0 }) (mc := 0) (ms := 0) (av := [.ref h0, .int i, .long k]) (ws := [(h0, .inr (2, [.ref r, .int n]))]) (sz := sz) (Qc := fun _ => (vp_Si (fun r => r = im_h n i k))) (free := fun _ _ => False) (by decide) (Nat.le_of_ble_eq_true rfl) ?_
  intro p e s m below meth c ls A E hB hK hZ hP hD hS hA hl
  obtain ⟨hx, hb, hml, hr, hown, hts, hlocks, hin⟩ := id E
  have hl : lv_has ls 4 [(0, .ref h0), (1, .int i), (2, .long k)] := hl
  refine lv_iload_n hx hb d_Image_holds_0 rfl (lv_at hl 1 rfl) ?_
  refine lv_if_lt (tgt := 26) hx hb d_Image_holds_1 (by decide) (fun h1 => ?_) (fun h1 => ?_)
  · refine lv_iconst (v := 0) hx hb d_Image_holds_26 (by decide) ?_
    exact tw_zsret E rfl ((im_h0 (by first | exact Or.inl h1 | exact Or.inr (Or.inl ((lg_cmp_lt _ _).mp h7)) | exact Or.inr (Or.inr ((lg_cmp_gt _ _).mp h19)))).symm) d_Image_holds_27
  · refine lv_lload_n hx hb d_Image_holds_4 rfl (lv_at hl 2 rfl) ?_
    refine lv_lconst (v := 0) hx hb d_Image_holds_5 (by decide) ?_
    refine W.lcmp hx hb d_Image_holds_6 ?_
    refine lv_if_lt (tgt := 26) hx hb d_Image_holds_7 (by decide) (fun h7 => ?_) (fun h7 => ?_)
    · refine lv_iconst (v := 0) hx hb d_Image_holds_26 (by decide) ?_
      exact tw_zsret E rfl ((im_h0 (by first | exact Or.inl h1 | exact Or.inr (Or.inl ((lg_cmp_lt _ _).mp h7)) | exact Or.inr (Or.inr ((lg_cmp_gt _ _).mp h19)))).symm) d_Image_holds_27
    · refine lv_lload_n hx hb d_Image_holds_10 rfl (lv_at hl 2 rfl) ?_
      refine lv_aload_n hx hb d_Image_holds_11 rfl (lv_at hl 0 rfl) ?_
      refine va_get (D := g.1) (ci := 2) (v := .int n) (C := R_Image) (T := F_Image) (N := 2) hx hb hts in_Image hown hK hP 0 rfl rfl 1 (by decide) (hts _ wd_43) (fun _ h9 => h9) rfl d_Image_holds_12 ?_
      refine lv_iload_n hx hb d_Image_holds_15 rfl (lv_at hl 1 rfl) ?_
      refine lv_isub hx hb d_Image_holds_16 ?_
      refine lv_i2l (v := (n - i).toInt64) hx hb d_Image_holds_17 rfl ?_
      refine W.lcmp hx hb d_Image_holds_18 ?_
      refine lv_if_gt (tgt := 26) hx hb d_Image_holds_19 (by decide) (fun h19 => ?_) (fun h19 => ?_)
      · refine lv_iconst (v := 0) hx hb d_Image_holds_26 (by decide) ?_
        exact tw_zsret E rfl ((im_h0 (by first | exact Or.inl h1 | exact Or.inr (Or.inl ((lg_cmp_lt _ _).mp h7)) | exact Or.inr (Or.inr ((lg_cmp_gt _ _).mp h19)))).symm) d_Image_holds_27
      · refine lv_iconst (v := 1) hx hb d_Image_holds_22 (by decide) ?_
        refine lv_goto (tgt := 27) hx hb d_Image_holds_23 (by decide) ?_
        exact tw_zsret E rfl ((im_h1 h1 (fun h => h7 ((lg_cmp_lt _ _).mpr h)) (fun h => h19 ((lg_cmp_gt _ _).mpr h))).symm) d_Image_holds_27
set_option maxHeartbeats 4000000 in
set_option maxRecDepth 100000 in
theorem c_Reader_passes (l : Launch) (g : tw_G) (sz : Nat) (h0 ly im fn r : Nat) (at1 n fa fp : Int32) (k : Int64) : Met l y_Reader_passes [.code y_Reader_passes b_Reader_passes 3 (some .boolean)] ({ frames := 1, cells := 0, slots := 0, locals := 23 }) (tw_P g [.ref h0, .long k] [(h0, .inr (7, [.ref ly, .ref im, .ref fn, .int at1])), (im, .inr (2, [.ref r, .int n])), (fn, .inr (0, [.int fa, .int fp]))] sz) (tw_Qi g (fun r (u : Int32 × Int32 × Int32) => (im_h n at1 k = 1 ∧ r = 1 ∧ u = (at1 + k.toInt32, fa, fp)) ∨ (im_h n at1 k = 0 ∧ r = 0 ∧ u = (at1, 1, at1))) (fun u : Int32 × Int32 × Int32 => [(h0, .inr (7, [.ref ly, .ref im, .ref fn, .int u.1])), (im, .inr (2, [.ref r, .int n])), (fn, .inr (0, [.int u.2.1, .int u.2.2]))]) (va_A [(h0, .inr (7, [.ref ly, .ref im, .ref fn, .int at1])), (im, .inr (2, [.ref r, .int n])), (fn, .inr (0, [.int fa, .int fp]))] sz)) 0 0 (va_A [(h0, .inr (7, [.ref ly, .ref im, .ref fn, .int at1])), (im, .inr (2, [.ref r, .int n])), (fn, .inr (0, [.int fa, .int fp]))] sz) := by
  refine tw_metW (l := l) (g := g) (y := y_Reader_passes) (cc := b_Reader_passes) (maxL := 3) (ret := (some .boolean)) (rm := { frames := 1, cells := 0, slots := 0, locals := 23 }) (mc := 0) (ms := 0) (av := [.ref h0, .long k]) (ws := [(h0, .inr (7, [.ref ly, .ref im, .ref fn, .int at1])), (im, .inr (2, [.ref r, .int n])), (fn, .inr (0, [.int fa, .int fp]))]) (sz := sz) (Qc := fun A => (tw_Qi g (fun r (u : Int32 × Int32 × Int32) => (im_h n at1 k = 1 ∧ r = 1 ∧ u = (at1 + k.toInt32, fa, fp)) ∨ (im_h n at1 k = 0 ∧ r = 0 ∧ u = (at1, 1, at1))) (fun u : Int32 × Int32 × Int32 => [(h0, .inr (7, [.ref ly, .ref im, .ref fn, .int u.1])), (im, .inr (2, [.ref r, .int n])), (fn, .inr (0, [.int u.2.1, .int u.2.2]))]) A)) (by decide) (Nat.le_of_ble_eq_true rfl) ?_
  intro p e s m below meth c ls H A E hB hK hZ hP hD hS hA hl
  obtain ⟨hx, hb, hml, hr, hown, hts, hlocks, hin⟩ := id E
  have hl : lv_has ls 3 [(0, .ref h0), (1, .long k)] := hl
  refine lv_aload_n hx hb d_Reader_passes_0 rfl (lv_at hl 0 rfl) ?_
  refine va_get (D := g.1) (ci := 7) (v := .ref im) (C := R_Reader) (T := F_Reader) (N := 4) hx hb hts in_Reader hown hK hP 0 rfl rfl 1 (by decide) (hts _ wd_102) (fun _ h9 => h9) rfl d_Reader_passes_1 ?_
  refine lv_aload_n hx hb d_Reader_passes_4 rfl (lv_at hl 0 rfl) ?_
  refine va_get (D := g.1) (ci := 7) (v := .int at1) (C := R_Reader) (T := F_Reader) (N := 4) hx hb hts in_Reader hown hK hP 0 rfl rfl 3 (by decide) (hts _ wd_104) (fun _ h9 => h9) rfl d_Reader_passes_5 ?_
  refine lv_lload_n hx hb d_Reader_passes_8 rfl (lv_at hl 1 rfl) ?_
  refine tw_si (tw_runV (ws := [(h0, .inr (7, [.ref ly, .ref im, .ref fn, .int at1])), (im, .inr (2, [.ref r, .int n])), (fn, .inr (0, [.int fa, .int fp]))]) (wc := [(im, .inr (2, [.ref r, .int n]))]) (As := [.int at1, .long k]) (rest := []) E hB hK hZ (c_Image_holds l g H.size im r n at1 k) mc_Image_holds mi_Image_holds me_Image_holds wd_382 hP hD hS hA [1] rfl (by decide) 0 rfl rfl rfl rfl rfl (by decide) rfl hl.1 rfl (Nat.le_of_ble_eq_true rfl) (by decide) d_Reader_passes_9) (fun r1 hr1 => ?_)
  obtain rfl : r1 = im_h n at1 k := hr1
  refine lv_if_ne (tgt := 28) hx hb d_Reader_passes_12 (by decide) (fun h12 => ?_) (fun h12 => ?_)
  · refine lv_aload_n hx hb d_Reader_passes_28 rfl (lv_at hl 0 rfl) ?_
    refine lv_dup hx hb d_Reader_passes_29 rfl ?_
    refine va_get (D := g.1) (ci := 7) (v := .int at1) (C := R_Reader) (T := F_Reader) (N := 4) hx hb hts in_Reader hown hK hP 0 rfl rfl 3 (by decide) (hts _ wd_104) (fun _ h9 => h9) rfl d_Reader_passes_30 ?_
    refine lv_lload_n hx hb d_Reader_passes_33 rfl (lv_at hl 1 rfl) ?_
    refine lv_l2i (v := k.toInt32) hx hb d_Reader_passes_34 rfl ?_
    refine lv_iadd hx hb d_Reader_passes_35 ?_
    refine va_put (D := g.1) (ci := 7) (v := .int (at1 + k.toInt32)) (ty := .int) (C := R_Reader) (T := F_Reader) (N := 4) hx hb hts in_Reader t_Reader t_Reader_ok n_Reader hown hK hP hD hS 0 rfl rfl 3 (by decide) (hts _ wd_104) (fun _ h9 => h9) rfl (t_Reader_ok 3 (by decide)) rfl rfl (Nat.le_of_ble_eq_true rfl) d_Reader_passes_36 (fun H locs hP hD hS => ?_)
    have hP : va_P g.1 classes [(h0, .inr (7, [.ref ly, .ref im, .ref fn, .int (at1 + k.toInt32)])), (im, .inr (2, [.ref r, .int n])), (fn, .inr (0, [.int fa, .int fp]))] H := hP
    have hD : va_D A [(h0, .inr (7, [.ref ly, .ref im, .ref fn, .int (at1 + k.toInt32)])), (im, .inr (2, [.ref r, .int n])), (fn, .inr (0, [.int fa, .int fp]))] := hD
    refine lv_iconst (v := 1) hx hb d_Reader_passes_39 (by decide) ?_
    exact tw_zret E hS (at1 + k.toInt32, fa, fp) rfl (Or.inl ⟨by rcases (show im_h n at1 k = 0 ∨ im_h n at1 k = 1 by unfold im_h; split <;> simp) with h | h; exact absurd h h12; exact h, rfl, rfl⟩) hP hD d_Reader_passes_40
  · refine lv_aload_n hx hb d_Reader_passes_15 rfl (lv_at hl 0 rfl) ?_
    refine va_get (D := g.1) (ci := 7) (v := .ref fn) (C := R_Reader) (T := F_Reader) (N := 4) hx hb hts in_Reader hown hK hP 0 rfl rfl 2 (by decide) (hts _ wd_103) (fun _ h9 => h9) rfl d_Reader_passes_16 ?_
    refine lv_iconst (v := 1) hx hb d_Reader_passes_19 (by decide) ?_
    refine lv_aload_n hx hb d_Reader_passes_20 rfl (lv_at hl 0 rfl) ?_
    refine va_get (D := g.1) (ci := 7) (v := .int at1) (C := R_Reader) (T := F_Reader) (N := 4) hx hb hts in_Reader hown hK hP 0 rfl rfl 3 (by decide) (hts _ wd_104) (fun _ h9 => h9) rfl d_Reader_passes_21 ?_
    refine tw_wi (wr := [(h0, .inr (7, [.ref ly, .ref im, .ref fn, .int at1])), (im, .inr (2, [.ref r, .int n]))]) (tw_runV (ws := [(h0, .inr (7, [.ref ly, .ref im, .ref fn, .int at1])), (im, .inr (2, [.ref r, .int n])), (fn, .inr (0, [.int fa, .int fp]))]) (wc := [(fn, .inr (0, [.int fa, .int fp]))]) (As := [.int 1, .int at1]) (rest := []) E hB hK hZ (c_Finding_tell l g H.size fn fa fp 1 at1) mc_Finding_tell mi_Finding_tell me_Finding_tell wd_386 hP hD hS hA [2] rfl (by decide) 0 rfl rfl rfl rfl rfl (by decide) rfl hl.1 rfl (Nat.le_of_ble_eq_true rfl) (by decide) d_Reader_passes_24) hP hD hS hA [2] [0, 1] rfl rfl (by decide) (by decide) (fun r2 u3 H locs hr2 hP hD hS => ?_)
    try dsimp only at hr2
    have hP : va_P g.1 classes [(h0, .inr (7, [.ref ly, .ref im, .ref fn, .int at1])), (im, .inr (2, [.ref r, .int n])), (fn, .inr (0, [.int 1, .int at1]))] H := hP
    have hD : va_D A [(h0, .inr (7, [.ref ly, .ref im, .ref fn, .int at1])), (im, .inr (2, [.ref r, .int n])), (fn, .inr (0, [.int 1, .int at1]))] := hD
    obtain rfl : r2 = 0 := hr2
    have hP : va_P g.1 classes [(h0, .inr (7, [.ref ly, .ref im, .ref fn, .int at1])), (im, .inr (2, [.ref r, .int n])), (fn, .inr (0, [.int 1, .int at1]))] H := hP.sub [0, 1, 2] rfl
    have hD : va_D A [(h0, .inr (7, [.ref ly, .ref im, .ref fn, .int at1])), (im, .inr (2, [.ref r, .int n])), (fn, .inr (0, [.int 1, .int at1]))] := hD.sub [0, 1, 2] (by decide) rfl
    exact tw_zret E hS (at1, 1, at1) (by decide) (Or.inr ⟨h12, by first | rfl | exact hr2, rfl⟩) hP hD d_Reader_passes_27
set_option maxHeartbeats 4000000 in
set_option maxRecDepth 100000 in
theorem c_Reader_readHead0 (l : Launch) (g : tw_G) (sz : Nat) (h0 ly im fn r : Nat) (fa fp : Int32) : Met l y_Reader_readHead [.code y_Reader_readHead b_Reader_readHead 2 (some .boolean)] ({ frames := 2, cells := 0, slots := 0, locals := 45 }) (tw_P g [.ref h0] [(h0, .inr (7, [.ref ly, .ref im, .ref fn, .int 0])), (im, .inr (2, [.ref r, .int 0])), (fn, .inr (0, [.int fa, .int fp]))] sz) (tw_Qi g (fun r _ => r = 0) (fun u : Unit => [(h0, .inr (7, [.ref ly, .ref im, .ref fn, .int 0])), (im, .inr (2, [.ref r, .int 0])), (fn, .inr (0, [.int 1, .int 0]))]) (va_A [(h0, .inr (7, [.ref ly, .ref im, .ref fn, .int 0])), (im, .inr (2, [.ref r, .int 0])), (fn, .inr (0, [.int fa, .int fp]))] sz)) 0 0 (va_A [(h0, .inr (7, [.ref ly, .ref im, .ref fn, .int 0])), (im, .inr (2, [.ref r, .int 0])), (fn, .inr (0, [.int fa, .int fp]))] sz) := by
  refine tw_metW (l := l) (g := g) (y := y_Reader_readHead) (cc := b_Reader_readHead) (maxL := 2) (ret := (some .boolean)) (rm := { frames := 2, cells := 0, slots := 0, locals := 45 }) (mc := 0) (ms := 0) (av := [.ref h0]) (ws := [(h0, .inr (7, [.ref ly, .ref im, .ref fn, .int 0])), (im, .inr (2, [.ref r, .int 0])), (fn, .inr (0, [.int fa, .int fp]))]) (sz := sz) (Qc := fun A => (tw_Qi g (fun r _ => r = 0) (fun u : Unit => [(h0, .inr (7, [.ref ly, .ref im, .ref fn, .int 0])), (im, .inr (2, [.ref r, .int 0])), (fn, .inr (0, [.int 1, .int 0]))]) A)) (by decide) (Nat.le_of_ble_eq_true rfl) ?_
  intro p e s m below meth c ls H A E hB hK hZ hP hD hS hA hl
  obtain ⟨hx, hb, hml, hr, hown, hts, hlocks, hin⟩ := id E
  have hl : lv_has ls 2 [(0, .ref h0)] := hl
  refine lv_aload_n hx hb d_Reader_readHead_0 rfl (lv_at hl 0 rfl) ?_
  refine lv_ldc2 (v := 4) hx hb hown (hts _ wd_377) d_Reader_readHead_1 ?_
  refine tw_wi (wr := []) (tw_runV (ws := [(h0, .inr (7, [.ref ly, .ref im, .ref fn, .int 0])), (im, .inr (2, [.ref r, .int 0])), (fn, .inr (0, [.int fa, .int fp]))]) (wc := [(h0, .inr (7, [.ref ly, .ref im, .ref fn, .int 0])), (im, .inr (2, [.ref r, .int 0])), (fn, .inr (0, [.int fa, .int fp]))]) (As := [.long 4]) (rest := []) E hB hK hZ (c_Reader_passes l g H.size h0 ly im fn r 0 0 fa fp 4) mc_Reader_passes mi_Reader_passes me_Reader_passes wd_378 hP hD hS hA [0, 1, 2] rfl (by decide) 0 rfl rfl rfl rfl rfl (by decide) rfl hl.1 rfl (Nat.le_of_ble_eq_true rfl) (by decide) d_Reader_readHead_4) hP hD hS hA [0, 1, 2] [] rfl rfl (by decide) (by decide) (fun r1 u2 H locs hr1 hP hD hS => ?_)
  try dsimp only at hr1
  have hz : im_h 0 0 4 = 0 := by decide
  rcases hr1 with ⟨h, -, -⟩ | ⟨-, hr0, rfl⟩
  · rw [hz] at h; exact absurd h (by decide)
  have hP : va_P g.1 classes [(h0, .inr (7, [.ref ly, .ref im, .ref fn, .int 0])), (im, .inr (2, [.ref r, .int 0])), (fn, .inr (0, [.int 1, .int 0]))] H := hP
  have hD : va_D A [(h0, .inr (7, [.ref ly, .ref im, .ref fn, .int 0])), (im, .inr (2, [.ref r, .int 0])), (fn, .inr (0, [.int 1, .int 0]))] := hD
  refine lv_if_ne (tgt := 12) hx hb d_Reader_readHead_7 (by decide) (fun h7 => ?_) (fun h7 => ?_)
  · exact absurd hr0 h7
  · refine lv_iconst (v := 0) hx hb d_Reader_readHead_10 (by decide) ?_
    exact tw_zret E hS () rfl rfl hP hD d_Reader_readHead_11
set_option maxHeartbeats 4000000 in
set_option maxRecDepth 100000 in
theorem c_Reader_reads0 (l : Launch) (g : tw_G) (sz : Nat) (h0 ly fn : Nat) (w : Nat → Nat) (x0 x1 x2 x3 : Value) (lv : Nat → Int32) (fa fp : Int32) : Met l y_Reader_reads [.code y_Reader_reads b_Reader_reads 3 (some .boolean)] ({ frames := 3, cells := 0, slots := 0, locals := 66 }) (tw_P g [.ref h0, .ref ly, .ref fn] [(h0, .inr (7, [x0, x1, x2, x3])), (ly, .inr (3, [.ref (w 0), .ref (w 2), .ref (w 7), .ref (w 8), .ref (w 9), .ref (w 10), .ref (w 11), .ref (w 12), .ref (w 13), .int (lv 0), .int (lv 1), .int (lv 2), .int (lv 3), .int (lv 4), .int (lv 5)])), ((w 0), .inr (2, [.ref (w 1), .int 0])), (fn, .inr (0, [.int fa, .int fp]))] sz) (tw_Qi g (fun r _ => r = 0) (fun u : Unit => [(h0, .inr (7, [.ref ly, .ref (w 0), .ref fn, .int 0])), (ly, .inr (3, [.ref (w 0), .ref (w 2), .ref (w 7), .ref (w 8), .ref (w 9), .ref (w 10), .ref (w 11), .ref (w 12), .ref (w 13), .int (lv 0), .int (lv 1), .int (lv 2), .int (lv 3), .int (lv 4), .int (lv 5)])), ((w 0), .inr (2, [.ref (w 1), .int 0])), (fn, .inr (0, [.int 1, .int 0]))]) (va_A [(h0, .inr (7, [x0, x1, x2, x3])), (ly, .inr (3, [.ref (w 0), .ref (w 2), .ref (w 7), .ref (w 8), .ref (w 9), .ref (w 10), .ref (w 11), .ref (w 12), .ref (w 13), .int (lv 0), .int (lv 1), .int (lv 2), .int (lv 3), .int (lv 4), .int (lv 5)])), ((w 0), .inr (2, [.ref (w 1), .int 0])), (fn, .inr (0, [.int fa, .int fp]))] sz)) 0 0 (va_A [(h0, .inr (7, [x0, x1, x2, x3])), (ly, .inr (3, [.ref (w 0), .ref (w 2), .ref (w 7), .ref (w 8), .ref (w 9), .ref (w 10), .ref (w 11), .ref (w 12), .ref (w 13), .int (lv 0), .int (lv 1), .int (lv 2), .int (lv 3), .int (lv 4), .int (lv 5)])), ((w 0), .inr (2, [.ref (w 1), .int 0])), (fn, .inr (0, [.int fa, .int fp]))] sz) := by
  refine tw_metW (l := l) (g := g) (y := y_Reader_reads) (cc := b_Reader_reads) (maxL := 3) (ret := (some .boolean)) (rm := { frames := 3, cells := 0, slots := 0, locals := 66 }) (mc := 0) (ms := 0) (av := [.ref h0, .ref ly, .ref fn]) (ws := [(h0, .inr (7, [x0, x1, x2, x3])), (ly, .inr (3, [.ref (w 0), .ref (w 2), .ref (w 7), .ref (w 8), .ref (w 9), .ref (w 10), .ref (w 11), .ref (w 12), .ref (w 13), .int (lv 0), .int (lv 1), .int (lv 2), .int (lv 3), .int (lv 4), .int (lv 5)])), ((w 0), .inr (2, [.ref (w 1), .int 0])), (fn, .inr (0, [.int fa, .int fp]))]) (sz := sz) (Qc := fun A => (tw_Qi g (fun r _ => r = 0) (fun u : Unit => [(h0, .inr (7, [.ref ly, .ref (w 0), .ref fn, .int 0])), (ly, .inr (3, [.ref (w 0), .ref (w 2), .ref (w 7), .ref (w 8), .ref (w 9), .ref (w 10), .ref (w 11), .ref (w 12), .ref (w 13), .int (lv 0), .int (lv 1), .int (lv 2), .int (lv 3), .int (lv 4), .int (lv 5)])), ((w 0), .inr (2, [.ref (w 1), .int 0])), (fn, .inr (0, [.int 1, .int 0]))]) A)) (by decide) (Nat.le_of_ble_eq_true rfl) ?_
  intro p e s m below meth c ls H A E hB hK hZ hP hD hS hA hl
  obtain ⟨hx, hb, hml, hr, hown, hts, hlocks, hin⟩ := id E
  have hl : lv_has ls 3 [(0, .ref h0), (1, .ref ly), (2, .ref fn)] := hl
  refine lv_aload_n hx hb d_Reader_reads_0 rfl (lv_at hl 0 rfl) ?_
  refine lv_aload_n hx hb d_Reader_reads_1 rfl (lv_at hl 1 rfl) ?_
  refine va_put (D := g.1) (ci := 7) (v := .ref ly) (ty := .object "ShippedClass$Layout") (C := R_Reader) (T := F_Reader) (N := 4) hx hb hts in_Reader t_Reader t_Reader_ok n_Reader hown hK hP hD hS 0 rfl rfl 0 (by decide) (hts _ wd_101) (fun _ h9 => h9) rfl (t_Reader_ok 0 (by decide)) rfl rfl (Nat.le_of_ble_eq_true rfl) d_Reader_reads_2 (fun H locs hP hD hS => ?_)
  have hP : va_P g.1 classes [(h0, .inr (7, [.ref ly, x1, x2, x3])), (ly, .inr (3, [.ref (w 0), .ref (w 2), .ref (w 7), .ref (w 8), .ref (w 9), .ref (w 10), .ref (w 11), .ref (w 12), .ref (w 13), .int (lv 0), .int (lv 1), .int (lv 2), .int (lv 3), .int (lv 4), .int (lv 5)])), ((w 0), .inr (2, [.ref (w 1), .int 0])), (fn, .inr (0, [.int fa, .int fp]))] H := hP
  have hD : va_D A [(h0, .inr (7, [.ref ly, x1, x2, x3])), (ly, .inr (3, [.ref (w 0), .ref (w 2), .ref (w 7), .ref (w 8), .ref (w 9), .ref (w 10), .ref (w 11), .ref (w 12), .ref (w 13), .int (lv 0), .int (lv 1), .int (lv 2), .int (lv 3), .int (lv 4), .int (lv 5)])), ((w 0), .inr (2, [.ref (w 1), .int 0])), (fn, .inr (0, [.int fa, .int fp]))] := hD
  refine lv_aload_n hx hb d_Reader_reads_5 rfl (lv_at hl 0 rfl) ?_
  refine lv_aload_n hx hb d_Reader_reads_6 rfl (lv_at hl 1 rfl) ?_
  refine va_getN (D := g.1) (ci := 3) (v := .ref (w 0)) (C := R_Layout) (T := F_Layout) (N := 15) hx hb hts in_Layout hown hK hP 1 rfl rfl 0 (by decide) (hts _ wd_242) (fun _ h9 => h9) rfl d_Reader_reads_7 ?_
  refine va_put (D := g.1) (ci := 7) (v := .ref (w 0)) (ty := .object "ShippedClass$Image") (C := R_Reader) (T := F_Reader) (N := 4) hx hb hts in_Reader t_Reader t_Reader_ok n_Reader hown hK hP hD hS 0 rfl rfl 1 (by decide) (hts _ wd_102) (fun _ h9 => h9) rfl (t_Reader_ok 1 (by decide)) rfl rfl (Nat.le_of_ble_eq_true rfl) d_Reader_reads_10 (fun H locs hP hD hS => ?_)
  have hP : va_P g.1 classes [(h0, .inr (7, [.ref ly, .ref (w 0), x2, x3])), (ly, .inr (3, [.ref (w 0), .ref (w 2), .ref (w 7), .ref (w 8), .ref (w 9), .ref (w 10), .ref (w 11), .ref (w 12), .ref (w 13), .int (lv 0), .int (lv 1), .int (lv 2), .int (lv 3), .int (lv 4), .int (lv 5)])), ((w 0), .inr (2, [.ref (w 1), .int 0])), (fn, .inr (0, [.int fa, .int fp]))] H := hP
  have hD : va_D A [(h0, .inr (7, [.ref ly, .ref (w 0), x2, x3])), (ly, .inr (3, [.ref (w 0), .ref (w 2), .ref (w 7), .ref (w 8), .ref (w 9), .ref (w 10), .ref (w 11), .ref (w 12), .ref (w 13), .int (lv 0), .int (lv 1), .int (lv 2), .int (lv 3), .int (lv 4), .int (lv 5)])), ((w 0), .inr (2, [.ref (w 1), .int 0])), (fn, .inr (0, [.int fa, .int fp]))] := hD
  refine lv_aload_n hx hb d_Reader_reads_13 rfl (lv_at hl 0 rfl) ?_
  refine lv_aload_n hx hb d_Reader_reads_14 rfl (lv_at hl 2 rfl) ?_
  refine va_put (D := g.1) (ci := 7) (v := .ref fn) (ty := .object "ShippedClass$Finding") (C := R_Reader) (T := F_Reader) (N := 4) hx hb hts in_Reader t_Reader t_Reader_ok n_Reader hown hK hP hD hS 0 rfl rfl 2 (by decide) (hts _ wd_103) (fun _ h9 => h9) rfl (t_Reader_ok 2 (by decide)) rfl rfl (Nat.le_of_ble_eq_true rfl) d_Reader_reads_15 (fun H locs hP hD hS => ?_)
  have hP : va_P g.1 classes [(h0, .inr (7, [.ref ly, .ref (w 0), .ref fn, x3])), (ly, .inr (3, [.ref (w 0), .ref (w 2), .ref (w 7), .ref (w 8), .ref (w 9), .ref (w 10), .ref (w 11), .ref (w 12), .ref (w 13), .int (lv 0), .int (lv 1), .int (lv 2), .int (lv 3), .int (lv 4), .int (lv 5)])), ((w 0), .inr (2, [.ref (w 1), .int 0])), (fn, .inr (0, [.int fa, .int fp]))] H := hP
  have hD : va_D A [(h0, .inr (7, [.ref ly, .ref (w 0), .ref fn, x3])), (ly, .inr (3, [.ref (w 0), .ref (w 2), .ref (w 7), .ref (w 8), .ref (w 9), .ref (w 10), .ref (w 11), .ref (w 12), .ref (w 13), .int (lv 0), .int (lv 1), .int (lv 2), .int (lv 3), .int (lv 4), .int (lv 5)])), ((w 0), .inr (2, [.ref (w 1), .int 0])), (fn, .inr (0, [.int fa, .int fp]))] := hD
  refine lv_aload_n hx hb d_Reader_reads_18 rfl (lv_at hl 0 rfl) ?_
  refine lv_iconst (v := 0) hx hb d_Reader_reads_19 (by decide) ?_
  refine va_put (D := g.1) (ci := 7) (v := .int 0) (ty := .int) (C := R_Reader) (T := F_Reader) (N := 4) hx hb hts in_Reader t_Reader t_Reader_ok n_Reader hown hK hP hD hS 0 rfl rfl 3 (by decide) (hts _ wd_104) (fun _ h9 => h9) rfl (t_Reader_ok 3 (by decide)) rfl rfl (Nat.le_of_ble_eq_true rfl) d_Reader_reads_20 (fun H locs hP hD hS => ?_)
  have hP : va_P g.1 classes [(h0, .inr (7, [.ref ly, .ref (w 0), .ref fn, .int 0])), (ly, .inr (3, [.ref (w 0), .ref (w 2), .ref (w 7), .ref (w 8), .ref (w 9), .ref (w 10), .ref (w 11), .ref (w 12), .ref (w 13), .int (lv 0), .int (lv 1), .int (lv 2), .int (lv 3), .int (lv 4), .int (lv 5)])), ((w 0), .inr (2, [.ref (w 1), .int 0])), (fn, .inr (0, [.int fa, .int fp]))] H := hP
  have hD : va_D A [(h0, .inr (7, [.ref ly, .ref (w 0), .ref fn, .int 0])), (ly, .inr (3, [.ref (w 0), .ref (w 2), .ref (w 7), .ref (w 8), .ref (w 9), .ref (w 10), .ref (w 11), .ref (w 12), .ref (w 13), .int (lv 0), .int (lv 1), .int (lv 2), .int (lv 3), .int (lv 4), .int (lv 5)])), ((w 0), .inr (2, [.ref (w 1), .int 0])), (fn, .inr (0, [.int fa, .int fp]))] := hD
  refine lv_aload_n hx hb d_Reader_reads_23 rfl (lv_at hl 0 rfl) ?_
  refine tw_wi (wr := [(ly, .inr (3, [.ref (w 0), .ref (w 2), .ref (w 7), .ref (w 8), .ref (w 9), .ref (w 10), .ref (w 11), .ref (w 12), .ref (w 13), .int (lv 0), .int (lv 1), .int (lv 2), .int (lv 3), .int (lv 4), .int (lv 5)]))]) (tw_runV (ws := [(h0, .inr (7, [.ref ly, .ref (w 0), .ref fn, .int 0])), (ly, .inr (3, [.ref (w 0), .ref (w 2), .ref (w 7), .ref (w 8), .ref (w 9), .ref (w 10), .ref (w 11), .ref (w 12), .ref (w 13), .int (lv 0), .int (lv 1), .int (lv 2), .int (lv 3), .int (lv 4), .int (lv 5)])), ((w 0), .inr (2, [.ref (w 1), .int 0])), (fn, .inr (0, [.int fa, .int fp]))]) (wc := [(h0, .inr (7, [.ref ly, .ref (w 0), .ref fn, .int 0])), ((w 0), .inr (2, [.ref (w 1), .int 0])), (fn, .inr (0, [.int fa, .int fp]))]) (As := []) (rest := []) E hB hK hZ (c_Reader_readHead0 l g H.size h0 ly (w 0) fn (w 1) fa fp) mc_Reader_readHead mi_Reader_readHead me_Reader_readHead wd_373 hP hD hS hA [0, 2, 3] rfl (by decide) 0 rfl rfl rfl rfl rfl (by decide) rfl hl.1 rfl (Nat.le_of_ble_eq_true rfl) (by decide) d_Reader_reads_24) hP hD hS hA [0, 2, 3] [1] rfl rfl (by decide) (by decide) (fun r1 u2 H locs hr1 hP hD hS => ?_)
  try dsimp only at hr1
  have hP : va_P g.1 classes [(ly, .inr (3, [.ref (w 0), .ref (w 2), .ref (w 7), .ref (w 8), .ref (w 9), .ref (w 10), .ref (w 11), .ref (w 12), .ref (w 13), .int (lv 0), .int (lv 1), .int (lv 2), .int (lv 3), .int (lv 4), .int (lv 5)])), (h0, .inr (7, [.ref ly, .ref (w 0), .ref fn, .int 0])), ((w 0), .inr (2, [.ref (w 1), .int 0])), (fn, .inr (0, [.int 1, .int 0]))] H := hP
  have hD : va_D A [(ly, .inr (3, [.ref (w 0), .ref (w 2), .ref (w 7), .ref (w 8), .ref (w 9), .ref (w 10), .ref (w 11), .ref (w 12), .ref (w 13), .int (lv 0), .int (lv 1), .int (lv 2), .int (lv 3), .int (lv 4), .int (lv 5)])), (h0, .inr (7, [.ref ly, .ref (w 0), .ref fn, .int 0])), ((w 0), .inr (2, [.ref (w 1), .int 0])), (fn, .inr (0, [.int 1, .int 0]))] := hD
  obtain rfl : r1 = 0 := hr1
  have hP : va_P g.1 classes [(h0, .inr (7, [.ref ly, .ref (w 0), .ref fn, .int 0])), (ly, .inr (3, [.ref (w 0), .ref (w 2), .ref (w 7), .ref (w 8), .ref (w 9), .ref (w 10), .ref (w 11), .ref (w 12), .ref (w 13), .int (lv 0), .int (lv 1), .int (lv 2), .int (lv 3), .int (lv 4), .int (lv 5)])), ((w 0), .inr (2, [.ref (w 1), .int 0])), (fn, .inr (0, [.int 1, .int 0]))] H := hP.sub [1, 0, 2, 3] rfl
  have hD : va_D A [(h0, .inr (7, [.ref ly, .ref (w 0), .ref fn, .int 0])), (ly, .inr (3, [.ref (w 0), .ref (w 2), .ref (w 7), .ref (w 8), .ref (w 9), .ref (w 10), .ref (w 11), .ref (w 12), .ref (w 13), .int (lv 0), .int (lv 1), .int (lv 2), .int (lv 3), .int (lv 4), .int (lv 5)])), ((w 0), .inr (2, [.ref (w 1), .int 0])), (fn, .inr (0, [.int 1, .int 0]))] := hD.sub [1, 0, 2, 3] (by decide) rfl
  refine lv_if_eq (tgt := 60) hx hb d_Reader_reads_27 (by decide) (fun h27 => ?_) (fun h27 => ?_)
  · refine lv_iconst (v := 0) hx hb d_Reader_reads_60 (by decide) ?_
    exact tw_zret E hS () rfl rfl hP hD d_Reader_reads_61
  · exact absurd rfl h27
set_option maxHeartbeats 4000000 in
set_option maxRecDepth 100000 in
theorem c_Ship_audit0 (l : Launch) (g : tw_G) (sz : Nat) (h0 r : Nat) (q w : Nat → Nat) (x0 x1 x2 x3 : Value) (ig n lo fa fp : Int32) (lv f f1 fb fw fd tg cd : Nat → Int32) (hf1 : ∀ j, j < 600 → fits .byte (.int (f1 j)) = true) : Met l y_Ship_audit [.code y_Ship_audit b_Ship_audit 2 (some .int)] ({ frames := 4, cells := 0, slots := 0, locals := 102 }) (tw_P g [.ref h0] [(h0, .inr (9, [.ref (q 0), .ref (q 1), .ref (q 2), .ref (q 3), .ref (q 4), .ref (q 5), .ref (q 6), .ref (q 7), .int ig])), ((q 0), .inr (2, [.ref r, .int 0])), (r, aB g 600 f1), ((q 1), .inr (0, [.int fa, .int fp])), ((q 3), .inr (7, [x0, x1, x2, x3])), ((q 6), .inr (3, [.ref (w 0), .ref (w 2), .ref (w 7), .ref (w 8), .ref (w 9), .ref (w 10), .ref (w 11), .ref (w 12), .ref (w 13), .int (lv 0), .int (lv 1), .int (lv 2), .int (lv 3), .int (lv 4), .int (lv 5)])), ((w 0), .inr (2, [.ref (w 1), .int n])), ((w 1), aB g 600 f), ((w 2), .inr (1, [.ref (w 3), .ref (w 4), .ref (w 5), .ref (w 6), .int lo])), ((w 4), aB g 600 fb), ((w 5), aB g 600 fw), ((w 6), aB g 600 fd), ((w 7), aI g 200 tg), ((w 13), aI g 75 cd)] sz) (tw_Qi g (fun r _ => r = 1) (fun u : Unit => [(h0, .inr (9, [.ref (q 0), .ref (q 1), .ref (q 2), .ref (q 3), .ref (q 4), .ref (q 5), .ref (q 6), .ref (q 7), .int ig])), ((q 0), .inr (2, [.ref r, .int 0])), (r, aB g 600 f1), ((q 1), .inr (0, [.int 1, .int 0])), ((q 3), .inr (7, [.ref (q 6), .ref (w 0), .ref (q 1), .int 0])), ((q 6), .inr (3, [.ref (w 0), .ref (w 2), .ref (w 7), .ref (w 8), .ref (w 9), .ref (w 10), .ref (w 11), .ref (w 12), .ref (w 13), .int 0, .int (lv 1), .int 0, .int 0, .int 0, .int (lv 5)])), ((w 0), .inr (2, [.ref (w 1), .int 0])), ((w 1), aB g 600 f1), ((w 2), .inr (1, [.ref (w 3), .ref (w 4), .ref (w 5), .ref (w 6), .int 600])), ((w 4), aB g 600 (fun _ => 0)), ((w 5), aB g 600 (fun _ => 0)), ((w 6), aB g 600 (fun _ => -1)), ((w 7), aI g 200 (fun _ => 0)), ((w 13), aI g 75 (fun _ => 0))]) (va_A [(h0, .inr (9, [.ref (q 0), .ref (q 1), .ref (q 2), .ref (q 3), .ref (q 4), .ref (q 5), .ref (q 6), .ref (q 7), .int ig])), ((q 0), .inr (2, [.ref r, .int 0])), (r, aB g 600 f1), ((q 1), .inr (0, [.int fa, .int fp])), ((q 3), .inr (7, [x0, x1, x2, x3])), ((q 6), .inr (3, [.ref (w 0), .ref (w 2), .ref (w 7), .ref (w 8), .ref (w 9), .ref (w 10), .ref (w 11), .ref (w 12), .ref (w 13), .int (lv 0), .int (lv 1), .int (lv 2), .int (lv 3), .int (lv 4), .int (lv 5)])), ((w 0), .inr (2, [.ref (w 1), .int n])), ((w 1), aB g 600 f), ((w 2), .inr (1, [.ref (w 3), .ref (w 4), .ref (w 5), .ref (w 6), .int lo])), ((w 4), aB g 600 fb), ((w 5), aB g 600 fw), ((w 6), aB g 600 fd), ((w 7), aI g 200 tg), ((w 13), aI g 75 cd)] sz)) 0 0 (va_A [(h0, .inr (9, [.ref (q 0), .ref (q 1), .ref (q 2), .ref (q 3), .ref (q 4), .ref (q 5), .ref (q 6), .ref (q 7), .int ig])), ((q 0), .inr (2, [.ref r, .int 0])), (r, aB g 600 f1), ((q 1), .inr (0, [.int fa, .int fp])), ((q 3), .inr (7, [x0, x1, x2, x3])), ((q 6), .inr (3, [.ref (w 0), .ref (w 2), .ref (w 7), .ref (w 8), .ref (w 9), .ref (w 10), .ref (w 11), .ref (w 12), .ref (w 13), .int (lv 0), .int (lv 1), .int (lv 2), .int (lv 3), .int (lv 4), .int (lv 5)])), ((w 0), .inr (2, [.ref (w 1), .int n])), ((w 1), aB g 600 f), ((w 2), .inr (1, [.ref (w 3), .ref (w 4), .ref (w 5), .ref (w 6), .int lo])), ((w 4), aB g 600 fb), ((w 5), aB g 600 fw), ((w 6), aB g 600 fd), ((w 7), aI g 200 tg), ((w 13), aI g 75 cd)] sz) := by
  refine tw_metW (l := l) (g := g) (y := y_Ship_audit) (cc := b_Ship_audit) (maxL := 2) (ret := (some .int)) (rm := { frames := 4, cells := 0, slots := 0, locals := 102 }) (mc := 0) (ms := 0) (av := [.ref h0]) (ws := [(h0, .inr (9, [.ref (q 0), .ref (q 1), .ref (q 2), .ref (q 3), .ref (q 4), .ref (q 5), .ref (q 6), .ref (q 7), .int ig])), ((q 0), .inr (2, [.ref r, .int 0])), (r, aB g 600 f1), ((q 1), .inr (0, [.int fa, .int fp])), ((q 3), .inr (7, [x0, x1, x2, x3])), ((q 6), .inr (3, [.ref (w 0), .ref (w 2), .ref (w 7), .ref (w 8), .ref (w 9), .ref (w 10), .ref (w 11), .ref (w 12), .ref (w 13), .int (lv 0), .int (lv 1), .int (lv 2), .int (lv 3), .int (lv 4), .int (lv 5)])), ((w 0), .inr (2, [.ref (w 1), .int n])), ((w 1), aB g 600 f), ((w 2), .inr (1, [.ref (w 3), .ref (w 4), .ref (w 5), .ref (w 6), .int lo])), ((w 4), aB g 600 fb), ((w 5), aB g 600 fw), ((w 6), aB g 600 fd), ((w 7), aI g 200 tg), ((w 13), aI g 75 cd)]) (sz := sz) (Qc := fun A => (tw_Qi g (fun r _ => r = 1) (fun u : Unit => [(h0, .inr (9, [.ref (q 0), .ref (q 1), .ref (q 2), .ref (q 3), .ref (q 4), .ref (q 5), .ref (q 6), .ref (q 7), .int ig])), ((q 0), .inr (2, [.ref r, .int 0])), (r, aB g 600 f1), ((q 1), .inr (0, [.int 1, .int 0])), ((q 3), .inr (7, [.ref (q 6), .ref (w 0), .ref (q 1), .int 0])), ((q 6), .inr (3, [.ref (w 0), .ref (w 2), .ref (w 7), .ref (w 8), .ref (w 9), .ref (w 10), .ref (w 11), .ref (w 12), .ref (w 13), .int 0, .int (lv 1), .int 0, .int 0, .int 0, .int (lv 5)])), ((w 0), .inr (2, [.ref (w 1), .int 0])), ((w 1), aB g 600 f1), ((w 2), .inr (1, [.ref (w 3), .ref (w 4), .ref (w 5), .ref (w 6), .int 600])), ((w 4), aB g 600 (fun _ => 0)), ((w 5), aB g 600 (fun _ => 0)), ((w 6), aB g 600 (fun _ => -1)), ((w 7), aI g 200 (fun _ => 0)), ((w 13), aI g 75 (fun _ => 0))]) A)) (by decide) (Nat.le_of_ble_eq_true rfl) ?_
  intro p e s m below meth c ls H A E hB hK hZ hP hD hS hA hl
  obtain ⟨hx, hb, hml, hr, hown, hts, hlocks, hin⟩ := id E
  have hl : lv_has ls 2 [(0, .ref h0)] := hl
  refine lv_aload_n hx hb d_Ship_audit_0 rfl (lv_at hl 0 rfl) ?_
  refine va_get (D := g.1) (ci := 9) (v := .ref (q 6)) (C := R_Ship) (T := F_Ship) (N := 9) hx hb hts in_Ship hown hK hP 0 rfl rfl 6 (by decide) (hts _ wd_318) (fun _ h9 => h9) rfl d_Ship_audit_1 ?_
  refine lv_aload_n hx hb d_Ship_audit_4 rfl (lv_at hl 0 rfl) ?_
  refine va_get (D := g.1) (ci := 9) (v := .ref (q 0)) (C := R_Ship) (T := F_Ship) (N := 9) hx hb hts in_Ship hown hK hP 0 rfl rfl 0 (by decide) (hts _ wd_312) (fun _ h9 => h9) rfl d_Ship_audit_5 ?_
  refine tw_wv (wr := [(h0, .inr (9, [.ref (q 0), .ref (q 1), .ref (q 2), .ref (q 3), .ref (q 4), .ref (q 5), .ref (q 6), .ref (q 7), .int ig])), ((q 1), .inr (0, [.int fa, .int fp])), ((q 3), .inr (7, [x0, x1, x2, x3]))]) (tw_runV (ws := [(h0, .inr (9, [.ref (q 0), .ref (q 1), .ref (q 2), .ref (q 3), .ref (q 4), .ref (q 5), .ref (q 6), .ref (q 7), .int ig])), ((q 0), .inr (2, [.ref r, .int 0])), (r, aB g 600 f1), ((q 1), .inr (0, [.int fa, .int fp])), ((q 3), .inr (7, [x0, x1, x2, x3])), ((q 6), .inr (3, [.ref (w 0), .ref (w 2), .ref (w 7), .ref (w 8), .ref (w 9), .ref (w 10), .ref (w 11), .ref (w 12), .ref (w 13), .int (lv 0), .int (lv 1), .int (lv 2), .int (lv 3), .int (lv 4), .int (lv 5)])), ((w 0), .inr (2, [.ref (w 1), .int n])), ((w 1), aB g 600 f), ((w 2), .inr (1, [.ref (w 3), .ref (w 4), .ref (w 5), .ref (w 6), .int lo])), ((w 4), aB g 600 fb), ((w 5), aB g 600 fw), ((w 6), aB g 600 fd), ((w 7), aI g 200 tg), ((w 13), aI g 75 cd)]) (wc := [((q 6), .inr (3, [.ref (w 0), .ref (w 2), .ref (w 7), .ref (w 8), .ref (w 9), .ref (w 10), .ref (w 11), .ref (w 12), .ref (w 13), .int (lv 0), .int (lv 1), .int (lv 2), .int (lv 3), .int (lv 4), .int (lv 5)])), ((w 0), .inr (2, [.ref (w 1), .int n])), ((w 1), aB g 600 f), ((w 2), .inr (1, [.ref (w 3), .ref (w 4), .ref (w 5), .ref (w 6), .int lo])), ((w 4), aB g 600 fb), ((w 5), aB g 600 fw), ((w 6), aB g 600 fd), ((w 7), aI g 200 tg), ((w 13), aI g 75 cd), ((q 0), .inr (2, [.ref r, .int 0])), (r, aB g 600 f1)]) (As := [.ref (q 0)]) (rest := []) E hB hK hZ (c_Layout_begin l g H.size (q 6) (q 0) r w n 0 lo lv f f1 fb fw fd tg cd hf1) mc_Layout_begin mi_Layout_begin me_Layout_begin wd_344 hP hD hS hA [5, 6, 7, 8, 9, 10, 11, 12, 13, 1, 2] rfl (by decide) 0 rfl rfl rfl rfl rfl (by decide) rfl hl.1 rfl (Nat.le_of_ble_eq_true rfl) (by decide) d_Ship_audit_8) hP hD hS hA [5, 6, 7, 8, 9, 10, 11, 12, 13, 1, 2] [0, 3, 4] rfl rfl (by decide) (by decide) (fun u2 H locs hr1 hP hD hS => ?_)
  try dsimp only at hr1
  have hP : va_P g.1 classes [(h0, .inr (9, [.ref (q 0), .ref (q 1), .ref (q 2), .ref (q 3), .ref (q 4), .ref (q 5), .ref (q 6), .ref (q 7), .int ig])), ((q 1), .inr (0, [.int fa, .int fp])), ((q 3), .inr (7, [x0, x1, x2, x3])), ((q 6), .inr (3, [.ref (w 0), .ref (w 2), .ref (w 7), .ref (w 8), .ref (w 9), .ref (w 10), .ref (w 11), .ref (w 12), .ref (w 13), .int 0, .int (lv 1), .int 0, .int 0, .int 0, .int (lv 5)])), ((w 0), .inr (2, [.ref (w 1), .int 0])), ((w 1), aB g 600 f1), ((w 2), .inr (1, [.ref (w 3), .ref (w 4), .ref (w 5), .ref (w 6), .int 600])), ((w 4), aB g 600 (fun _ => 0)), ((w 5), aB g 600 (fun _ => 0)), ((w 6), aB g 600 (fun _ => -1)), ((w 7), aI g 200 (fun _ => 0)), ((w 13), aI g 75 (fun _ => 0)), ((q 0), .inr (2, [.ref r, .int 0])), (r, aB g 600 f1)] H := hP
  have hD : va_D A [(h0, .inr (9, [.ref (q 0), .ref (q 1), .ref (q 2), .ref (q 3), .ref (q 4), .ref (q 5), .ref (q 6), .ref (q 7), .int ig])), ((q 1), .inr (0, [.int fa, .int fp])), ((q 3), .inr (7, [x0, x1, x2, x3])), ((q 6), .inr (3, [.ref (w 0), .ref (w 2), .ref (w 7), .ref (w 8), .ref (w 9), .ref (w 10), .ref (w 11), .ref (w 12), .ref (w 13), .int 0, .int (lv 1), .int 0, .int 0, .int 0, .int (lv 5)])), ((w 0), .inr (2, [.ref (w 1), .int 0])), ((w 1), aB g 600 f1), ((w 2), .inr (1, [.ref (w 3), .ref (w 4), .ref (w 5), .ref (w 6), .int 600])), ((w 4), aB g 600 (fun _ => 0)), ((w 5), aB g 600 (fun _ => 0)), ((w 6), aB g 600 (fun _ => -1)), ((w 7), aI g 200 (fun _ => 0)), ((w 13), aI g 75 (fun _ => 0)), ((q 0), .inr (2, [.ref r, .int 0])), (r, aB g 600 f1)] := hD
  have hP : va_P g.1 classes [(h0, .inr (9, [.ref (q 0), .ref (q 1), .ref (q 2), .ref (q 3), .ref (q 4), .ref (q 5), .ref (q 6), .ref (q 7), .int ig])), ((q 0), .inr (2, [.ref r, .int 0])), (r, aB g 600 f1), ((q 1), .inr (0, [.int fa, .int fp])), ((q 3), .inr (7, [x0, x1, x2, x3])), ((q 6), .inr (3, [.ref (w 0), .ref (w 2), .ref (w 7), .ref (w 8), .ref (w 9), .ref (w 10), .ref (w 11), .ref (w 12), .ref (w 13), .int 0, .int (lv 1), .int 0, .int 0, .int 0, .int (lv 5)])), ((w 0), .inr (2, [.ref (w 1), .int 0])), ((w 1), aB g 600 f1), ((w 2), .inr (1, [.ref (w 3), .ref (w 4), .ref (w 5), .ref (w 6), .int 600])), ((w 4), aB g 600 (fun _ => 0)), ((w 5), aB g 600 (fun _ => 0)), ((w 6), aB g 600 (fun _ => -1)), ((w 7), aI g 200 (fun _ => 0)), ((w 13), aI g 75 (fun _ => 0))] H := hP.sub [0, 12, 13, 1, 2, 3, 4, 5, 6, 7, 8, 9, 10, 11] rfl
  have hD : va_D A [(h0, .inr (9, [.ref (q 0), .ref (q 1), .ref (q 2), .ref (q 3), .ref (q 4), .ref (q 5), .ref (q 6), .ref (q 7), .int ig])), ((q 0), .inr (2, [.ref r, .int 0])), (r, aB g 600 f1), ((q 1), .inr (0, [.int fa, .int fp])), ((q 3), .inr (7, [x0, x1, x2, x3])), ((q 6), .inr (3, [.ref (w 0), .ref (w 2), .ref (w 7), .ref (w 8), .ref (w 9), .ref (w 10), .ref (w 11), .ref (w 12), .ref (w 13), .int 0, .int (lv 1), .int 0, .int 0, .int 0, .int (lv 5)])), ((w 0), .inr (2, [.ref (w 1), .int 0])), ((w 1), aB g 600 f1), ((w 2), .inr (1, [.ref (w 3), .ref (w 4), .ref (w 5), .ref (w 6), .int 600])), ((w 4), aB g 600 (fun _ => 0)), ((w 5), aB g 600 (fun _ => 0)), ((w 6), aB g 600 (fun _ => -1)), ((w 7), aI g 200 (fun _ => 0)), ((w 13), aI g 75 (fun _ => 0))] := hD.sub [0, 12, 13, 1, 2, 3, 4, 5, 6, 7, 8, 9, 10, 11] (by decide) rfl
  refine lv_aload_n hx hb d_Ship_audit_11 rfl (lv_at hl 0 rfl) ?_
  refine va_get (D := g.1) (ci := 9) (v := .ref (q 1)) (C := R_Ship) (T := F_Ship) (N := 9) hx hb hts in_Ship hown hK hP 0 rfl rfl 1 (by decide) (hts _ wd_313) (fun _ h9 => h9) rfl d_Ship_audit_12 ?_
  refine tw_wv (wr := [(h0, .inr (9, [.ref (q 0), .ref (q 1), .ref (q 2), .ref (q 3), .ref (q 4), .ref (q 5), .ref (q 6), .ref (q 7), .int ig])), ((q 0), .inr (2, [.ref r, .int 0])), (r, aB g 600 f1), ((q 3), .inr (7, [x0, x1, x2, x3])), ((q 6), .inr (3, [.ref (w 0), .ref (w 2), .ref (w 7), .ref (w 8), .ref (w 9), .ref (w 10), .ref (w 11), .ref (w 12), .ref (w 13), .int 0, .int (lv 1), .int 0, .int 0, .int 0, .int (lv 5)])), ((w 0), .inr (2, [.ref (w 1), .int 0])), ((w 1), aB g 600 f1), ((w 2), .inr (1, [.ref (w 3), .ref (w 4), .ref (w 5), .ref (w 6), .int 600])), ((w 4), aB g 600 (fun _ => 0)), ((w 5), aB g 600 (fun _ => 0)), ((w 6), aB g 600 (fun _ => -1)), ((w 7), aI g 200 (fun _ => 0)), ((w 13), aI g 75 (fun _ => 0))]) (tw_runV (ws := [(h0, .inr (9, [.ref (q 0), .ref (q 1), .ref (q 2), .ref (q 3), .ref (q 4), .ref (q 5), .ref (q 6), .ref (q 7), .int ig])), ((q 0), .inr (2, [.ref r, .int 0])), (r, aB g 600 f1), ((q 1), .inr (0, [.int fa, .int fp])), ((q 3), .inr (7, [x0, x1, x2, x3])), ((q 6), .inr (3, [.ref (w 0), .ref (w 2), .ref (w 7), .ref (w 8), .ref (w 9), .ref (w 10), .ref (w 11), .ref (w 12), .ref (w 13), .int 0, .int (lv 1), .int 0, .int 0, .int 0, .int (lv 5)])), ((w 0), .inr (2, [.ref (w 1), .int 0])), ((w 1), aB g 600 f1), ((w 2), .inr (1, [.ref (w 3), .ref (w 4), .ref (w 5), .ref (w 6), .int 600])), ((w 4), aB g 600 (fun _ => 0)), ((w 5), aB g 600 (fun _ => 0)), ((w 6), aB g 600 (fun _ => -1)), ((w 7), aI g 200 (fun _ => 0)), ((w 13), aI g 75 (fun _ => 0))]) (wc := [((q 1), .inr (0, [.int fa, .int fp]))]) (As := []) (rest := []) E hB hK hZ (c_Finding_clear l g H.size (q 1) fa fp) mc_Finding_clear mi_Finding_clear me_Finding_clear wd_365 hP hD hS hA [3] rfl (by decide) 0 rfl rfl rfl rfl rfl (by decide) rfl hl.1 rfl (Nat.le_of_ble_eq_true rfl) (by decide) d_Ship_audit_15) hP hD hS hA [3] [0, 1, 2, 4, 5, 6, 7, 8, 9, 10, 11, 12, 13] rfl rfl (by decide) (by decide) (fun u4 H locs hr3 hP hD hS => ?_)
  try dsimp only at hr3
  have hP : va_P g.1 classes [(h0, .inr (9, [.ref (q 0), .ref (q 1), .ref (q 2), .ref (q 3), .ref (q 4), .ref (q 5), .ref (q 6), .ref (q 7), .int ig])), ((q 0), .inr (2, [.ref r, .int 0])), (r, aB g 600 f1), ((q 3), .inr (7, [x0, x1, x2, x3])), ((q 6), .inr (3, [.ref (w 0), .ref (w 2), .ref (w 7), .ref (w 8), .ref (w 9), .ref (w 10), .ref (w 11), .ref (w 12), .ref (w 13), .int 0, .int (lv 1), .int 0, .int 0, .int 0, .int (lv 5)])), ((w 0), .inr (2, [.ref (w 1), .int 0])), ((w 1), aB g 600 f1), ((w 2), .inr (1, [.ref (w 3), .ref (w 4), .ref (w 5), .ref (w 6), .int 600])), ((w 4), aB g 600 (fun _ => 0)), ((w 5), aB g 600 (fun _ => 0)), ((w 6), aB g 600 (fun _ => -1)), ((w 7), aI g 200 (fun _ => 0)), ((w 13), aI g 75 (fun _ => 0)), ((q 1), .inr (0, [.int 0, .int (-1)]))] H := hP
  have hD : va_D A [(h0, .inr (9, [.ref (q 0), .ref (q 1), .ref (q 2), .ref (q 3), .ref (q 4), .ref (q 5), .ref (q 6), .ref (q 7), .int ig])), ((q 0), .inr (2, [.ref r, .int 0])), (r, aB g 600 f1), ((q 3), .inr (7, [x0, x1, x2, x3])), ((q 6), .inr (3, [.ref (w 0), .ref (w 2), .ref (w 7), .ref (w 8), .ref (w 9), .ref (w 10), .ref (w 11), .ref (w 12), .ref (w 13), .int 0, .int (lv 1), .int 0, .int 0, .int 0, .int (lv 5)])), ((w 0), .inr (2, [.ref (w 1), .int 0])), ((w 1), aB g 600 f1), ((w 2), .inr (1, [.ref (w 3), .ref (w 4), .ref (w 5), .ref (w 6), .int 600])), ((w 4), aB g 600 (fun _ => 0)), ((w 5), aB g 600 (fun _ => 0)), ((w 6), aB g 600 (fun _ => -1)), ((w 7), aI g 200 (fun _ => 0)), ((w 13), aI g 75 (fun _ => 0)), ((q 1), .inr (0, [.int 0, .int (-1)]))] := hD
  have hP : va_P g.1 classes [(h0, .inr (9, [.ref (q 0), .ref (q 1), .ref (q 2), .ref (q 3), .ref (q 4), .ref (q 5), .ref (q 6), .ref (q 7), .int ig])), ((q 0), .inr (2, [.ref r, .int 0])), (r, aB g 600 f1), ((q 1), .inr (0, [.int 0, .int (-1)])), ((q 3), .inr (7, [x0, x1, x2, x3])), ((q 6), .inr (3, [.ref (w 0), .ref (w 2), .ref (w 7), .ref (w 8), .ref (w 9), .ref (w 10), .ref (w 11), .ref (w 12), .ref (w 13), .int 0, .int (lv 1), .int 0, .int 0, .int 0, .int (lv 5)])), ((w 0), .inr (2, [.ref (w 1), .int 0])), ((w 1), aB g 600 f1), ((w 2), .inr (1, [.ref (w 3), .ref (w 4), .ref (w 5), .ref (w 6), .int 600])), ((w 4), aB g 600 (fun _ => 0)), ((w 5), aB g 600 (fun _ => 0)), ((w 6), aB g 600 (fun _ => -1)), ((w 7), aI g 200 (fun _ => 0)), ((w 13), aI g 75 (fun _ => 0))] H := hP.sub [0, 1, 2, 13, 3, 4, 5, 6, 7, 8, 9, 10, 11, 12] rfl
  have hD : va_D A [(h0, .inr (9, [.ref (q 0), .ref (q 1), .ref (q 2), .ref (q 3), .ref (q 4), .ref (q 5), .ref (q 6), .ref (q 7), .int ig])), ((q 0), .inr (2, [.ref r, .int 0])), (r, aB g 600 f1), ((q 1), .inr (0, [.int 0, .int (-1)])), ((q 3), .inr (7, [x0, x1, x2, x3])), ((q 6), .inr (3, [.ref (w 0), .ref (w 2), .ref (w 7), .ref (w 8), .ref (w 9), .ref (w 10), .ref (w 11), .ref (w 12), .ref (w 13), .int 0, .int (lv 1), .int 0, .int 0, .int 0, .int (lv 5)])), ((w 0), .inr (2, [.ref (w 1), .int 0])), ((w 1), aB g 600 f1), ((w 2), .inr (1, [.ref (w 3), .ref (w 4), .ref (w 5), .ref (w 6), .int 600])), ((w 4), aB g 600 (fun _ => 0)), ((w 5), aB g 600 (fun _ => 0)), ((w 6), aB g 600 (fun _ => -1)), ((w 7), aI g 200 (fun _ => 0)), ((w 13), aI g 75 (fun _ => 0))] := hD.sub [0, 1, 2, 13, 3, 4, 5, 6, 7, 8, 9, 10, 11, 12] (by decide) rfl
  refine lv_aload_n hx hb d_Ship_audit_18 rfl (lv_at hl 0 rfl) ?_
  refine va_get (D := g.1) (ci := 9) (v := .ref (q 3)) (C := R_Ship) (T := F_Ship) (N := 9) hx hb hts in_Ship hown hK hP 0 rfl rfl 3 (by decide) (hts _ wd_315) (fun _ h9 => h9) rfl d_Ship_audit_19 ?_
  refine lv_aload_n hx hb d_Ship_audit_22 rfl (lv_at hl 0 rfl) ?_
  refine va_get (D := g.1) (ci := 9) (v := .ref (q 6)) (C := R_Ship) (T := F_Ship) (N := 9) hx hb hts in_Ship hown hK hP 0 rfl rfl 6 (by decide) (hts _ wd_318) (fun _ h9 => h9) rfl d_Ship_audit_23 ?_
  refine lv_aload_n hx hb d_Ship_audit_26 rfl (lv_at hl 0 rfl) ?_
  refine va_get (D := g.1) (ci := 9) (v := .ref (q 1)) (C := R_Ship) (T := F_Ship) (N := 9) hx hb hts in_Ship hown hK hP 0 rfl rfl 1 (by decide) (hts _ wd_313) (fun _ h9 => h9) rfl d_Ship_audit_27 ?_
  refine tw_wi (wr := [(h0, .inr (9, [.ref (q 0), .ref (q 1), .ref (q 2), .ref (q 3), .ref (q 4), .ref (q 5), .ref (q 6), .ref (q 7), .int ig])), ((q 0), .inr (2, [.ref r, .int 0])), (r, aB g 600 f1), ((w 1), aB g 600 f1), ((w 2), .inr (1, [.ref (w 3), .ref (w 4), .ref (w 5), .ref (w 6), .int 600])), ((w 4), aB g 600 (fun _ => 0)), ((w 5), aB g 600 (fun _ => 0)), ((w 6), aB g 600 (fun _ => -1)), ((w 7), aI g 200 (fun _ => 0)), ((w 13), aI g 75 (fun _ => 0))]) (tw_runV (ws := [(h0, .inr (9, [.ref (q 0), .ref (q 1), .ref (q 2), .ref (q 3), .ref (q 4), .ref (q 5), .ref (q 6), .ref (q 7), .int ig])), ((q 0), .inr (2, [.ref r, .int 0])), (r, aB g 600 f1), ((q 1), .inr (0, [.int 0, .int (-1)])), ((q 3), .inr (7, [x0, x1, x2, x3])), ((q 6), .inr (3, [.ref (w 0), .ref (w 2), .ref (w 7), .ref (w 8), .ref (w 9), .ref (w 10), .ref (w 11), .ref (w 12), .ref (w 13), .int 0, .int (lv 1), .int 0, .int 0, .int 0, .int (lv 5)])), ((w 0), .inr (2, [.ref (w 1), .int 0])), ((w 1), aB g 600 f1), ((w 2), .inr (1, [.ref (w 3), .ref (w 4), .ref (w 5), .ref (w 6), .int 600])), ((w 4), aB g 600 (fun _ => 0)), ((w 5), aB g 600 (fun _ => 0)), ((w 6), aB g 600 (fun _ => -1)), ((w 7), aI g 200 (fun _ => 0)), ((w 13), aI g 75 (fun _ => 0))]) (wc := [((q 3), .inr (7, [x0, x1, x2, x3])), ((q 6), .inr (3, [.ref (w 0), .ref (w 2), .ref (w 7), .ref (w 8), .ref (w 9), .ref (w 10), .ref (w 11), .ref (w 12), .ref (w 13), .int 0, .int (lv 1), .int 0, .int 0, .int 0, .int (lv 5)])), ((w 0), .inr (2, [.ref (w 1), .int 0])), ((q 1), .inr (0, [.int 0, .int (-1)]))]) (As := [.ref (q 6), .ref (q 1)]) (rest := []) E hB hK hZ (c_Reader_reads0 l g H.size (q 3) (q 6) (q 1) w x0 x1 x2 x3 (fun k => [0, lv 1, 0, 0, 0, lv 5].getD k 0) 0 (-1)) mc_Reader_reads mi_Reader_reads me_Reader_reads wd_369 hP hD hS hA [4, 5, 6, 3] rfl (by decide) 0 rfl rfl rfl rfl rfl (by decide) rfl hl.1 rfl (Nat.le_of_ble_eq_true rfl) (by decide) d_Ship_audit_30) hP hD hS hA [4, 5, 6, 3] [0, 1, 2, 7, 8, 9, 10, 11, 12, 13] rfl rfl (by decide) (by decide) (fun r5 u6 H locs hr5 hP hD hS => ?_)
  try dsimp only at hr5
  have hP : va_P g.1 classes [(h0, .inr (9, [.ref (q 0), .ref (q 1), .ref (q 2), .ref (q 3), .ref (q 4), .ref (q 5), .ref (q 6), .ref (q 7), .int ig])), ((q 0), .inr (2, [.ref r, .int 0])), (r, aB g 600 f1), ((w 1), aB g 600 f1), ((w 2), .inr (1, [.ref (w 3), .ref (w 4), .ref (w 5), .ref (w 6), .int 600])), ((w 4), aB g 600 (fun _ => 0)), ((w 5), aB g 600 (fun _ => 0)), ((w 6), aB g 600 (fun _ => -1)), ((w 7), aI g 200 (fun _ => 0)), ((w 13), aI g 75 (fun _ => 0)), ((q 3), .inr (7, [.ref (q 6), .ref (w 0), .ref (q 1), .int 0])), ((q 6), .inr (3, [.ref (w 0), .ref (w 2), .ref (w 7), .ref (w 8), .ref (w 9), .ref (w 10), .ref (w 11), .ref (w 12), .ref (w 13), .int 0, .int (lv 1), .int 0, .int 0, .int 0, .int (lv 5)])), ((w 0), .inr (2, [.ref (w 1), .int 0])), ((q 1), .inr (0, [.int 1, .int 0]))] H := hP
  have hD : va_D A [(h0, .inr (9, [.ref (q 0), .ref (q 1), .ref (q 2), .ref (q 3), .ref (q 4), .ref (q 5), .ref (q 6), .ref (q 7), .int ig])), ((q 0), .inr (2, [.ref r, .int 0])), (r, aB g 600 f1), ((w 1), aB g 600 f1), ((w 2), .inr (1, [.ref (w 3), .ref (w 4), .ref (w 5), .ref (w 6), .int 600])), ((w 4), aB g 600 (fun _ => 0)), ((w 5), aB g 600 (fun _ => 0)), ((w 6), aB g 600 (fun _ => -1)), ((w 7), aI g 200 (fun _ => 0)), ((w 13), aI g 75 (fun _ => 0)), ((q 3), .inr (7, [.ref (q 6), .ref (w 0), .ref (q 1), .int 0])), ((q 6), .inr (3, [.ref (w 0), .ref (w 2), .ref (w 7), .ref (w 8), .ref (w 9), .ref (w 10), .ref (w 11), .ref (w 12), .ref (w 13), .int 0, .int (lv 1), .int 0, .int 0, .int 0, .int (lv 5)])), ((w 0), .inr (2, [.ref (w 1), .int 0])), ((q 1), .inr (0, [.int 1, .int 0]))] := hD
  obtain rfl : r5 = 0 := hr5
  have hP : va_P g.1 classes [(h0, .inr (9, [.ref (q 0), .ref (q 1), .ref (q 2), .ref (q 3), .ref (q 4), .ref (q 5), .ref (q 6), .ref (q 7), .int ig])), ((q 0), .inr (2, [.ref r, .int 0])), (r, aB g 600 f1), ((q 1), .inr (0, [.int 1, .int 0])), ((q 3), .inr (7, [.ref (q 6), .ref (w 0), .ref (q 1), .int 0])), ((q 6), .inr (3, [.ref (w 0), .ref (w 2), .ref (w 7), .ref (w 8), .ref (w 9), .ref (w 10), .ref (w 11), .ref (w 12), .ref (w 13), .int 0, .int (lv 1), .int 0, .int 0, .int 0, .int (lv 5)])), ((w 0), .inr (2, [.ref (w 1), .int 0])), ((w 1), aB g 600 f1), ((w 2), .inr (1, [.ref (w 3), .ref (w 4), .ref (w 5), .ref (w 6), .int 600])), ((w 4), aB g 600 (fun _ => 0)), ((w 5), aB g 600 (fun _ => 0)), ((w 6), aB g 600 (fun _ => -1)), ((w 7), aI g 200 (fun _ => 0)), ((w 13), aI g 75 (fun _ => 0))] H := hP.sub [0, 1, 2, 13, 10, 11, 12, 3, 4, 5, 6, 7, 8, 9] rfl
  have hD : va_D A [(h0, .inr (9, [.ref (q 0), .ref (q 1), .ref (q 2), .ref (q 3), .ref (q 4), .ref (q 5), .ref (q 6), .ref (q 7), .int ig])), ((q 0), .inr (2, [.ref r, .int 0])), (r, aB g 600 f1), ((q 1), .inr (0, [.int 1, .int 0])), ((q 3), .inr (7, [.ref (q 6), .ref (w 0), .ref (q 1), .int 0])), ((q 6), .inr (3, [.ref (w 0), .ref (w 2), .ref (w 7), .ref (w 8), .ref (w 9), .ref (w 10), .ref (w 11), .ref (w 12), .ref (w 13), .int 0, .int (lv 1), .int 0, .int 0, .int 0, .int (lv 5)])), ((w 0), .inr (2, [.ref (w 1), .int 0])), ((w 1), aB g 600 f1), ((w 2), .inr (1, [.ref (w 3), .ref (w 4), .ref (w 5), .ref (w 6), .int 600])), ((w 4), aB g 600 (fun _ => 0)), ((w 5), aB g 600 (fun _ => 0)), ((w 6), aB g 600 (fun _ => -1)), ((w 7), aI g 200 (fun _ => 0)), ((w 13), aI g 75 (fun _ => 0))] := hD.sub [0, 1, 2, 13, 10, 11, 12, 3, 4, 5, 6, 7, 8, 9] (by decide) rfl
  refine lv_if_eq (tgt := 113) hx hb d_Ship_audit_33 (by decide) (fun h33 => ?_) (fun h33 => ?_)
  · refine lv_aload_n hx hb d_Ship_audit_113 rfl (lv_at hl 0 rfl) ?_
    refine va_get (D := g.1) (ci := 9) (v := .ref (q 1)) (C := R_Ship) (T := F_Ship) (N := 9) hx hb hts in_Ship hown hK hP 0 rfl rfl 1 (by decide) (hts _ wd_313) (fun _ h9 => h9) rfl d_Ship_audit_114 ?_
    refine va_getN (D := g.1) (ci := 0) (v := .int 1) (C := R_Finding) (T := F_Finding) (N := 2) hx hb hts in_Finding hown hK hP 3 rfl rfl 0 (by decide) (hts _ wd_60) (fun _ h9 => h9) rfl d_Ship_audit_117 ?_
    exact tw_iret E hS () rfl hP hD d_Ship_audit_120
  · exact absurd rfl h33
end
section
def mo (q : Nat → Nat) (v : Nat → Int32) : List Value := [.int (v 0), .int (v 1), .ref (q 2), .ref (q 3), .ref (q 4), .ref (q 5), .int (v 6), .int (v 7), .int (v 8), .int (v 9), .int (v 10), .int (v 11), .int (v 12), .int (v 13), .ref (q 14), .ref (q 15), .ref (q 16), .ref (q 17), .int (v 18), .int (v 19), .int (v 20), .int (v 21), .ref (q 22), .ref (q 23), .int (v 24), .int (v 25), .int (v 26), .ref (q 27), .ref (q 28), .ref (q 29), .ref (q 30), .ref (q 31), .ref (q 32), .ref (q 33), .ref (q 34), .ref (q 35), .ref (q 36), .ref (q 37), .int (v 38), .ref (q 39), .ref (q 40), .ref (q 41), .ref (q 42), .ref (q 43), .int (v 44), .int (v 45), .int (v 46), .ref (q 47), .ref (q 48), .int (v 49), .ref (q 50), .int (v 51), .int (v 52), .ref (q 53), .ref (q 54), .ref (q 55), .ref (q 56), .ref (q 57), .ref (q 58), .ref (q 59), .ref (q 60)]
def is_in (x lo hi : Int32) : Int32 := if x < lo ∨ hi < x then 0 else 1
theorem is_in0 {x lo hi : Int32} (h : x < lo ∨ hi < x) : is_in x lo hi = 0 := if_pos h
theorem is_in1 {x lo hi : Int32} (h1 : ¬ x < lo) (h2 : ¬ hi < x) : is_in x lo hi = 1 := if_neg (fun h => h.elim h1 h2)
theorem is_inZ {x lo hi : Int32} (h : is_in x lo hi = 0) : x < lo ∨ hi < x := by
  unfold is_in at h
  split at h
  · assumption
  · exact absurd h (by decide)
theorem is_inN {x lo hi : Int32} (h : ¬ is_in x lo hi = 0) : ¬ x < lo ∧ ¬ hi < x := ⟨fun h1 => h (is_in0 (Or.inl h1)), fun h1 => h (is_in0 (Or.inr h1))⟩
theorem tn_isubN {pl : Int32} {n : Nat} (h1 : ¬ pl < 0) (h2 : ¬ nI n - 1 < pl) (hn : n ≤ 600) : pl < nI n := by
  obtain ⟨j, hj, rfl⟩ := nI_of h1
  have e := pk_sub_toInt (a := n) (b := 1) (by omega) (by omega)
  have e : (nI n - 1).toInt = (n : Int) - 1 := e
  rw [Int32.lt_iff_toInt_lt, e, nI_toInt hj] at h2
  exact nI_lt (by omega) (by omega)
theorem tn_isubZ {pl : Int32} {n : Nat} (h : pl < 0 ∨ nI n - 1 < pl) (hn : n ≤ 600) : pl < 0 ∨ nI n ≤ pl := by
  by_cases h1 : pl < 0
  · exact Or.inl h1
  · rcases h with h | h
    · exact absurd h h1
    · obtain ⟨j, hj, rfl⟩ := nI_of h1
      have e := pk_sub_toInt (a := n) (b := 1) (by omega) (by omega)
      have e : (nI n - 1).toInt = (n : Int) - 1 := e
      rw [Int32.lt_iff_toInt_lt, e, nI_toInt hj] at h
      exact Or.inr (nI_le (by omega) (by omega))
def mf_v (w : Int32) (k : Nat) : Int32 := (w >>> ((24 - 8 * (nI k - nI k / 4 * 4)) &&& 31)) &&& 255
def mf_f (f : Nat → Int32) (n : Nat) (a b c d : Int32) : Nat → (Nat → Int32)
  | 0 => f
  | k + 1 => upd (mf_f f n a b c d k) (n + k) (mf_v (fd_w a b c d k) k)
theorem d_Mod_audit_0 : decode b_Mod_audit 0 = .ok (.aload_n 0, 1) := by decide +kernel
theorem d_Mod_audit_1 : decode b_Mod_audit 1 = .ok (.iconst 0, 1) := by decide +kernel
theorem d_Mod_audit_2 : decode b_Mod_audit 2 = .ok (.putfield 133, 3) := by decide +kernel
theorem d_Mod_audit_5 : decode b_Mod_audit 5 = .ok (.aload_n 0, 1) := by decide +kernel
theorem d_Mod_audit_6 : decode b_Mod_audit 6 = .ok (.iconst 0, 1) := by decide +kernel
theorem d_Mod_audit_7 : decode b_Mod_audit 7 = .ok (.putfield 147, 3) := by decide +kernel
theorem d_Mod_audit_10 : decode b_Mod_audit 10 = .ok (.aload_n 0, 1) := by decide +kernel
theorem d_Mod_audit_11 : decode b_Mod_audit 11 = .ok (.iconst (-1), 1) := by decide +kernel
theorem d_Mod_audit_12 : decode b_Mod_audit 12 = .ok (.putfield 29, 3) := by decide +kernel
theorem d_Mod_audit_15 : decode b_Mod_audit 15 = .ok (.aload_n 0, 1) := by decide +kernel
theorem d_Mod_audit_16 : decode b_Mod_audit 16 = .ok (.invokevirtual 392, 3) := by decide +kernel
theorem d_Mod_audit_19 : decode b_Mod_audit 19 = .ok (.aload_n 0, 1) := by decide +kernel
theorem d_Mod_audit_20 : decode b_Mod_audit 20 = .ok (.getfield 147, 3) := by decide +kernel
theorem d_Mod_audit_23 : decode b_Mod_audit 23 = .ok (.ifCond .ne 7, 3) := by decide +kernel
theorem d_Mod_audit_30 : decode b_Mod_audit 30 = .ok (.aload_n 0, 1) := by decide +kernel
theorem d_Mod_audit_31 : decode b_Mod_audit 31 = .ok (.getfield 147, 3) := by decide +kernel
theorem d_Mod_audit_34 : decode b_Mod_audit 34 = .ok (.ifCond .ne 7, 3) := by decide +kernel
theorem d_Mod_audit_41 : decode b_Mod_audit 41 = .ok (.aload_n 0, 1) := by decide +kernel
theorem d_Mod_audit_42 : decode b_Mod_audit 42 = .ok (.getfield 232, 3) := by decide +kernel
theorem d_Mod_audit_45 : decode b_Mod_audit 45 = .ok (.istore_n 1, 1) := by decide +kernel
theorem d_Mod_audit_46 : decode b_Mod_audit 46 = .ok (.aload_n 0, 1) := by decide +kernel
theorem d_Mod_audit_47 : decode b_Mod_audit 47 = .ok (.getfield 147, 3) := by decide +kernel
theorem d_Mod_audit_50 : decode b_Mod_audit 50 = .ok (.ifCond .ne 31, 3) := by decide +kernel
theorem d_Mod_audit_81 : decode b_Mod_audit 81 = .ok (.aload_n 0, 1) := by decide +kernel
theorem d_Mod_audit_82 : decode b_Mod_audit 82 = .ok (.getfield 147, 3) := by decide +kernel
theorem d_Mod_audit_85 : decode b_Mod_audit 85 = .ok (.ifCond .ne 7, 3) := by decide +kernel
theorem d_Mod_audit_92 : decode b_Mod_audit 92 = .ok (.aload_n 0, 1) := by decide +kernel
theorem d_Mod_audit_93 : decode b_Mod_audit 93 = .ok (.getfield 147, 3) := by decide +kernel
theorem d_Mod_audit_96 : decode b_Mod_audit 96 = .ok (.ireturn, 1) := by decide +kernel
theorem d_Mod_count_0 : decode b_Mod_count 0 = .ok (.aload_n 0, 1) := by decide +kernel
theorem d_Mod_count_1 : decode b_Mod_count 1 = .ok (.aload_n 0, 1) := by decide +kernel
theorem d_Mod_count_2 : decode b_Mod_count 2 = .ok (.getfield 407, 3) := by decide +kernel
theorem d_Mod_count_5 : decode b_Mod_count 5 = .ok (.ifCond .ne 7, 3) := by decide +kernel
theorem d_Mod_count_8 : decode b_Mod_count 8 = .ok (.iconst 1, 1) := by decide +kernel
theorem d_Mod_count_9 : decode b_Mod_count 9 = .ok (.goto 18, 3) := by decide +kernel
theorem d_Mod_count_27 : decode b_Mod_count 27 = .ok (.invokevirtual 143, 3) := by decide +kernel
theorem d_Mod_count_30 : decode b_Mod_count 30 = .ok (.ifCond .eq 7, 3) := by decide +kernel
theorem d_Mod_count_33 : decode b_Mod_count 33 = .ok (.iconst 0, 1) := by decide +kernel
theorem d_Mod_count_34 : decode b_Mod_count 34 = .ok (.goto 9, 3) := by decide +kernel
theorem d_Mod_count_43 : decode b_Mod_count 43 = .ok (.ireturn, 1) := by decide +kernel
theorem d_Mod_cut_0 : decode b_Mod_cut 0 = .ok (.aload_n 0, 1) := by decide +kernel
theorem d_Mod_cut_1 : decode b_Mod_cut 1 = .ok (.iload_n 1, 1) := by decide +kernel
theorem d_Mod_cut_2 : decode b_Mod_cut 2 = .ok (.iconst 0, 1) := by decide +kernel
theorem d_Mod_cut_3 : decode b_Mod_cut 3 = .ok (.aload_n 0, 1) := by decide +kernel
theorem d_Mod_cut_4 : decode b_Mod_cut 4 = .ok (.getfield 140, 3) := by decide +kernel
theorem d_Mod_cut_7 : decode b_Mod_cut 7 = .ok (.invokestatic 136, 3) := by decide +kernel
theorem d_Mod_cut_10 : decode b_Mod_cut 10 = .ok (.ifCond .eq 7, 3) := by decide +kernel
theorem d_Mod_cut_13 : decode b_Mod_cut 13 = .ok (.iconst 0, 1) := by decide +kernel
theorem d_Mod_cut_14 : decode b_Mod_cut 14 = .ok (.goto 4, 3) := by decide +kernel
theorem d_Mod_cut_17 : decode b_Mod_cut 17 = .ok (.iconst 1, 1) := by decide +kernel
theorem d_Mod_cut_18 : decode b_Mod_cut 18 = .ok (.invokevirtual 143, 3) := by decide +kernel
theorem d_Mod_cut_21 : decode b_Mod_cut 21 = .ok (.ifCond .eq 5, 3) := by decide +kernel
theorem d_Mod_cut_24 : decode b_Mod_cut 24 = .ok (.iconst 0, 1) := by decide +kernel
theorem d_Mod_cut_25 : decode b_Mod_cut 25 = .ok (.ireturn, 1) := by decide +kernel
theorem d_Mod_cut_26 : decode b_Mod_cut 26 = .ok (.aload_n 0, 1) := by decide +kernel
theorem d_Mod_cut_27 : decode b_Mod_cut 27 = .ok (.getfield 140, 3) := by decide +kernel
theorem d_Mod_cut_30 : decode b_Mod_cut 30 = .ok (.iload_n 1, 1) := by decide +kernel
theorem d_Mod_cut_31 : decode b_Mod_cut 31 = .ok (.isub, 1) := by decide +kernel
theorem d_Mod_cut_32 : decode b_Mod_cut 32 = .ok (.istore_n 2, 1) := by decide +kernel
theorem d_Mod_cut_33 : decode b_Mod_cut 33 = .ok (.aload_n 0, 1) := by decide +kernel
theorem d_Mod_cut_34 : decode b_Mod_cut 34 = .ok (.iload_n 1, 1) := by decide +kernel
theorem d_Mod_cut_35 : decode b_Mod_cut 35 = .ok (.putfield 140, 3) := by decide +kernel
theorem d_Mod_cut_38 : decode b_Mod_cut 38 = .ok (.iload_n 2, 1) := by decide +kernel
theorem d_Mod_cut_39 : decode b_Mod_cut 39 = .ok (.ireturn, 1) := by decide +kernel
theorem d_Mod_depth_0 : decode b_Mod_depth 0 = .ok (.aload_n 0, 1) := by decide +kernel
theorem d_Mod_depth_1 : decode b_Mod_depth 1 = .ok (.aload_n 0, 1) := by decide +kernel
theorem d_Mod_depth_2 : decode b_Mod_depth 2 = .ok (.getfield 407, 3) := by decide +kernel
theorem d_Mod_depth_5 : decode b_Mod_depth 5 = .ok (.ifCond .eq 7, 3) := by decide +kernel
theorem d_Mod_depth_12 : decode b_Mod_depth 12 = .ok (.iconst 1, 1) := by decide +kernel
theorem d_Mod_depth_13 : decode b_Mod_depth 13 = .ok (.invokevirtual 143, 3) := by decide +kernel
theorem d_Mod_depth_16 : decode b_Mod_depth 16 = .ok (.ifCond .eq 5, 3) := by decide +kernel
theorem d_Mod_depth_19 : decode b_Mod_depth 19 = .ok (.iconst 0, 1) := by decide +kernel
theorem d_Mod_depth_20 : decode b_Mod_depth 20 = .ok (.ireturn, 1) := by decide +kernel
theorem d_Mod_fail_0 : decode b_Mod_fail 0 = .ok (.aload_n 0, 1) := by decide +kernel
theorem d_Mod_fail_1 : decode b_Mod_fail 1 = .ok (.getfield 147, 3) := by decide +kernel
theorem d_Mod_fail_4 : decode b_Mod_fail 4 = .ok (.ifCond .ne 13, 3) := by decide +kernel
theorem d_Mod_fail_7 : decode b_Mod_fail 7 = .ok (.aload_n 0, 1) := by decide +kernel
theorem d_Mod_fail_8 : decode b_Mod_fail 8 = .ok (.iload_n 1, 1) := by decide +kernel
theorem d_Mod_fail_9 : decode b_Mod_fail 9 = .ok (.putfield 147, 3) := by decide +kernel
theorem d_Mod_fail_12 : decode b_Mod_fail 12 = .ok (.aload_n 0, 1) := by decide +kernel
theorem d_Mod_fail_13 : decode b_Mod_fail 13 = .ok (.iload_n 2, 1) := by decide +kernel
theorem d_Mod_fail_14 : decode b_Mod_fail 14 = .ok (.putfield 29, 3) := by decide +kernel
theorem d_Mod_fail_17 : decode b_Mod_fail 17 = .ok (.return_, 1) := by decide +kernel
theorem d_Mod_feed_0 : decode b_Mod_feed 0 = .ok (.aload_n 0, 1) := by decide +kernel
theorem d_Mod_feed_1 : decode b_Mod_feed 1 = .ok (.iload_n 1, 1) := by decide +kernel
theorem d_Mod_feed_2 : decode b_Mod_feed 2 = .ok (.iconst 0, 1) := by decide +kernel
theorem d_Mod_feed_3 : decode b_Mod_feed 3 = .ok (.bipush 16, 2) := by decide +kernel
theorem d_Mod_feed_5 : decode b_Mod_feed 5 = .ok (.invokestatic 136, 3) := by decide +kernel
theorem d_Mod_feed_8 : decode b_Mod_feed 8 = .ok (.ifCond .ne 7, 3) := by decide +kernel
theorem d_Mod_feed_11 : decode b_Mod_feed 11 = .ok (.iconst 1, 1) := by decide +kernel
theorem d_Mod_feed_12 : decode b_Mod_feed 12 = .ok (.goto 20, 3) := by decide +kernel
theorem d_Mod_feed_15 : decode b_Mod_feed 15 = .ok (.aload_n 0, 1) := by decide +kernel
theorem d_Mod_feed_16 : decode b_Mod_feed 16 = .ok (.getfield 140, 3) := by decide +kernel
theorem d_Mod_feed_19 : decode b_Mod_feed 19 = .ok (.iload_n 1, 1) := by decide +kernel
theorem d_Mod_feed_20 : decode b_Mod_feed 20 = .ok (.iadd, 1) := by decide +kernel
theorem d_Mod_feed_21 : decode b_Mod_feed 21 = .ok (.sipush 600, 3) := by decide +kernel
theorem d_Mod_feed_24 : decode b_Mod_feed 24 = .ok (.if_icmp .le 7, 3) := by decide +kernel
theorem d_Mod_feed_27 : decode b_Mod_feed 27 = .ok (.iconst 2, 1) := by decide +kernel
theorem d_Mod_feed_28 : decode b_Mod_feed 28 = .ok (.goto 4, 3) := by decide +kernel
theorem d_Mod_feed_31 : decode b_Mod_feed 31 = .ok (.iconst 0, 1) := by decide +kernel
theorem d_Mod_feed_32 : decode b_Mod_feed 32 = .ok (.invokevirtual 143, 3) := by decide +kernel
theorem d_Mod_feed_35 : decode b_Mod_feed 35 = .ok (.ifCond .eq 5, 3) := by decide +kernel
theorem d_Mod_feed_38 : decode b_Mod_feed 38 = .ok (.iconst 0, 1) := by decide +kernel
theorem d_Mod_feed_39 : decode b_Mod_feed 39 = .ok (.ireturn, 1) := by decide +kernel
theorem d_Mod_feed_40 : decode b_Mod_feed 40 = .ok (.iconst 0, 1) := by decide +kernel
theorem d_Mod_feed_41 : decode b_Mod_feed 41 = .ok (.istore 6, 2) := by decide +kernel
theorem d_Mod_feed_43 : decode b_Mod_feed 43 = .ok (.iload 6, 2) := by decide +kernel
theorem d_Mod_feed_45 : decode b_Mod_feed 45 = .ok (.iload_n 1, 1) := by decide +kernel
theorem d_Mod_feed_46 : decode b_Mod_feed 46 = .ok (.if_icmp .ge 82, 3) := by decide +kernel
theorem d_Mod_feed_49 : decode b_Mod_feed 49 = .ok (.iload 6, 2) := by decide +kernel
theorem d_Mod_feed_51 : decode b_Mod_feed 51 = .ok (.iconst 4, 1) := by decide +kernel
theorem d_Mod_feed_52 : decode b_Mod_feed 52 = .ok (.if_icmp .ge 7, 3) := by decide +kernel
theorem d_Mod_feed_55 : decode b_Mod_feed 55 = .ok (.iload_n 2, 1) := by decide +kernel
theorem d_Mod_feed_56 : decode b_Mod_feed 56 = .ok (.goto 28, 3) := by decide +kernel
theorem d_Mod_feed_59 : decode b_Mod_feed 59 = .ok (.iload 6, 2) := by decide +kernel
theorem d_Mod_feed_61 : decode b_Mod_feed 61 = .ok (.bipush 8, 2) := by decide +kernel
theorem d_Mod_feed_63 : decode b_Mod_feed 63 = .ok (.if_icmp .ge 7, 3) := by decide +kernel
theorem d_Mod_feed_66 : decode b_Mod_feed 66 = .ok (.iload_n 3, 1) := by decide +kernel
theorem d_Mod_feed_67 : decode b_Mod_feed 67 = .ok (.goto 17, 3) := by decide +kernel
theorem d_Mod_feed_70 : decode b_Mod_feed 70 = .ok (.iload 6, 2) := by decide +kernel
theorem d_Mod_feed_72 : decode b_Mod_feed 72 = .ok (.bipush 12, 2) := by decide +kernel
theorem d_Mod_feed_74 : decode b_Mod_feed 74 = .ok (.if_icmp .ge 8, 3) := by decide +kernel
theorem d_Mod_feed_77 : decode b_Mod_feed 77 = .ok (.iload 4, 2) := by decide +kernel
theorem d_Mod_feed_79 : decode b_Mod_feed 79 = .ok (.goto 5, 3) := by decide +kernel
theorem d_Mod_feed_82 : decode b_Mod_feed 82 = .ok (.iload 5, 2) := by decide +kernel
theorem d_Mod_feed_84 : decode b_Mod_feed 84 = .ok (.istore 7, 2) := by decide +kernel
theorem d_Mod_feed_86 : decode b_Mod_feed 86 = .ok (.aload_n 0, 1) := by decide +kernel
theorem d_Mod_feed_87 : decode b_Mod_feed 87 = .ok (.getfield 7, 3) := by decide +kernel
theorem d_Mod_feed_90 : decode b_Mod_feed 90 = .ok (.aload_n 0, 1) := by decide +kernel
theorem d_Mod_feed_91 : decode b_Mod_feed 91 = .ok (.getfield 140, 3) := by decide +kernel
theorem d_Mod_feed_94 : decode b_Mod_feed 94 = .ok (.iload 7, 2) := by decide +kernel
theorem d_Mod_feed_96 : decode b_Mod_feed 96 = .ok (.bipush 24, 2) := by decide +kernel
theorem d_Mod_feed_98 : decode b_Mod_feed 98 = .ok (.bipush 8, 2) := by decide +kernel
theorem d_Mod_feed_100 : decode b_Mod_feed 100 = .ok (.iload 6, 2) := by decide +kernel
theorem d_Mod_feed_102 : decode b_Mod_feed 102 = .ok (.iconst 4, 1) := by decide +kernel
theorem d_Mod_feed_103 : decode b_Mod_feed 103 = .ok (.irem, 1) := by decide +kernel
theorem d_Mod_feed_104 : decode b_Mod_feed 104 = .ok (.imul, 1) := by decide +kernel
theorem d_Mod_feed_105 : decode b_Mod_feed 105 = .ok (.isub, 1) := by decide +kernel
theorem d_Mod_feed_106 : decode b_Mod_feed 106 = .ok (.ishr, 1) := by decide +kernel
theorem d_Mod_feed_107 : decode b_Mod_feed 107 = .ok (.sipush 255, 3) := by decide +kernel
theorem d_Mod_feed_110 : decode b_Mod_feed 110 = .ok (.iand, 1) := by decide +kernel
theorem d_Mod_feed_111 : decode b_Mod_feed 111 = .ok (.iastore, 1) := by decide +kernel
theorem d_Mod_feed_112 : decode b_Mod_feed 112 = .ok (.aload_n 0, 1) := by decide +kernel
theorem d_Mod_feed_113 : decode b_Mod_feed 113 = .ok (.dup, 1) := by decide +kernel
theorem d_Mod_feed_114 : decode b_Mod_feed 114 = .ok (.getfield 140, 3) := by decide +kernel
theorem d_Mod_feed_117 : decode b_Mod_feed 117 = .ok (.iconst 1, 1) := by decide +kernel
theorem d_Mod_feed_118 : decode b_Mod_feed 118 = .ok (.iadd, 1) := by decide +kernel
theorem d_Mod_feed_119 : decode b_Mod_feed 119 = .ok (.putfield 140, 3) := by decide +kernel
theorem d_Mod_feed_122 : decode b_Mod_feed 122 = .ok (.iinc 6 1, 3) := by decide +kernel
theorem d_Mod_feed_125 : decode b_Mod_feed 125 = .ok (.goto (-82), 3) := by decide +kernel
theorem d_Mod_feed_128 : decode b_Mod_feed 128 = .ok (.aload_n 0, 1) := by decide +kernel
theorem d_Mod_feed_129 : decode b_Mod_feed 129 = .ok (.getfield 140, 3) := by decide +kernel
theorem d_Mod_feed_132 : decode b_Mod_feed 132 = .ok (.ireturn, 1) := by decide +kernel
theorem d_Mod_isIn_0 : decode b_Mod_isIn 0 = .ok (.iload_n 0, 1) := by decide +kernel
theorem d_Mod_isIn_1 : decode b_Mod_isIn 1 = .ok (.iload_n 1, 1) := by decide +kernel
theorem d_Mod_isIn_2 : decode b_Mod_isIn 2 = .ok (.if_icmp .lt 12, 3) := by decide +kernel
theorem d_Mod_isIn_5 : decode b_Mod_isIn 5 = .ok (.iload_n 0, 1) := by decide +kernel
theorem d_Mod_isIn_6 : decode b_Mod_isIn 6 = .ok (.iload_n 2, 1) := by decide +kernel
theorem d_Mod_isIn_7 : decode b_Mod_isIn 7 = .ok (.if_icmp .gt 7, 3) := by decide +kernel
theorem d_Mod_isIn_10 : decode b_Mod_isIn 10 = .ok (.iconst 1, 1) := by decide +kernel
theorem d_Mod_isIn_11 : decode b_Mod_isIn 11 = .ok (.goto 4, 3) := by decide +kernel
theorem d_Mod_isIn_14 : decode b_Mod_isIn 14 = .ok (.iconst 0, 1) := by decide +kernel
theorem d_Mod_isIn_15 : decode b_Mod_isIn 15 = .ok (.ireturn, 1) := by decide +kernel
theorem d_Mod_kind_0 : decode b_Mod_kind 0 = .ok (.aload_n 0, 1) := by decide +kernel
theorem d_Mod_kind_1 : decode b_Mod_kind 1 = .ok (.aload_n 0, 1) := by decide +kernel
theorem d_Mod_kind_2 : decode b_Mod_kind 2 = .ok (.getfield 407, 3) := by decide +kernel
theorem d_Mod_kind_5 : decode b_Mod_kind 5 = .ok (.ifCond .eq 7, 3) := by decide +kernel
theorem d_Mod_kind_12 : decode b_Mod_kind 12 = .ok (.iconst 1, 1) := by decide +kernel
theorem d_Mod_kind_13 : decode b_Mod_kind 13 = .ok (.invokevirtual 143, 3) := by decide +kernel
theorem d_Mod_kind_16 : decode b_Mod_kind 16 = .ok (.ifCond .eq 5, 3) := by decide +kernel
theorem d_Mod_kind_19 : decode b_Mod_kind 19 = .ok (.iconst 0, 1) := by decide +kernel
theorem d_Mod_kind_20 : decode b_Mod_kind 20 = .ok (.ireturn, 1) := by decide +kernel
theorem d_Mod_limit_0 : decode b_Mod_limit 0 = .ok (.aload_n 0, 1) := by decide +kernel
theorem d_Mod_limit_1 : decode b_Mod_limit 1 = .ok (.iload_n 1, 1) := by decide +kernel
theorem d_Mod_limit_2 : decode b_Mod_limit 2 = .ok (.iconst 0, 1) := by decide +kernel
theorem d_Mod_limit_3 : decode b_Mod_limit 3 = .ok (.iconst 1, 1) := by decide +kernel
theorem d_Mod_limit_4 : decode b_Mod_limit 4 = .ok (.invokestatic 136, 3) := by decide +kernel
theorem d_Mod_limit_7 : decode b_Mod_limit 7 = .ok (.ifCond .eq 18, 3) := by decide +kernel
theorem d_Mod_limit_10 : decode b_Mod_limit 10 = .ok (.iload_n 2, 1) := by decide +kernel
theorem d_Mod_limit_11 : decode b_Mod_limit 11 = .ok (.iconst 0, 1) := by decide +kernel
theorem d_Mod_limit_12 : decode b_Mod_limit 12 = .ok (.sipush 600, 3) := by decide +kernel
theorem d_Mod_limit_15 : decode b_Mod_limit 15 = .ok (.invokestatic 136, 3) := by decide +kernel
theorem d_Mod_limit_18 : decode b_Mod_limit 18 = .ok (.ifCond .eq 7, 3) := by decide +kernel
theorem d_Mod_limit_21 : decode b_Mod_limit 21 = .ok (.iconst 0, 1) := by decide +kernel
theorem d_Mod_limit_22 : decode b_Mod_limit 22 = .ok (.goto 4, 3) := by decide +kernel
theorem d_Mod_limit_25 : decode b_Mod_limit 25 = .ok (.iconst 1, 1) := by decide +kernel
theorem d_Mod_limit_26 : decode b_Mod_limit 26 = .ok (.invokevirtual 143, 3) := by decide +kernel
theorem d_Mod_limit_29 : decode b_Mod_limit 29 = .ok (.ifCond .eq 5, 3) := by decide +kernel
theorem d_Mod_limit_32 : decode b_Mod_limit 32 = .ok (.iconst 0, 1) := by decide +kernel
theorem d_Mod_limit_33 : decode b_Mod_limit 33 = .ok (.ireturn, 1) := by decide +kernel
theorem d_Mod_limit_34 : decode b_Mod_limit 34 = .ok (.iload_n 1, 1) := by decide +kernel
theorem d_Mod_limit_35 : decode b_Mod_limit 35 = .ok (.ifCond .ne 10, 3) := by decide +kernel
theorem d_Mod_limit_38 : decode b_Mod_limit 38 = .ok (.aload_n 0, 1) := by decide +kernel
theorem d_Mod_limit_39 : decode b_Mod_limit 39 = .ok (.getfield 22, 3) := by decide +kernel
theorem d_Mod_limit_42 : decode b_Mod_limit 42 = .ok (.goto 7, 3) := by decide +kernel
theorem d_Mod_limit_45 : decode b_Mod_limit 45 = .ok (.aload_n 0, 1) := by decide +kernel
theorem d_Mod_limit_46 : decode b_Mod_limit 46 = .ok (.getfield 26, 3) := by decide +kernel
theorem d_Mod_limit_49 : decode b_Mod_limit 49 = .ok (.istore_n 3, 1) := by decide +kernel
theorem d_Mod_limit_50 : decode b_Mod_limit 50 = .ok (.aload_n 0, 1) := by decide +kernel
theorem d_Mod_limit_51 : decode b_Mod_limit 51 = .ok (.iload_n 1, 1) := by decide +kernel
theorem d_Mod_limit_52 : decode b_Mod_limit 52 = .ok (.ifCond .ne 7, 3) := by decide +kernel
theorem d_Mod_limit_55 : decode b_Mod_limit 55 = .ok (.iload_n 2, 1) := by decide +kernel
theorem d_Mod_limit_56 : decode b_Mod_limit 56 = .ok (.goto 7, 3) := by decide +kernel
theorem d_Mod_limit_59 : decode b_Mod_limit 59 = .ok (.aload_n 0, 1) := by decide +kernel
theorem d_Mod_limit_60 : decode b_Mod_limit 60 = .ok (.getfield 22, 3) := by decide +kernel
theorem d_Mod_limit_63 : decode b_Mod_limit 63 = .ok (.putfield 22, 3) := by decide +kernel
theorem d_Mod_limit_66 : decode b_Mod_limit 66 = .ok (.aload_n 0, 1) := by decide +kernel
theorem d_Mod_limit_67 : decode b_Mod_limit 67 = .ok (.iload_n 1, 1) := by decide +kernel
theorem d_Mod_limit_68 : decode b_Mod_limit 68 = .ok (.iconst 1, 1) := by decide +kernel
theorem d_Mod_limit_69 : decode b_Mod_limit 69 = .ok (.if_icmp .ne 7, 3) := by decide +kernel
theorem d_Mod_limit_72 : decode b_Mod_limit 72 = .ok (.iload_n 2, 1) := by decide +kernel
theorem d_Mod_limit_73 : decode b_Mod_limit 73 = .ok (.goto 7, 3) := by decide +kernel
theorem d_Mod_limit_76 : decode b_Mod_limit 76 = .ok (.aload_n 0, 1) := by decide +kernel
theorem d_Mod_limit_77 : decode b_Mod_limit 77 = .ok (.getfield 26, 3) := by decide +kernel
theorem d_Mod_limit_80 : decode b_Mod_limit 80 = .ok (.putfield 26, 3) := by decide +kernel
theorem d_Mod_limit_83 : decode b_Mod_limit 83 = .ok (.iload_n 3, 1) := by decide +kernel
theorem d_Mod_limit_84 : decode b_Mod_limit 84 = .ok (.ireturn, 1) := by decide +kernel
theorem d_Mod_number_0 : decode b_Mod_number 0 = .ok (.aload_n 0, 1) := by decide +kernel
theorem d_Mod_number_1 : decode b_Mod_number 1 = .ok (.getfield 147, 3) := by decide +kernel
theorem d_Mod_number_4 : decode b_Mod_number 4 = .ok (.ifCond .eq 5, 3) := by decide +kernel
theorem d_Mod_number_7 : decode b_Mod_number 7 = .ok (.lconst 0, 1) := by decide +kernel
theorem d_Mod_number_8 : decode b_Mod_number 8 = .ok (.lreturn, 1) := by decide +kernel
theorem d_Mod_number_9 : decode b_Mod_number 9 = .ok (.aload_n 0, 1) := by decide +kernel
theorem d_Mod_number_10 : decode b_Mod_number 10 = .ok (.getfield 150, 3) := by decide +kernel
theorem d_Mod_number_13 : decode b_Mod_number 13 = .ok (.iload_n 1, 1) := by decide +kernel
theorem d_Mod_number_14 : decode b_Mod_number 14 = .ok (.iadd, 1) := by decide +kernel
theorem d_Mod_number_15 : decode b_Mod_number 15 = .ok (.aload_n 0, 1) := by decide +kernel
theorem d_Mod_number_16 : decode b_Mod_number 16 = .ok (.getfield 153, 3) := by decide +kernel
theorem d_Mod_number_19 : decode b_Mod_number 19 = .ok (.if_icmp .le 40, 3) := by decide +kernel
theorem d_Mod_number_22 : decode b_Mod_number 22 = .ok (.aload_n 0, 1) := by decide +kernel
theorem d_Mod_number_23 : decode b_Mod_number 23 = .ok (.aload_n 0, 1) := by decide +kernel
theorem d_Mod_number_24 : decode b_Mod_number 24 = .ok (.getfield 156, 3) := by decide +kernel
theorem d_Mod_number_27 : decode b_Mod_number 27 = .ok (.ifCond .le 8, 3) := by decide +kernel
theorem d_Mod_number_35 : decode b_Mod_number 35 = .ok (.iconst 1, 1) := by decide +kernel
theorem d_Mod_number_36 : decode b_Mod_number 36 = .ok (.aload_n 0, 1) := by decide +kernel
theorem d_Mod_number_37 : decode b_Mod_number 37 = .ok (.getfield 156, 3) := by decide +kernel
theorem d_Mod_number_40 : decode b_Mod_number 40 = .ok (.ifCond .le 10, 3) := by decide +kernel
theorem d_Mod_number_50 : decode b_Mod_number 50 = .ok (.aload_n 0, 1) := by decide +kernel
theorem d_Mod_number_51 : decode b_Mod_number 51 = .ok (.getfield 150, 3) := by decide +kernel
theorem d_Mod_number_54 : decode b_Mod_number 54 = .ok (.invokevirtual 159, 3) := by decide +kernel
theorem d_Mod_number_57 : decode b_Mod_number 57 = .ok (.lconst 0, 1) := by decide +kernel
theorem d_Mod_number_58 : decode b_Mod_number 58 = .ok (.lreturn, 1) := by decide +kernel
theorem d_Mod_place_0 : decode b_Mod_place 0 = .ok (.aload_n 0, 1) := by decide +kernel
theorem d_Mod_place_1 : decode b_Mod_place 1 = .ok (.iconst 0, 1) := by decide +kernel
theorem d_Mod_place_2 : decode b_Mod_place 2 = .ok (.putfield 133, 3) := by decide +kernel
theorem d_Mod_place_5 : decode b_Mod_place 5 = .ok (.aload_n 0, 1) := by decide +kernel
theorem d_Mod_place_6 : decode b_Mod_place 6 = .ok (.getfield 29, 3) := by decide +kernel
theorem d_Mod_place_9 : decode b_Mod_place 9 = .ok (.ireturn, 1) := by decide +kernel
theorem d_Mod_put_0 : decode b_Mod_put 0 = .ok (.aload_n 0, 1) := by decide +kernel
theorem d_Mod_put_1 : decode b_Mod_put 1 = .ok (.iload_n 1, 1) := by decide +kernel
theorem d_Mod_put_2 : decode b_Mod_put 2 = .ok (.iconst 0, 1) := by decide +kernel
theorem d_Mod_put_3 : decode b_Mod_put 3 = .ok (.aload_n 0, 1) := by decide +kernel
theorem d_Mod_put_4 : decode b_Mod_put 4 = .ok (.getfield 140, 3) := by decide +kernel
theorem d_Mod_put_7 : decode b_Mod_put 7 = .ok (.iconst 1, 1) := by decide +kernel
theorem d_Mod_put_8 : decode b_Mod_put 8 = .ok (.isub, 1) := by decide +kernel
theorem d_Mod_put_9 : decode b_Mod_put 9 = .ok (.invokestatic 136, 3) := by decide +kernel
theorem d_Mod_put_12 : decode b_Mod_put 12 = .ok (.ifCond .ne 7, 3) := by decide +kernel
theorem d_Mod_put_15 : decode b_Mod_put 15 = .ok (.iconst 1, 1) := by decide +kernel
theorem d_Mod_put_16 : decode b_Mod_put 16 = .ok (.goto 19, 3) := by decide +kernel
theorem d_Mod_put_19 : decode b_Mod_put 19 = .ok (.iload_n 2, 1) := by decide +kernel
theorem d_Mod_put_20 : decode b_Mod_put 20 = .ok (.iconst 0, 1) := by decide +kernel
theorem d_Mod_put_21 : decode b_Mod_put 21 = .ok (.sipush 255, 3) := by decide +kernel
theorem d_Mod_put_24 : decode b_Mod_put 24 = .ok (.invokestatic 136, 3) := by decide +kernel
theorem d_Mod_put_27 : decode b_Mod_put 27 = .ok (.ifCond .ne 7, 3) := by decide +kernel
theorem d_Mod_put_30 : decode b_Mod_put 30 = .ok (.iconst 2, 1) := by decide +kernel
theorem d_Mod_put_31 : decode b_Mod_put 31 = .ok (.goto 4, 3) := by decide +kernel
theorem d_Mod_put_34 : decode b_Mod_put 34 = .ok (.iconst 0, 1) := by decide +kernel
theorem d_Mod_put_35 : decode b_Mod_put 35 = .ok (.invokevirtual 143, 3) := by decide +kernel
theorem d_Mod_put_38 : decode b_Mod_put 38 = .ok (.ifCond .eq 5, 3) := by decide +kernel
theorem d_Mod_put_41 : decode b_Mod_put 41 = .ok (.iconst 0, 1) := by decide +kernel
theorem d_Mod_put_42 : decode b_Mod_put 42 = .ok (.ireturn, 1) := by decide +kernel
theorem d_Mod_put_43 : decode b_Mod_put 43 = .ok (.aload_n 0, 1) := by decide +kernel
theorem d_Mod_put_44 : decode b_Mod_put 44 = .ok (.getfield 7, 3) := by decide +kernel
theorem d_Mod_put_47 : decode b_Mod_put 47 = .ok (.iload_n 1, 1) := by decide +kernel
theorem d_Mod_put_48 : decode b_Mod_put 48 = .ok (.iaload, 1) := by decide +kernel
theorem d_Mod_put_49 : decode b_Mod_put 49 = .ok (.istore_n 3, 1) := by decide +kernel
theorem d_Mod_put_50 : decode b_Mod_put 50 = .ok (.aload_n 0, 1) := by decide +kernel
theorem d_Mod_put_51 : decode b_Mod_put 51 = .ok (.getfield 7, 3) := by decide +kernel
theorem d_Mod_put_54 : decode b_Mod_put 54 = .ok (.iload_n 1, 1) := by decide +kernel
theorem d_Mod_put_55 : decode b_Mod_put 55 = .ok (.iload_n 2, 1) := by decide +kernel
theorem d_Mod_put_56 : decode b_Mod_put 56 = .ok (.iastore, 1) := by decide +kernel
theorem d_Mod_put_57 : decode b_Mod_put 57 = .ok (.iload_n 3, 1) := by decide +kernel
theorem d_Mod_put_58 : decode b_Mod_put 58 = .ok (.ireturn, 1) := by decide +kernel
theorem d_Mod_read_0 : decode b_Mod_read 0 = .ok (.aload_n 0, 1) := by decide +kernel
theorem d_Mod_read_1 : decode b_Mod_read 1 = .ok (.iconst 0, 1) := by decide +kernel
theorem d_Mod_read_2 : decode b_Mod_read 2 = .ok (.putfield 150, 3) := by decide +kernel
theorem d_Mod_read_5 : decode b_Mod_read 5 = .ok (.aload_n 0, 1) := by decide +kernel
theorem d_Mod_read_6 : decode b_Mod_read 6 = .ok (.aload_n 0, 1) := by decide +kernel
theorem d_Mod_read_7 : decode b_Mod_read 7 = .ok (.getfield 140, 3) := by decide +kernel
theorem d_Mod_read_10 : decode b_Mod_read 10 = .ok (.putfield 153, 3) := by decide +kernel
theorem d_Mod_read_13 : decode b_Mod_read 13 = .ok (.aload_n 0, 1) := by decide +kernel
theorem d_Mod_read_14 : decode b_Mod_read 14 = .ok (.iconst 0, 1) := by decide +kernel
theorem d_Mod_read_15 : decode b_Mod_read 15 = .ok (.putfield 156, 3) := by decide +kernel
theorem d_Mod_read_18 : decode b_Mod_read 18 = .ok (.aload_n 0, 1) := by decide +kernel
theorem d_Mod_read_19 : decode b_Mod_read 19 = .ok (.iconst 0, 1) := by decide +kernel
theorem d_Mod_read_20 : decode b_Mod_read 20 = .ok (.putfield 205, 3) := by decide +kernel
theorem d_Mod_read_23 : decode b_Mod_read 23 = .ok (.aload_n 0, 1) := by decide +kernel
theorem d_Mod_read_24 : decode b_Mod_read 24 = .ok (.iconst 0, 1) := by decide +kernel
theorem d_Mod_read_25 : decode b_Mod_read 25 = .ok (.putfield 199, 3) := by decide +kernel
theorem d_Mod_read_28 : decode b_Mod_read 28 = .ok (.aload_n 0, 1) := by decide +kernel
theorem d_Mod_read_29 : decode b_Mod_read 29 = .ok (.iconst 4, 1) := by decide +kernel
theorem d_Mod_read_30 : decode b_Mod_read 30 = .ok (.invokevirtual 165, 3) := by decide +kernel
theorem d_Mod_read_33 : decode b_Mod_read 33 = .ok (.lstore_n 1, 1) := by decide +kernel
theorem d_Mod_read_34 : decode b_Mod_read 34 = .ok (.aload_n 0, 1) := by decide +kernel
theorem d_Mod_read_35 : decode b_Mod_read 35 = .ok (.getfield 147, 3) := by decide +kernel
theorem d_Mod_read_38 : decode b_Mod_read 38 = .ok (.ifCond .ne 17, 3) := by decide +kernel
theorem d_Mod_read_55 : decode b_Mod_read 55 = .ok (.aload_n 0, 1) := by decide +kernel
theorem d_Mod_read_56 : decode b_Mod_read 56 = .ok (.invokevirtual 172, 3) := by decide +kernel
theorem d_Mod_read_59 : decode b_Mod_read 59 = .ok (.pop, 1) := by decide +kernel
theorem d_Mod_read_60 : decode b_Mod_read 60 = .ok (.aload_n 0, 1) := by decide +kernel
theorem d_Mod_read_61 : decode b_Mod_read 61 = .ok (.invokevirtual 172, 3) := by decide +kernel
theorem d_Mod_read_64 : decode b_Mod_read 64 = .ok (.istore_n 3, 1) := by decide +kernel
theorem d_Mod_read_65 : decode b_Mod_read 65 = .ok (.aload_n 0, 1) := by decide +kernel
theorem d_Mod_read_66 : decode b_Mod_read 66 = .ok (.getfield 147, 3) := by decide +kernel
theorem d_Mod_read_69 : decode b_Mod_read 69 = .ok (.ifCond .ne 21, 3) := by decide +kernel
theorem d_Mod_read_90 : decode b_Mod_read 90 = .ok (.aload_n 0, 1) := by decide +kernel
theorem d_Mod_read_91 : decode b_Mod_read 91 = .ok (.invokevirtual 213, 3) := by decide +kernel
theorem d_Mod_read_94 : decode b_Mod_read 94 = .ok (.aload_n 0, 1) := by decide +kernel
theorem d_Mod_read_95 : decode b_Mod_read 95 = .ok (.invokevirtual 172, 3) := by decide +kernel
theorem d_Mod_read_98 : decode b_Mod_read 98 = .ok (.pop, 1) := by decide +kernel
theorem d_Mod_read_99 : decode b_Mod_read 99 = .ok (.aload_n 0, 1) := by decide +kernel
theorem d_Mod_read_100 : decode b_Mod_read 100 = .ok (.aload_n 0, 1) := by decide +kernel
theorem d_Mod_read_101 : decode b_Mod_read 101 = .ok (.getfield 150, 3) := by decide +kernel
theorem d_Mod_read_104 : decode b_Mod_read 104 = .ok (.putfield 216, 3) := by decide +kernel
theorem d_Mod_read_107 : decode b_Mod_read 107 = .ok (.aload_n 0, 1) := by decide +kernel
theorem d_Mod_read_108 : decode b_Mod_read 108 = .ok (.aload_n 0, 1) := by decide +kernel
theorem d_Mod_read_109 : decode b_Mod_read 109 = .ok (.invokevirtual 172, 3) := by decide +kernel
theorem d_Mod_read_112 : decode b_Mod_read 112 = .ok (.putfield 219, 3) := by decide +kernel
theorem d_Mod_read_115 : decode b_Mod_read 115 = .ok (.aload_n 0, 1) := by decide +kernel
theorem d_Mod_read_116 : decode b_Mod_read 116 = .ok (.aload_n 0, 1) := by decide +kernel
theorem d_Mod_read_117 : decode b_Mod_read 117 = .ok (.invokevirtual 172, 3) := by decide +kernel
theorem d_Mod_read_120 : decode b_Mod_read 120 = .ok (.putfield 222, 3) := by decide +kernel
theorem d_Mod_read_123 : decode b_Mod_read 123 = .ok (.aload_n 0, 1) := by decide +kernel
theorem d_Mod_read_124 : decode b_Mod_read 124 = .ok (.aload_n 0, 1) := by decide +kernel
theorem d_Mod_read_125 : decode b_Mod_read 125 = .ok (.invokevirtual 172, 3) := by decide +kernel
theorem d_Mod_read_128 : decode b_Mod_read 128 = .ok (.putfield 225, 3) := by decide +kernel
theorem d_Mod_read_131 : decode b_Mod_read 131 = .ok (.iconst 0, 1) := by decide +kernel
theorem d_Mod_read_132 : decode b_Mod_read 132 = .ok (.istore 4, 2) := by decide +kernel
theorem d_Mod_read_134 : decode b_Mod_read 134 = .ok (.iload 4, 2) := by decide +kernel
theorem d_Mod_read_136 : decode b_Mod_read 136 = .ok (.aload_n 0, 1) := by decide +kernel
theorem d_Mod_read_137 : decode b_Mod_read 137 = .ok (.getfield 225, 3) := by decide +kernel
theorem d_Mod_read_140 : decode b_Mod_read 140 = .ok (.if_icmp .ge 38, 3) := by decide +kernel
theorem d_Mod_read_178 : decode b_Mod_read 178 = .ok (.aload_n 0, 1) := by decide +kernel
theorem d_Mod_read_179 : decode b_Mod_read 179 = .ok (.iconst 0, 1) := by decide +kernel
theorem d_Mod_read_180 : decode b_Mod_read 180 = .ok (.invokevirtual 228, 3) := by decide +kernel
theorem d_Mod_read_183 : decode b_Mod_read 183 = .ok (.aload_n 0, 1) := by decide +kernel
theorem d_Mod_read_184 : decode b_Mod_read 184 = .ok (.aload_n 0, 1) := by decide +kernel
theorem d_Mod_read_185 : decode b_Mod_read 185 = .ok (.getfield 205, 3) := by decide +kernel
theorem d_Mod_read_188 : decode b_Mod_read 188 = .ok (.putfield 232, 3) := by decide +kernel
theorem d_Mod_read_191 : decode b_Mod_read 191 = .ok (.aload_n 0, 1) := by decide +kernel
theorem d_Mod_read_192 : decode b_Mod_read 192 = .ok (.aload_n 0, 1) := by decide +kernel
theorem d_Mod_read_193 : decode b_Mod_read 193 = .ok (.getfield 150, 3) := by decide +kernel
theorem d_Mod_read_196 : decode b_Mod_read 196 = .ok (.putfield 235, 3) := by decide +kernel
theorem d_Mod_read_199 : decode b_Mod_read 199 = .ok (.aload_n 0, 1) := by decide +kernel
theorem d_Mod_read_200 : decode b_Mod_read 200 = .ok (.iconst 1, 1) := by decide +kernel
theorem d_Mod_read_201 : decode b_Mod_read 201 = .ok (.invokevirtual 228, 3) := by decide +kernel
theorem d_Mod_read_204 : decode b_Mod_read 204 = .ok (.aload_n 0, 1) := by decide +kernel
theorem d_Mod_read_205 : decode b_Mod_read 205 = .ok (.invokevirtual 202, 3) := by decide +kernel
theorem d_Mod_read_208 : decode b_Mod_read 208 = .ok (.aload_n 0, 1) := by decide +kernel
theorem d_Mod_read_209 : decode b_Mod_read 209 = .ok (.getfield 147, 3) := by decide +kernel
theorem d_Mod_read_212 : decode b_Mod_read 212 = .ok (.ifCond .ne 24, 3) := by decide +kernel
theorem d_Mod_read_236 : decode b_Mod_read 236 = .ok (.return_, 1) := by decide +kernel
theorem d_Mod_readAttributes_0 : decode b_Mod_readAttributes 0 = .ok (.aload_n 0, 1) := by decide +kernel
theorem d_Mod_readAttributes_1 : decode b_Mod_readAttributes 1 = .ok (.invokevirtual 172, 3) := by decide +kernel
theorem d_Mod_readAttributes_4 : decode b_Mod_readAttributes 4 = .ok (.istore_n 1, 1) := by decide +kernel
theorem d_Mod_readAttributes_5 : decode b_Mod_readAttributes 5 = .ok (.iconst 0, 1) := by decide +kernel
theorem d_Mod_readAttributes_6 : decode b_Mod_readAttributes 6 = .ok (.istore_n 2, 1) := by decide +kernel
theorem d_Mod_readAttributes_7 : decode b_Mod_readAttributes 7 = .ok (.iload_n 2, 1) := by decide +kernel
theorem d_Mod_readAttributes_8 : decode b_Mod_readAttributes 8 = .ok (.iload_n 1, 1) := by decide +kernel
theorem d_Mod_readAttributes_9 : decode b_Mod_readAttributes 9 = .ok (.if_icmp .ge 20, 3) := by decide +kernel
theorem d_Mod_readAttributes_29 : decode b_Mod_readAttributes 29 = .ok (.return_, 1) := by decide +kernel
theorem d_Mod_readConstants_0 : decode b_Mod_readConstants 0 = .ok (.aload_n 0, 1) := by decide +kernel
theorem d_Mod_readConstants_1 : decode b_Mod_readConstants 1 = .ok (.aload_n 0, 1) := by decide +kernel
theorem d_Mod_readConstants_2 : decode b_Mod_readConstants 2 = .ok (.invokevirtual 172, 3) := by decide +kernel
theorem d_Mod_readConstants_5 : decode b_Mod_readConstants 5 = .ok (.putfield 169, 3) := by decide +kernel
theorem d_Mod_readConstants_8 : decode b_Mod_readConstants 8 = .ok (.iconst 0, 1) := by decide +kernel
theorem d_Mod_readConstants_9 : decode b_Mod_readConstants 9 = .ok (.istore_n 1, 1) := by decide +kernel
theorem d_Mod_readConstants_10 : decode b_Mod_readConstants 10 = .ok (.iload_n 1, 1) := by decide +kernel
theorem d_Mod_readConstants_11 : decode b_Mod_readConstants 11 = .ok (.sipush 620, 3) := by decide +kernel
theorem d_Mod_readConstants_14 : decode b_Mod_readConstants 14 = .ok (.if_icmp .ge 16, 3) := by decide +kernel
theorem d_Mod_readConstants_17 : decode b_Mod_readConstants 17 = .ok (.aload_n 0, 1) := by decide +kernel
theorem d_Mod_readConstants_18 : decode b_Mod_readConstants 18 = .ok (.getfield 32, 3) := by decide +kernel
theorem d_Mod_readConstants_21 : decode b_Mod_readConstants 21 = .ok (.iload_n 1, 1) := by decide +kernel
theorem d_Mod_readConstants_22 : decode b_Mod_readConstants 22 = .ok (.iconst 0, 1) := by decide +kernel
theorem d_Mod_readConstants_23 : decode b_Mod_readConstants 23 = .ok (.iastore, 1) := by decide +kernel
theorem d_Mod_readConstants_24 : decode b_Mod_readConstants 24 = .ok (.iinc 1 1, 3) := by decide +kernel
theorem d_Mod_readConstants_27 : decode b_Mod_readConstants 27 = .ok (.goto (-17), 3) := by decide +kernel
theorem d_Mod_readConstants_30 : decode b_Mod_readConstants 30 = .ok (.iconst 1, 1) := by decide +kernel
theorem d_Mod_readConstants_31 : decode b_Mod_readConstants 31 = .ok (.istore_n 1, 1) := by decide +kernel
theorem d_Mod_readConstants_32 : decode b_Mod_readConstants 32 = .ok (.iload_n 1, 1) := by decide +kernel
theorem d_Mod_readConstants_33 : decode b_Mod_readConstants 33 = .ok (.aload_n 0, 1) := by decide +kernel
theorem d_Mod_readConstants_34 : decode b_Mod_readConstants 34 = .ok (.getfield 169, 3) := by decide +kernel
theorem d_Mod_readConstants_37 : decode b_Mod_readConstants 37 = .ok (.if_icmp .ge 54, 3) := by decide +kernel
theorem d_Mod_readConstants_91 : decode b_Mod_readConstants 91 = .ok (.return_, 1) := by decide +kernel
theorem d_Mod_readMembers_0 : decode b_Mod_readMembers 0 = .ok (.aload_n 0, 1) := by decide +kernel
theorem d_Mod_readMembers_1 : decode b_Mod_readMembers 1 = .ok (.invokevirtual 172, 3) := by decide +kernel
theorem d_Mod_readMembers_4 : decode b_Mod_readMembers 4 = .ok (.istore_n 2, 1) := by decide +kernel
theorem d_Mod_readMembers_5 : decode b_Mod_readMembers 5 = .ok (.iconst 0, 1) := by decide +kernel
theorem d_Mod_readMembers_6 : decode b_Mod_readMembers 6 = .ok (.istore_n 3, 1) := by decide +kernel
theorem d_Mod_readMembers_7 : decode b_Mod_readMembers 7 = .ok (.iload_n 3, 1) := by decide +kernel
theorem d_Mod_readMembers_8 : decode b_Mod_readMembers 8 = .ok (.iload_n 2, 1) := by decide +kernel
theorem d_Mod_readMembers_9 : decode b_Mod_readMembers 9 = .ok (.if_icmp .ge 144, 3) := by decide +kernel
theorem d_Mod_readMembers_153 : decode b_Mod_readMembers 153 = .ok (.return_, 1) := by decide +kernel
theorem d_Mod_refused_0 : decode b_Mod_refused 0 = .ok (.aload_n 0, 1) := by decide +kernel
theorem d_Mod_refused_1 : decode b_Mod_refused 1 = .ok (.iload_n 1, 1) := by decide +kernel
theorem d_Mod_refused_2 : decode b_Mod_refused 2 = .ok (.putfield 133, 3) := by decide +kernel
theorem d_Mod_refused_5 : decode b_Mod_refused 5 = .ok (.iload_n 1, 1) := by decide +kernel
theorem d_Mod_refused_6 : decode b_Mod_refused 6 = .ok (.ifCond .le 7, 3) := by decide +kernel
theorem d_Mod_refused_9 : decode b_Mod_refused 9 = .ok (.iconst 1, 1) := by decide +kernel
theorem d_Mod_refused_10 : decode b_Mod_refused 10 = .ok (.goto 4, 3) := by decide +kernel
theorem d_Mod_refused_13 : decode b_Mod_refused 13 = .ok (.iconst 0, 1) := by decide +kernel
theorem d_Mod_refused_14 : decode b_Mod_refused 14 = .ok (.ireturn, 1) := by decide +kernel
theorem d_Mod_rule_0 : decode b_Mod_rule 0 = .ok (.iload_n 1, 1) := by decide +kernel
theorem d_Mod_rule_1 : decode b_Mod_rule 1 = .ok (.ifCond .eq 7, 3) := by decide +kernel
theorem d_Mod_rule_4 : decode b_Mod_rule 4 = .ok (.iconst 1, 1) := by decide +kernel
theorem d_Mod_rule_5 : decode b_Mod_rule 5 = .ok (.goto 4, 3) := by decide +kernel
theorem d_Mod_rule_8 : decode b_Mod_rule 8 = .ok (.iconst 0, 1) := by decide +kernel
theorem d_Mod_rule_9 : decode b_Mod_rule 9 = .ok (.istore_n 3, 1) := by decide +kernel
theorem d_Mod_rule_10 : decode b_Mod_rule 10 = .ok (.iload_n 2, 1) := by decide +kernel
theorem d_Mod_rule_11 : decode b_Mod_rule 11 = .ok (.iconst 1, 1) := by decide +kernel
theorem d_Mod_rule_12 : decode b_Mod_rule 12 = .ok (.bipush 40, 2) := by decide +kernel
theorem d_Mod_rule_14 : decode b_Mod_rule 14 = .ok (.invokestatic 136, 3) := by decide +kernel
theorem d_Mod_rule_17 : decode b_Mod_rule 17 = .ok (.ifCond .eq 15, 3) := by decide +kernel
theorem d_Mod_rule_20 : decode b_Mod_rule 20 = .ok (.iload_n 2, 1) := by decide +kernel
theorem d_Mod_rule_21 : decode b_Mod_rule 21 = .ok (.aload_n 0, 1) := by decide +kernel
theorem d_Mod_rule_22 : decode b_Mod_rule 22 = .ok (.getfield 140, 3) := by decide +kernel
theorem d_Mod_rule_25 : decode b_Mod_rule 25 = .ok (.if_icmp .gt 7, 3) := by decide +kernel
theorem d_Mod_rule_32 : decode b_Mod_rule 32 = .ok (.iconst 0, 1) := by decide +kernel
theorem d_Mod_rule_33 : decode b_Mod_rule 33 = .ok (.istore 4, 2) := by decide +kernel
theorem d_Mod_rule_35 : decode b_Mod_rule 35 = .ok (.aload_n 0, 1) := by decide +kernel
theorem d_Mod_rule_36 : decode b_Mod_rule 36 = .ok (.getfield 140, 3) := by decide +kernel
theorem d_Mod_rule_39 : decode b_Mod_rule 39 = .ok (.iload_n 2, 1) := by decide +kernel
theorem d_Mod_rule_40 : decode b_Mod_rule 40 = .ok (.isub, 1) := by decide +kernel
theorem d_Mod_rule_41 : decode b_Mod_rule 41 = .ok (.istore 5, 2) := by decide +kernel
theorem d_Mod_rule_43 : decode b_Mod_rule 43 = .ok (.iload 4, 2) := by decide +kernel
theorem d_Mod_rule_45 : decode b_Mod_rule 45 = .ok (.ifCond .eq 34, 3) := by decide +kernel
theorem d_Mod_rule_79 : decode b_Mod_rule 79 = .ok (.aload_n 0, 1) := by decide +kernel
theorem d_Mod_rule_80 : decode b_Mod_rule 80 = .ok (.iload 4, 2) := by decide +kernel
theorem d_Mod_rule_82 : decode b_Mod_rule 82 = .ok (.ifCond .ne 7, 3) := by decide +kernel
theorem d_Mod_rule_85 : decode b_Mod_rule 85 = .ok (.iconst 1, 1) := by decide +kernel
theorem d_Mod_rule_86 : decode b_Mod_rule 86 = .ok (.goto 19, 3) := by decide +kernel
theorem d_Mod_rule_105 : decode b_Mod_rule 105 = .ok (.invokevirtual 143, 3) := by decide +kernel
theorem d_Mod_rule_108 : decode b_Mod_rule 108 = .ok (.ifCond .eq 5, 3) := by decide +kernel
theorem d_Mod_rule_111 : decode b_Mod_rule 111 = .ok (.iconst 0, 1) := by decide +kernel
theorem d_Mod_rule_112 : decode b_Mod_rule 112 = .ok (.ireturn, 1) := by decide +kernel
theorem d_Mod_text_0 : decode b_Mod_text 0 = .ok (.aload_n 0, 1) := by decide +kernel
theorem d_Mod_text_1 : decode b_Mod_text 1 = .ok (.aload_n 0, 1) := by decide +kernel
theorem d_Mod_text_2 : decode b_Mod_text 2 = .ok (.getfield 407, 3) := by decide +kernel
theorem d_Mod_text_5 : decode b_Mod_text 5 = .ok (.ifCond .ne 7, 3) := by decide +kernel
theorem d_Mod_text_8 : decode b_Mod_text 8 = .ok (.iconst 1, 1) := by decide +kernel
theorem d_Mod_text_9 : decode b_Mod_text 9 = .ok (.goto 18, 3) := by decide +kernel
theorem d_Mod_text_27 : decode b_Mod_text 27 = .ok (.invokevirtual 143, 3) := by decide +kernel
theorem d_Mod_text_30 : decode b_Mod_text 30 = .ok (.ifCond .eq 6, 3) := by decide +kernel
theorem d_Mod_text_33 : decode b_Mod_text 33 = .ok (.bipush 32, 2) := by decide +kernel
theorem d_Mod_text_35 : decode b_Mod_text 35 = .ok (.ireturn, 1) := by decide +kernel
theorem d_Mod_thrown_0 : decode b_Mod_thrown 0 = .ok (.aload_n 0, 1) := by decide +kernel
theorem d_Mod_thrown_1 : decode b_Mod_thrown 1 = .ok (.getfield 133, 3) := by decide +kernel
theorem d_Mod_thrown_4 : decode b_Mod_thrown 4 = .ok (.ireturn, 1) := by decide +kernel
theorem d_Mod_u2_0 : decode b_Mod_u2 0 = .ok (.aload_n 0, 1) := by decide +kernel
theorem d_Mod_u2_1 : decode b_Mod_u2 1 = .ok (.iconst 2, 1) := by decide +kernel
theorem d_Mod_u2_2 : decode b_Mod_u2 2 = .ok (.invokevirtual 165, 3) := by decide +kernel
theorem d_Mod_u2_5 : decode b_Mod_u2 5 = .ok (.l2i, 1) := by decide +kernel
theorem d_Mod_u2_6 : decode b_Mod_u2 6 = .ok (.ireturn, 1) := by decide +kernel
end
section
set_option maxHeartbeats 4000000 in
set_option maxRecDepth 100000 in
theorem c_Mod_thrown (l : Launch) (g : tw_G) (sz : Nat) (h0 : Nat) (q : Nat → Nat) (v : Nat → Int32) (rf : Int32) : Met l y_Mod_thrown [.code y_Mod_thrown b_Mod_thrown 1 (some .int)] ({ frames := 0, cells := 0, slots := 0, locals := 0 }) (tw_P g [.ref h0] [(h0, .inr (10, mo q (upd v 0 rf)))] sz) (vp_Si (fun r => r = rf)) 0 0 (fun _ => False) := by
  refine tw_met (l := l) (g := g) (y := y_Mod_thrown) (cc := b_Mod_thrown) (maxL := 1) (ret := (some .int)) (rm := { frames := 0, cells := 0, slots := 0, locals := 0 }) (mc := 0) (ms := 0) (av := [.ref h0]) (ws := [(h0, .inr (10, mo q (upd v 0 rf)))]) (sz := sz) (Qc := fun _ => (vp_Si (fun r => r = rf))) (free := fun _ _ => False) (by decide) (Nat.le_of_ble_eq_true rfl) ?_
  intro p e s m below meth c ls A E hB hK hZ hP hD hS hA hl
  obtain ⟨hx, hb, hml, hr, hown, hts, hlocks, hin⟩ := id E
  have hl : lv_has ls 1 [(0, .ref h0)] := hl
  refine lv_aload_n hx hb d_Mod_thrown_0 rfl (lv_at hl 0 rfl) ?_
  refine va_get (D := g.1) (ci := 10) (v := .int rf) (C := R_Mod) (T := F_Mod) (N := 61) hx hb hts in_Mod hown hK hP 0 rfl rfl 0 (by decide) (hts _ wd_1250) (fun _ h9 => h9) rfl d_Mod_thrown_1 ?_
  exact tw_isret E rfl d_Mod_thrown_4
set_option maxHeartbeats 4000000 in
set_option maxRecDepth 100000 in
theorem c_Mod_refused (l : Launch) (g : tw_G) (sz : Nat) (h0 : Nat) (q : Nat → Nat) (v : Nat → Int32) (wh : Int32) : Met l y_Mod_refused [.code y_Mod_refused b_Mod_refused 2 (some .boolean)] ({ frames := 0, cells := 0, slots := 0, locals := 0 }) (tw_P g [.ref h0, .int wh] [(h0, .inr (10, mo q v))] sz) (tw_Qi g (fun r _ => r = if 0 < wh then 1 else 0) (fun u : Unit => [(h0, .inr (10, mo q (upd v 0 wh)))]) (va_A [(h0, .inr (10, mo q v))] sz)) 0 0 (va_A [(h0, .inr (10, mo q v))] sz) := by
  refine tw_metW (l := l) (g := g) (y := y_Mod_refused) (cc := b_Mod_refused) (maxL := 2) (ret := (some .boolean)) (rm := { frames := 0, cells := 0, slots := 0, locals := 0 }) (mc := 0) (ms := 0) (av := [.ref h0, .int wh]) (ws := [(h0, .inr (10, mo q v))]) (sz := sz) (Qc := fun A => (tw_Qi g (fun r _ => r = if 0 < wh then 1 else 0) (fun u : Unit => [(h0, .inr (10, mo q (upd v 0 wh)))]) A)) (by decide) (Nat.le_of_ble_eq_true rfl) ?_
  intro p e s m below meth c ls H A E hB hK hZ hP hD hS hA hl
  obtain ⟨hx, hb, hml, hr, hown, hts, hlocks, hin⟩ := id E
  have hl : lv_has ls 2 [(0, .ref h0), (1, .int wh)] := hl
  refine lv_aload_n hx hb d_Mod_refused_0 rfl (lv_at hl 0 rfl) ?_
  refine lv_iload_n hx hb d_Mod_refused_1 rfl (lv_at hl 1 rfl) ?_
  refine va_put (D := g.1) (ci := 10) (v := .int wh) (ty := .int) (C := R_Mod) (T := F_Mod) (N := 61) hx hb hts in_Mod t_Mod t_Mod_ok n_Mod hown hK hP hD hS 0 rfl rfl 0 (by decide) (hts _ wd_1250) (fun _ h9 => h9) rfl (t_Mod_ok 0 (by decide)) rfl rfl (Nat.le_of_ble_eq_true rfl) d_Mod_refused_2 (fun H locs hP hD hS => ?_)
  have hP : va_P g.1 classes [(h0, .inr (10, mo q (upd v 0 wh)))] H := hP
  have hD : va_D A [(h0, .inr (10, mo q (upd v 0 wh)))] := hD
  refine lv_iload_n hx hb d_Mod_refused_5 rfl (lv_at hl 1 rfl) ?_
  refine lv_if_le (tgt := 13) hx hb d_Mod_refused_6 (by decide) (fun h6 => ?_) (fun h6 => ?_)
  · refine lv_iconst (v := 0) hx hb d_Mod_refused_13 (by decide) ?_
    exact tw_zret E hS () rfl ((if_neg (Int32.not_lt.mpr h6)).symm) hP hD d_Mod_refused_14
  · refine lv_iconst (v := 1) hx hb d_Mod_refused_9 (by decide) ?_
    refine lv_goto (tgt := 14) hx hb d_Mod_refused_10 (by decide) ?_
    exact tw_zret E hS () rfl ((if_pos (Int32.not_le.mp h6)).symm) hP hD d_Mod_refused_14
set_option maxHeartbeats 4000000 in
set_option maxRecDepth 100000 in
theorem c_Mod_isIn (l : Launch) (g : tw_G) (sz : Nat) (x lo hi : Int32) : Met l y_Mod_isIn [.code y_Mod_isIn b_Mod_isIn 3 (some .boolean)] ({ frames := 0, cells := 0, slots := 0, locals := 0 }) (tw_P g [.int x, .int lo, .int hi] [] sz) (vp_Si (fun r => r = is_in x lo hi)) 0 0 (fun _ => False) := by
  refine tw_met (l := l) (g := g) (y := y_Mod_isIn) (cc := b_Mod_isIn) (maxL := 3) (ret := (some .boolean)) (rm := { frames := 0, cells := 0, slots := 0, locals := 0 }) (mc := 0) (ms := 0) (av := [.int x, .int lo, .int hi]) (ws := []) (sz := sz) (Qc := fun _ => (vp_Si (fun r => r = is_in x lo hi))) (free := fun _ _ => False) (by decide) (Nat.le_of_ble_eq_true rfl) ?_
  intro p e s m below meth c ls A E hB hK hZ hP hD hS hA hl
  obtain ⟨hx, hb, hml, hr, hown, hts, hlocks, hin⟩ := id E
  have hl : lv_has ls 3 [(0, .int x), (1, .int lo), (2, .int hi)] := hl
  refine lv_iload_n hx hb d_Mod_isIn_0 rfl (lv_at hl 0 rfl) ?_
  refine lv_iload_n hx hb d_Mod_isIn_1 rfl (lv_at hl 1 rfl) ?_
  refine lv_icmp_lt (tgt := 14) hx hb d_Mod_isIn_2 (by decide) (fun h2 => ?_) (fun h2 => ?_)
  · refine lv_iconst (v := 0) hx hb d_Mod_isIn_14 (by decide) ?_
    exact tw_zsret E rfl ((is_in0 (by first | exact Or.inl h2 | exact Or.inr h7)).symm) d_Mod_isIn_15
  · refine lv_iload_n hx hb d_Mod_isIn_5 rfl (lv_at hl 0 rfl) ?_
    refine lv_iload_n hx hb d_Mod_isIn_6 rfl (lv_at hl 2 rfl) ?_
    refine lv_icmp_gt (tgt := 14) hx hb d_Mod_isIn_7 (by decide) (fun h7 => ?_) (fun h7 => ?_)
    · refine lv_iconst (v := 0) hx hb d_Mod_isIn_14 (by decide) ?_
      exact tw_zsret E rfl ((is_in0 (by first | exact Or.inl h2 | exact Or.inr h7)).symm) d_Mod_isIn_15
    · refine lv_iconst (v := 1) hx hb d_Mod_isIn_10 (by decide) ?_
      refine lv_goto (tgt := 15) hx hb d_Mod_isIn_11 (by decide) ?_
      exact tw_zsret E rfl ((is_in1 h2 h7).symm) d_Mod_isIn_15
set_option maxHeartbeats 4000000 in
set_option maxRecDepth 100000 in
theorem c_Mod_feed (l : Launch) (g : tw_G) (sz : Nat) (h0 : Nat) (q : Nat → Nat) (v : Nat → Int32) (n : Nat) (f : Nat → Int32) (many a b c1 d : Int32) (hn : n ≤ 600) : Met l y_Mod_feed [.code y_Mod_feed b_Mod_feed 8 (some .int)] ({ frames := 1, cells := 0, slots := 0, locals := 22 }) (tw_P g [.ref h0, .int many, .int a, .int b, .int c1, .int d] [(h0, .inr (10, mo q (upd v 1 (nI n)))), ((q 2), aI g 600 f)] sz) (tw_Qi g (fun r (u : Int32 × Nat) => (u = (1, 0) ∧ (many < 0 ∨ 16 < many)) ∨ (u = (2, 0) ∧ ¬ many < 0 ∧ many ≤ 16 ∧ 600 < nI n + many) ∨ (u.1 = 0 ∧ many = nI u.2 ∧ u.2 ≤ 16 ∧ n + u.2 ≤ 600 ∧ r = nI (n + u.2))) (fun u : Int32 × Nat => [(h0, .inr (10, mo q (upd (upd v 0 u.1) 1 (nI (n + u.2))))), ((q 2), aI g 600 (mf_f f n a b c1 d u.2))]) (va_A [(h0, .inr (10, mo q (upd v 1 (nI n)))), ((q 2), aI g 600 f)] sz)) 0 0 (va_A [(h0, .inr (10, mo q (upd v 1 (nI n)))), ((q 2), aI g 600 f)] sz) := by
  refine tw_metW (l := l) (g := g) (y := y_Mod_feed) (cc := b_Mod_feed) (maxL := 8) (ret := (some .int)) (rm := { frames := 1, cells := 0, slots := 0, locals := 22 }) (mc := 0) (ms := 0) (av := [.ref h0, .int many, .int a, .int b, .int c1, .int d]) (ws := [(h0, .inr (10, mo q (upd v 1 (nI n)))), ((q 2), aI g 600 f)]) (sz := sz) (Qc := fun A => (tw_Qi g (fun r (u : Int32 × Nat) => (u = (1, 0) ∧ (many < 0 ∨ 16 < many)) ∨ (u = (2, 0) ∧ ¬ many < 0 ∧ many ≤ 16 ∧ 600 < nI n + many) ∨ (u.1 = 0 ∧ many = nI u.2 ∧ u.2 ≤ 16 ∧ n + u.2 ≤ 600 ∧ r = nI (n + u.2))) (fun u : Int32 × Nat => [(h0, .inr (10, mo q (upd (upd v 0 u.1) 1 (nI (n + u.2))))), ((q 2), aI g 600 (mf_f f n a b c1 d u.2))]) A)) (by decide) (Nat.le_of_ble_eq_true rfl) ?_
  intro p e s m below meth c ls H A E hB hK hZ hP hD hS hA hl
  obtain ⟨hx, hb, hml, hr, hown, hts, hlocks, hin⟩ := id E
  have hl : lv_has ls 8 [(0, .ref h0), (1, .int many), (2, .int a), (3, .int b), (4, .int c1), (5, .int d)] := hl
  refine lv_aload_n hx hb d_Mod_feed_0 rfl (lv_at hl 0 rfl) ?_
  refine lv_iload_n hx hb d_Mod_feed_1 rfl (lv_at hl 1 rfl) ?_
  refine lv_iconst (v := 0) hx hb d_Mod_feed_2 (by decide) ?_
  refine lv_bipush (v := 16) hx hb d_Mod_feed_3 (by decide) ?_
  refine tw_si (tw_runS (ws := [(h0, .inr (10, mo q (upd v 1 (nI n)))), ((q 2), aI g 600 f)]) (wc := []) (As := [.int many, .int 0, .int 16]) (rest := [.ref h0]) E hB hK hZ (c_Mod_isIn l g H.size many 0 16) mc_Mod_isIn ms_Mod_isIn wd_1443 hP hD hS hA [] rfl (by decide) rfl rfl (by decide) rfl hl.1 rfl (Nat.le_of_ble_eq_true rfl) (by decide) d_Mod_feed_5) (fun r1 hr1 => ?_)
  obtain rfl : r1 = is_in many 0 16 := hr1
  refine lv_if_ne (tgt := 15) hx hb d_Mod_feed_8 (by decide) (fun h8 => ?_) (fun h8 => ?_)
  · obtain ⟨i1, i2⟩ := is_inN h8
    refine lv_aload_n hx hb d_Mod_feed_15 rfl (lv_at hl 0 rfl) ?_
    refine va_get (D := g.1) (ci := 10) (v := .int (nI n)) (C := R_Mod) (T := F_Mod) (N := 61) hx hb hts in_Mod hown hK hP 0 rfl rfl 1 (by decide) (hts _ wd_1251) (fun _ h9 => h9) rfl d_Mod_feed_16 ?_
    refine lv_iload_n hx hb d_Mod_feed_19 rfl (lv_at hl 1 rfl) ?_
    refine lv_iadd hx hb d_Mod_feed_20 ?_
    refine lv_sipush (v := 600) hx hb d_Mod_feed_21 (by decide) ?_
    refine lv_icmp_le (tgt := 31) hx hb d_Mod_feed_24 (by decide) (fun h24 => ?_) (fun h24 => ?_)
    · obtain ⟨k0, hk0, hke⟩ := nI_of2 (n := 16) (by decide) i1 (Int32.not_lt.mp i2)
      have h24b := h24
      rw [hke, nI_add] at h24b
      have h24b := tn_le (b := 600) h24b (by omega) (by decide)
      subst hke
      refine lv_iconst (v := 0) hx hb d_Mod_feed_31 (by decide) ?_
      refine tw_wi (wr := [((q 2), aI g 600 f)]) (tw_runV (ws := [(h0, .inr (10, mo q (upd v 1 (nI n)))), ((q 2), aI g 600 f)]) (wc := [(h0, .inr (10, mo q (upd v 1 (nI n))))]) (As := [.int 0]) (rest := []) E hB hK hZ (c_Mod_refused l g H.size h0 q (upd v 1 (nI n)) 0) mc_Mod_refused mi_Mod_refused me_Mod_refused wd_1446 hP hD hS hA [0] rfl (by decide) 0 rfl rfl rfl rfl rfl (by decide) rfl hl.1 rfl (Nat.le_of_ble_eq_true rfl) (by decide) d_Mod_feed_32) hP hD hS hA [0] [1] rfl rfl (by decide) (by decide) (fun r2 u3 H locs hr2 hP hD hS => ?_)
      try dsimp only at hr2
      have hP : va_P g.1 classes [((q 2), aI g 600 f), (h0, .inr (10, mo q (upd (upd v 0 0) 1 (nI n))))] H := hP
      have hD : va_D A [((q 2), aI g 600 f), (h0, .inr (10, mo q (upd (upd v 0 0) 1 (nI n))))] := hD
      obtain rfl : r2 = 0 := hr2.trans (by decide)
      have hP : va_P g.1 classes [(h0, .inr (10, mo q (upd (upd v 0 0) 1 (nI n)))), ((q 2), aI g 600 f)] H := hP.sub [1, 0] rfl
      have hD : va_D A [(h0, .inr (10, mo q (upd (upd v 0 0) 1 (nI n)))), ((q 2), aI g 600 f)] := hD.sub [1, 0] (by decide) rfl
      refine lv_if_eq (tgt := 40) hx hb d_Mod_feed_35 (by decide) (fun h35 => ?_) (fun h35 => ?_)
      · refine lv_iconst (v := 0) hx hb d_Mod_feed_40 (by decide) ?_
        refine lv_istore hx hb d_Mod_feed_41 hl (by decide) rfl (fun ls hl => ?_)
        have hl : lv_has ls 8 [(6, .int 0), (0, .ref h0), (1, .int (nI k0)), (2, .int a), (3, .int b), (4, .int c1), (5, .int d)] := hl
        have loop43 : ∀ (k : Nat) (i : Nat) (ls : Array Slot) (H : Heap) (locs : List Loc) , k0 - i = k → (hi : i ≤ k0) → lv_has ls 8 [(6, .int (nI i)), (0, .ref h0), (1, .int (nI k0)), (2, .int a), (3, .int b), (4, .int c1), (5, .int d)] → va_P g.1 classes [(h0, .inr (10, mo q (upd (upd v 0 0) 1 (nI (n + i))))), ((q 2), aI g 600 (mf_f f n a b c1 d i))] H → va_D A [(h0, .inr (10, mo q (upd (upd v 0 0) 1 (nI (n + i))))), ((q 2), aI g 600 (mf_f f n a b c1 d i))] → va_S A s.heap H locs → W p l e ({ frames := 1, cells := 0, slots := 0, locals := 22 }) s m [.ref h0, .int (nI k0), .int a, .int b, .int c1, .int d].toArray below meth c H locs 0 0 (MQ below (tw_Qi g (fun r (u : Int32 × Nat) => (u = (1, 0) ∧ ((nI k0) < 0 ∨ 16 < (nI k0))) ∨ (u = (2, 0) ∧ ¬ (nI k0) < 0 ∧ (nI k0) ≤ 16 ∧ 600 < nI n + (nI k0)) ∨ (u.1 = 0 ∧ (nI k0) = nI u.2 ∧ u.2 ≤ 16 ∧ n + u.2 ≤ 600 ∧ r = nI (n + u.2))) (fun u : Int32 × Nat => [(h0, .inr (10, mo q (upd (upd v 0 u.1) 1 (nI (n + u.2))))), ((q 2), aI g 600 (mf_f f n a b c1 d u.2))]) A) [.ref h0, .int (nI k0), .int a, .int b, .int c1, .int d].toArray s 0 0 A) (F0 m 43 ls []) := by
          intro k
          induction k using Nat.strongRecOn with
          | _ k ih =>
            intro i ls H locs hk hi hl hP hD hS
            refine lv_iload hx hb d_Mod_feed_43 (lv_at hl 0 rfl) ?_
            refine lv_iload_n hx hb d_Mod_feed_45 rfl (lv_at hl 2 rfl) ?_
            refine lv_icmp_ge (tgt := 128) hx hb d_Mod_feed_46 (by decide) (fun h46 => ?_) (fun h46 => ?_)
            · have h46 := tn_le h46 (by omega) (by omega)
              obtain rfl : i = k0 := by omega
              refine lv_aload_n hx hb d_Mod_feed_128 rfl (lv_at hl 1 rfl) ?_
              refine va_get (D := g.1) (ci := 10) (v := .int (nI (n + i))) (C := R_Mod) (T := F_Mod) (N := 61) hx hb hts in_Mod hown hK hP 0 rfl rfl 1 (by decide) (hts _ wd_1251) (fun _ h9 => h9) rfl d_Mod_feed_129 ?_
              exact tw_iret E hS (0, i) (Or.inr (Or.inr ⟨rfl, rfl, by omega, by omega, rfl⟩)) hP hD d_Mod_feed_132
            · have h46 := tn_nle h46 (by omega) (by omega)
              refine lv_iload hx hb d_Mod_feed_49 (lv_at hl 0 rfl) ?_
              refine lv_iconst (v := 4) hx hb d_Mod_feed_51 (by decide) ?_
              refine lv_icmp_ge (tgt := 59) hx hb d_Mod_feed_52 (by decide) (fun h52 => ?_) (fun h52 => ?_)
              · have h52 := tn_le (a := 4) h52 (by decide) (by omega)
                refine lv_iload hx hb d_Mod_feed_59 (lv_at hl 0 rfl) ?_
                refine lv_bipush (v := 8) hx hb d_Mod_feed_61 (by decide) ?_
                refine lv_icmp_ge (tgt := 70) hx hb d_Mod_feed_63 (by decide) (fun h63 => ?_) (fun h63 => ?_)
                · have h63 := tn_le (a := 8) h63 (by decide) (by omega)
                  refine lv_iload hx hb d_Mod_feed_70 (lv_at hl 0 rfl) ?_
                  refine lv_bipush (v := 12) hx hb d_Mod_feed_72 (by decide) ?_
                  refine lv_icmp_ge (tgt := 82) hx hb d_Mod_feed_74 (by decide) (fun h74 => ?_) (fun h74 => ?_)
                  · have h74 := tn_le (a := 12) h74 (by decide) (by omega)
                    have ew : d = fd_w a b c1 d i := by simp [fd_w, show ¬ i < 4 by omega, show ¬ i < 8 by omega, show ¬ i < 12 by omega]
                    refine lv_iload hx hb d_Mod_feed_82 (lv_at hl 6 rfl) ?_
                    refine lv_istore hx hb d_Mod_feed_84 hl (by decide) rfl (fun ls hl => ?_)
                    have hl : lv_has ls 8 [(7, .int d), (6, .int (nI i)), (0, .ref h0), (1, .int (nI k0)), (2, .int a), (3, .int b), (4, .int c1), (5, .int d)] := hl
                    refine lv_aload_n hx hb d_Mod_feed_86 rfl (lv_at hl 2 rfl) ?_
                    refine va_get (D := g.1) (ci := 10) (v := .ref (q 2)) (C := R_Mod) (T := F_Mod) (N := 61) hx hb hts in_Mod hown hK hP 0 rfl rfl 2 (by decide) (hts _ wd_1252) (fun _ h9 => h9) rfl d_Mod_feed_87 ?_
                    refine lv_aload_n hx hb d_Mod_feed_90 rfl (lv_at hl 2 rfl) ?_
                    refine va_get (D := g.1) (ci := 10) (v := .int (nI (n + i))) (C := R_Mod) (T := F_Mod) (N := 61) hx hb hts in_Mod hown hK hP 0 rfl rfl 1 (by decide) (hts _ wd_1251) (fun _ h9 => h9) rfl d_Mod_feed_91 ?_
                    refine lv_iload hx hb d_Mod_feed_94 (lv_at hl 0 rfl) ?_
                    refine lv_bipush (v := 24) hx hb d_Mod_feed_96 (by decide) ?_
                    refine lv_bipush (v := 8) hx hb d_Mod_feed_98 (by decide) ?_
                    refine lv_iload hx hb d_Mod_feed_100 (lv_at hl 1 rfl) ?_
                    refine lv_iconst (v := 4) hx hb d_Mod_feed_102 (by decide) ?_
                    refine lv_irem hx hb d_Mod_feed_103 (by decide) ?_
                    refine lv_imul hx hb d_Mod_feed_104 ?_
                    refine lv_isub hx hb d_Mod_feed_105 ?_
                    refine lv_ishr hx hb d_Mod_feed_106 ?_
                    refine lv_sipush (v := 255) hx hb d_Mod_feed_107 (by decide) ?_
                    refine lv_iand hx hb d_Mod_feed_110 ?_
                    refine va_iast hx hb hK hP hD hS 1 0 rfl rfl (vp_in_nI (by omega) (by decide)) d_Mod_feed_111 (fun H locs hP hD hS => ?_)
                    have hP : va_P g.1 classes [(h0, .inr (10, mo q (upd (upd v 0 0) 1 (nI (n + i))))), ((q 2), aI g 600 (upd (mf_f f n a b c1 d i) (nI (n + i)).toNatClampNeg ((d >>> ((24 - (8 * ((nI i) - (nI i) / 4 * 4))) &&& 31)) &&& 255)))] H := hP
                    have hD : va_D A [(h0, .inr (10, mo q (upd (upd v 0 0) 1 (nI (n + i))))), ((q 2), aI g 600 (upd (mf_f f n a b c1 d i) (nI (n + i)).toNatClampNeg ((d >>> ((24 - (8 * ((nI i) - (nI i) / 4 * 4))) &&& 31)) &&& 255)))] := hD
                    refine lv_aload_n hx hb d_Mod_feed_112 rfl (lv_at hl 2 rfl) ?_
                    refine lv_dup hx hb d_Mod_feed_113 rfl ?_
                    refine va_get (D := g.1) (ci := 10) (v := .int (nI (n + i))) (C := R_Mod) (T := F_Mod) (N := 61) hx hb hts in_Mod hown hK hP 0 rfl rfl 1 (by decide) (hts _ wd_1251) (fun _ h9 => h9) rfl d_Mod_feed_114 ?_
                    refine lv_iconst (v := 1) hx hb d_Mod_feed_117 (by decide) ?_
                    refine lv_iadd hx hb d_Mod_feed_118 ?_
                    refine tw_ri (e2 := nI (n + (i + 1))) ((nI_succ (n + i)).symm) ?_
                    refine va_put (D := g.1) (ci := 10) (v := .int (nI (n + (i + 1)))) (ty := .int) (C := R_Mod) (T := F_Mod) (N := 61) hx hb hts in_Mod t_Mod t_Mod_ok n_Mod hown hK hP hD hS 0 rfl rfl 1 (by decide) (hts _ wd_1251) (fun _ h9 => h9) rfl (t_Mod_ok 1 (by decide)) rfl rfl (Nat.le_of_ble_eq_true rfl) d_Mod_feed_119 (fun H locs hP hD hS => ?_)
                    have hP : va_P g.1 classes [(h0, .inr (10, mo q (upd (upd v 0 0) 1 (nI (n + (i + 1)))))), ((q 2), aI g 600 (upd (mf_f f n a b c1 d i) (nI (n + i)).toNatClampNeg ((d >>> ((24 - (8 * ((nI i) - (nI i) / 4 * 4))) &&& 31)) &&& 255)))] H := hP
                    have hD : va_D A [(h0, .inr (10, mo q (upd (upd v 0 0) 1 (nI (n + (i + 1)))))), ((q 2), aI g 600 (upd (mf_f f n a b c1 d i) (nI (n + i)).toNatClampNeg ((d >>> ((24 - (8 * ((nI i) - (nI i) / 4 * 4))) &&& 31)) &&& 255)))] := hD
                    refine lv_iinc (k := 1) (v := nI (i + 1)) hx hb d_Mod_feed_122 hl rfl ((nI_succ i).symm) (by decide) rfl (fun ls hl => ?_)
                    have hl : lv_has ls 8 [(6, .int (nI (i + 1))), (7, .int d), (0, .ref h0), (1, .int (nI k0)), (2, .int a), (3, .int b), (4, .int c1), (5, .int d)] := hl
                    refine lv_goto (tgt := 43) hx hb d_Mod_feed_125 (by decide) ?_
                    have e8 : upd (mf_f f n a b c1 d i) (nI (n + i)).toNatClampNeg ((d >>> ((24 - (8 * ((nI i) - (nI i) / 4 * 4))) &&& 31)) &&& 255) = mf_f f n a b c1 d (i + 1) := by rw [mf_f, ← ew, nI_clamp (by omega)]; rfl
                    rw [e8] at hP hD
                    exact ih _ (by omega) (i + 1) ls _ _ rfl (by omega) (lv_sub hl [0, 2, 3, 4, 5, 6, 7] rfl) hP hD hS
                  · have h74 := tn_nle (a := 12) h74 (by decide) (by omega)
                    have ew : c1 = fd_w a b c1 d i := by simp [fd_w, show ¬ i < 4 by omega, show ¬ i < 8 by omega, h74]
                    refine lv_iload hx hb d_Mod_feed_77 (lv_at hl 5 rfl) ?_
                    refine lv_goto (tgt := 84) hx hb d_Mod_feed_79 (by decide) ?_
                    refine lv_istore hx hb d_Mod_feed_84 hl (by decide) rfl (fun ls hl => ?_)
                    have hl : lv_has ls 8 [(7, .int c1), (6, .int (nI i)), (0, .ref h0), (1, .int (nI k0)), (2, .int a), (3, .int b), (4, .int c1), (5, .int d)] := hl
                    refine lv_aload_n hx hb d_Mod_feed_86 rfl (lv_at hl 2 rfl) ?_
                    refine va_get (D := g.1) (ci := 10) (v := .ref (q 2)) (C := R_Mod) (T := F_Mod) (N := 61) hx hb hts in_Mod hown hK hP 0 rfl rfl 2 (by decide) (hts _ wd_1252) (fun _ h9 => h9) rfl d_Mod_feed_87 ?_
                    refine lv_aload_n hx hb d_Mod_feed_90 rfl (lv_at hl 2 rfl) ?_
                    refine va_get (D := g.1) (ci := 10) (v := .int (nI (n + i))) (C := R_Mod) (T := F_Mod) (N := 61) hx hb hts in_Mod hown hK hP 0 rfl rfl 1 (by decide) (hts _ wd_1251) (fun _ h9 => h9) rfl d_Mod_feed_91 ?_
                    refine lv_iload hx hb d_Mod_feed_94 (lv_at hl 0 rfl) ?_
                    refine lv_bipush (v := 24) hx hb d_Mod_feed_96 (by decide) ?_
                    refine lv_bipush (v := 8) hx hb d_Mod_feed_98 (by decide) ?_
                    refine lv_iload hx hb d_Mod_feed_100 (lv_at hl 1 rfl) ?_
                    refine lv_iconst (v := 4) hx hb d_Mod_feed_102 (by decide) ?_
                    refine lv_irem hx hb d_Mod_feed_103 (by decide) ?_
                    refine lv_imul hx hb d_Mod_feed_104 ?_
                    refine lv_isub hx hb d_Mod_feed_105 ?_
                    refine lv_ishr hx hb d_Mod_feed_106 ?_
                    refine lv_sipush (v := 255) hx hb d_Mod_feed_107 (by decide) ?_
                    refine lv_iand hx hb d_Mod_feed_110 ?_
                    refine va_iast hx hb hK hP hD hS 1 0 rfl rfl (vp_in_nI (by omega) (by decide)) d_Mod_feed_111 (fun H locs hP hD hS => ?_)
                    have hP : va_P g.1 classes [(h0, .inr (10, mo q (upd (upd v 0 0) 1 (nI (n + i))))), ((q 2), aI g 600 (upd (mf_f f n a b c1 d i) (nI (n + i)).toNatClampNeg ((c1 >>> ((24 - (8 * ((nI i) - (nI i) / 4 * 4))) &&& 31)) &&& 255)))] H := hP
                    have hD : va_D A [(h0, .inr (10, mo q (upd (upd v 0 0) 1 (nI (n + i))))), ((q 2), aI g 600 (upd (mf_f f n a b c1 d i) (nI (n + i)).toNatClampNeg ((c1 >>> ((24 - (8 * ((nI i) - (nI i) / 4 * 4))) &&& 31)) &&& 255)))] := hD
                    refine lv_aload_n hx hb d_Mod_feed_112 rfl (lv_at hl 2 rfl) ?_
                    refine lv_dup hx hb d_Mod_feed_113 rfl ?_
                    refine va_get (D := g.1) (ci := 10) (v := .int (nI (n + i))) (C := R_Mod) (T := F_Mod) (N := 61) hx hb hts in_Mod hown hK hP 0 rfl rfl 1 (by decide) (hts _ wd_1251) (fun _ h9 => h9) rfl d_Mod_feed_114 ?_
                    refine lv_iconst (v := 1) hx hb d_Mod_feed_117 (by decide) ?_
                    refine lv_iadd hx hb d_Mod_feed_118 ?_
                    refine tw_ri (e2 := nI (n + (i + 1))) ((nI_succ (n + i)).symm) ?_
                    refine va_put (D := g.1) (ci := 10) (v := .int (nI (n + (i + 1)))) (ty := .int) (C := R_Mod) (T := F_Mod) (N := 61) hx hb hts in_Mod t_Mod t_Mod_ok n_Mod hown hK hP hD hS 0 rfl rfl 1 (by decide) (hts _ wd_1251) (fun _ h9 => h9) rfl (t_Mod_ok 1 (by decide)) rfl rfl (Nat.le_of_ble_eq_true rfl) d_Mod_feed_119 (fun H locs hP hD hS => ?_)
                    have hP : va_P g.1 classes [(h0, .inr (10, mo q (upd (upd v 0 0) 1 (nI (n + (i + 1)))))), ((q 2), aI g 600 (upd (mf_f f n a b c1 d i) (nI (n + i)).toNatClampNeg ((c1 >>> ((24 - (8 * ((nI i) - (nI i) / 4 * 4))) &&& 31)) &&& 255)))] H := hP
                    have hD : va_D A [(h0, .inr (10, mo q (upd (upd v 0 0) 1 (nI (n + (i + 1)))))), ((q 2), aI g 600 (upd (mf_f f n a b c1 d i) (nI (n + i)).toNatClampNeg ((c1 >>> ((24 - (8 * ((nI i) - (nI i) / 4 * 4))) &&& 31)) &&& 255)))] := hD
                    refine lv_iinc (k := 1) (v := nI (i + 1)) hx hb d_Mod_feed_122 hl rfl ((nI_succ i).symm) (by decide) rfl (fun ls hl => ?_)
                    have hl : lv_has ls 8 [(6, .int (nI (i + 1))), (7, .int c1), (0, .ref h0), (1, .int (nI k0)), (2, .int a), (3, .int b), (4, .int c1), (5, .int d)] := hl
                    refine lv_goto (tgt := 43) hx hb d_Mod_feed_125 (by decide) ?_
                    have e8 : upd (mf_f f n a b c1 d i) (nI (n + i)).toNatClampNeg ((c1 >>> ((24 - (8 * ((nI i) - (nI i) / 4 * 4))) &&& 31)) &&& 255) = mf_f f n a b c1 d (i + 1) := by rw [mf_f, ← ew, nI_clamp (by omega)]; rfl
                    rw [e8] at hP hD
                    exact ih _ (by omega) (i + 1) ls _ _ rfl (by omega) (lv_sub hl [0, 2, 3, 4, 5, 6, 7] rfl) hP hD hS
                · have h63 := tn_nle (a := 8) h63 (by decide) (by omega)
                  have ew : b = fd_w a b c1 d i := by simp [fd_w, show ¬ i < 4 by omega, h63]
                  refine lv_iload_n hx hb d_Mod_feed_66 rfl (lv_at hl 4 rfl) ?_
                  refine lv_goto (tgt := 84) hx hb d_Mod_feed_67 (by decide) ?_
                  refine lv_istore hx hb d_Mod_feed_84 hl (by decide) rfl (fun ls hl => ?_)
                  have hl : lv_has ls 8 [(7, .int b), (6, .int (nI i)), (0, .ref h0), (1, .int (nI k0)), (2, .int a), (3, .int b), (4, .int c1), (5, .int d)] := hl
                  refine lv_aload_n hx hb d_Mod_feed_86 rfl (lv_at hl 2 rfl) ?_
                  refine va_get (D := g.1) (ci := 10) (v := .ref (q 2)) (C := R_Mod) (T := F_Mod) (N := 61) hx hb hts in_Mod hown hK hP 0 rfl rfl 2 (by decide) (hts _ wd_1252) (fun _ h9 => h9) rfl d_Mod_feed_87 ?_
                  refine lv_aload_n hx hb d_Mod_feed_90 rfl (lv_at hl 2 rfl) ?_
                  refine va_get (D := g.1) (ci := 10) (v := .int (nI (n + i))) (C := R_Mod) (T := F_Mod) (N := 61) hx hb hts in_Mod hown hK hP 0 rfl rfl 1 (by decide) (hts _ wd_1251) (fun _ h9 => h9) rfl d_Mod_feed_91 ?_
                  refine lv_iload hx hb d_Mod_feed_94 (lv_at hl 0 rfl) ?_
                  refine lv_bipush (v := 24) hx hb d_Mod_feed_96 (by decide) ?_
                  refine lv_bipush (v := 8) hx hb d_Mod_feed_98 (by decide) ?_
                  refine lv_iload hx hb d_Mod_feed_100 (lv_at hl 1 rfl) ?_
                  refine lv_iconst (v := 4) hx hb d_Mod_feed_102 (by decide) ?_
                  refine lv_irem hx hb d_Mod_feed_103 (by decide) ?_
                  refine lv_imul hx hb d_Mod_feed_104 ?_
                  refine lv_isub hx hb d_Mod_feed_105 ?_
                  refine lv_ishr hx hb d_Mod_feed_106 ?_
                  refine lv_sipush (v := 255) hx hb d_Mod_feed_107 (by decide) ?_
                  refine lv_iand hx hb d_Mod_feed_110 ?_
                  refine va_iast hx hb hK hP hD hS 1 0 rfl rfl (vp_in_nI (by omega) (by decide)) d_Mod_feed_111 (fun H locs hP hD hS => ?_)
                  have hP : va_P g.1 classes [(h0, .inr (10, mo q (upd (upd v 0 0) 1 (nI (n + i))))), ((q 2), aI g 600 (upd (mf_f f n a b c1 d i) (nI (n + i)).toNatClampNeg ((b >>> ((24 - (8 * ((nI i) - (nI i) / 4 * 4))) &&& 31)) &&& 255)))] H := hP
                  have hD : va_D A [(h0, .inr (10, mo q (upd (upd v 0 0) 1 (nI (n + i))))), ((q 2), aI g 600 (upd (mf_f f n a b c1 d i) (nI (n + i)).toNatClampNeg ((b >>> ((24 - (8 * ((nI i) - (nI i) / 4 * 4))) &&& 31)) &&& 255)))] := hD
                  refine lv_aload_n hx hb d_Mod_feed_112 rfl (lv_at hl 2 rfl) ?_
                  refine lv_dup hx hb d_Mod_feed_113 rfl ?_
                  refine va_get (D := g.1) (ci := 10) (v := .int (nI (n + i))) (C := R_Mod) (T := F_Mod) (N := 61) hx hb hts in_Mod hown hK hP 0 rfl rfl 1 (by decide) (hts _ wd_1251) (fun _ h9 => h9) rfl d_Mod_feed_114 ?_
                  refine lv_iconst (v := 1) hx hb d_Mod_feed_117 (by decide) ?_
                  refine lv_iadd hx hb d_Mod_feed_118 ?_
                  refine tw_ri (e2 := nI (n + (i + 1))) ((nI_succ (n + i)).symm) ?_
                  refine va_put (D := g.1) (ci := 10) (v := .int (nI (n + (i + 1)))) (ty := .int) (C := R_Mod) (T := F_Mod) (N := 61) hx hb hts in_Mod t_Mod t_Mod_ok n_Mod hown hK hP hD hS 0 rfl rfl 1 (by decide) (hts _ wd_1251) (fun _ h9 => h9) rfl (t_Mod_ok 1 (by decide)) rfl rfl (Nat.le_of_ble_eq_true rfl) d_Mod_feed_119 (fun H locs hP hD hS => ?_)
                  have hP : va_P g.1 classes [(h0, .inr (10, mo q (upd (upd v 0 0) 1 (nI (n + (i + 1)))))), ((q 2), aI g 600 (upd (mf_f f n a b c1 d i) (nI (n + i)).toNatClampNeg ((b >>> ((24 - (8 * ((nI i) - (nI i) / 4 * 4))) &&& 31)) &&& 255)))] H := hP
                  have hD : va_D A [(h0, .inr (10, mo q (upd (upd v 0 0) 1 (nI (n + (i + 1)))))), ((q 2), aI g 600 (upd (mf_f f n a b c1 d i) (nI (n + i)).toNatClampNeg ((b >>> ((24 - (8 * ((nI i) - (nI i) / 4 * 4))) &&& 31)) &&& 255)))] := hD
                  refine lv_iinc (k := 1) (v := nI (i + 1)) hx hb d_Mod_feed_122 hl rfl ((nI_succ i).symm) (by decide) rfl (fun ls hl => ?_)
                  have hl : lv_has ls 8 [(6, .int (nI (i + 1))), (7, .int b), (0, .ref h0), (1, .int (nI k0)), (2, .int a), (3, .int b), (4, .int c1), (5, .int d)] := hl
                  refine lv_goto (tgt := 43) hx hb d_Mod_feed_125 (by decide) ?_
                  have e8 : upd (mf_f f n a b c1 d i) (nI (n + i)).toNatClampNeg ((b >>> ((24 - (8 * ((nI i) - (nI i) / 4 * 4))) &&& 31)) &&& 255) = mf_f f n a b c1 d (i + 1) := by rw [mf_f, ← ew, nI_clamp (by omega)]; rfl
                  rw [e8] at hP hD
                  exact ih _ (by omega) (i + 1) ls _ _ rfl (by omega) (lv_sub hl [0, 2, 3, 4, 5, 6, 7] rfl) hP hD hS
              · have h52 := tn_nle (a := 4) h52 (by decide) (by omega)
                have ew : a = fd_w a b c1 d i := by simp [fd_w, h52]
                refine lv_iload_n hx hb d_Mod_feed_55 rfl (lv_at hl 3 rfl) ?_
                refine lv_goto (tgt := 84) hx hb d_Mod_feed_56 (by decide) ?_
                refine lv_istore hx hb d_Mod_feed_84 hl (by decide) rfl (fun ls hl => ?_)
                have hl : lv_has ls 8 [(7, .int a), (6, .int (nI i)), (0, .ref h0), (1, .int (nI k0)), (2, .int a), (3, .int b), (4, .int c1), (5, .int d)] := hl
                refine lv_aload_n hx hb d_Mod_feed_86 rfl (lv_at hl 2 rfl) ?_
                refine va_get (D := g.1) (ci := 10) (v := .ref (q 2)) (C := R_Mod) (T := F_Mod) (N := 61) hx hb hts in_Mod hown hK hP 0 rfl rfl 2 (by decide) (hts _ wd_1252) (fun _ h9 => h9) rfl d_Mod_feed_87 ?_
                refine lv_aload_n hx hb d_Mod_feed_90 rfl (lv_at hl 2 rfl) ?_
                refine va_get (D := g.1) (ci := 10) (v := .int (nI (n + i))) (C := R_Mod) (T := F_Mod) (N := 61) hx hb hts in_Mod hown hK hP 0 rfl rfl 1 (by decide) (hts _ wd_1251) (fun _ h9 => h9) rfl d_Mod_feed_91 ?_
                refine lv_iload hx hb d_Mod_feed_94 (lv_at hl 0 rfl) ?_
                refine lv_bipush (v := 24) hx hb d_Mod_feed_96 (by decide) ?_
                refine lv_bipush (v := 8) hx hb d_Mod_feed_98 (by decide) ?_
                refine lv_iload hx hb d_Mod_feed_100 (lv_at hl 1 rfl) ?_
                refine lv_iconst (v := 4) hx hb d_Mod_feed_102 (by decide) ?_
                refine lv_irem hx hb d_Mod_feed_103 (by decide) ?_
                refine lv_imul hx hb d_Mod_feed_104 ?_
                refine lv_isub hx hb d_Mod_feed_105 ?_
                refine lv_ishr hx hb d_Mod_feed_106 ?_
                refine lv_sipush (v := 255) hx hb d_Mod_feed_107 (by decide) ?_
                refine lv_iand hx hb d_Mod_feed_110 ?_
                refine va_iast hx hb hK hP hD hS 1 0 rfl rfl (vp_in_nI (by omega) (by decide)) d_Mod_feed_111 (fun H locs hP hD hS => ?_)
                have hP : va_P g.1 classes [(h0, .inr (10, mo q (upd (upd v 0 0) 1 (nI (n + i))))), ((q 2), aI g 600 (upd (mf_f f n a b c1 d i) (nI (n + i)).toNatClampNeg ((a >>> ((24 - (8 * ((nI i) - (nI i) / 4 * 4))) &&& 31)) &&& 255)))] H := hP
                have hD : va_D A [(h0, .inr (10, mo q (upd (upd v 0 0) 1 (nI (n + i))))), ((q 2), aI g 600 (upd (mf_f f n a b c1 d i) (nI (n + i)).toNatClampNeg ((a >>> ((24 - (8 * ((nI i) - (nI i) / 4 * 4))) &&& 31)) &&& 255)))] := hD
                refine lv_aload_n hx hb d_Mod_feed_112 rfl (lv_at hl 2 rfl) ?_
                refine lv_dup hx hb d_Mod_feed_113 rfl ?_
                refine va_get (D := g.1) (ci := 10) (v := .int (nI (n + i))) (C := R_Mod) (T := F_Mod) (N := 61) hx hb hts in_Mod hown hK hP 0 rfl rfl 1 (by decide) (hts _ wd_1251) (fun _ h9 => h9) rfl d_Mod_feed_114 ?_
                refine lv_iconst (v := 1) hx hb d_Mod_feed_117 (by decide) ?_
                refine lv_iadd hx hb d_Mod_feed_118 ?_
                refine tw_ri (e2 := nI (n + (i + 1))) ((nI_succ (n + i)).symm) ?_
                refine va_put (D := g.1) (ci := 10) (v := .int (nI (n + (i + 1)))) (ty := .int) (C := R_Mod) (T := F_Mod) (N := 61) hx hb hts in_Mod t_Mod t_Mod_ok n_Mod hown hK hP hD hS 0 rfl rfl 1 (by decide) (hts _ wd_1251) (fun _ h9 => h9) rfl (t_Mod_ok 1 (by decide)) rfl rfl (Nat.le_of_ble_eq_true rfl) d_Mod_feed_119 (fun H locs hP hD hS => ?_)
                have hP : va_P g.1 classes [(h0, .inr (10, mo q (upd (upd v 0 0) 1 (nI (n + (i + 1)))))), ((q 2), aI g 600 (upd (mf_f f n a b c1 d i) (nI (n + i)).toNatClampNeg ((a >>> ((24 - (8 * ((nI i) - (nI i) / 4 * 4))) &&& 31)) &&& 255)))] H := hP
                have hD : va_D A [(h0, .inr (10, mo q (upd (upd v 0 0) 1 (nI (n + (i + 1)))))), ((q 2), aI g 600 (upd (mf_f f n a b c1 d i) (nI (n + i)).toNatClampNeg ((a >>> ((24 - (8 * ((nI i) - (nI i) / 4 * 4))) &&& 31)) &&& 255)))] := hD
                refine lv_iinc (k := 1) (v := nI (i + 1)) hx hb d_Mod_feed_122 hl rfl ((nI_succ i).symm) (by decide) rfl (fun ls hl => ?_)
                have hl : lv_has ls 8 [(6, .int (nI (i + 1))), (7, .int a), (0, .ref h0), (1, .int (nI k0)), (2, .int a), (3, .int b), (4, .int c1), (5, .int d)] := hl
                refine lv_goto (tgt := 43) hx hb d_Mod_feed_125 (by decide) ?_
                have e8 : upd (mf_f f n a b c1 d i) (nI (n + i)).toNatClampNeg ((a >>> ((24 - (8 * ((nI i) - (nI i) / 4 * 4))) &&& 31)) &&& 255) = mf_f f n a b c1 d (i + 1) := by rw [mf_f, ← ew, nI_clamp (by omega)]; rfl
                rw [e8] at hP hD
                exact ih _ (by omega) (i + 1) ls _ _ rfl (by omega) (lv_sub hl [0, 2, 3, 4, 5, 6, 7] rfl) hP hD hS
        exact loop43 _ 0 ls _ _ rfl (Nat.zero_le _) (hl) hP hD hS
      · exact absurd rfl h35
    · refine lv_iconst (v := 2) hx hb d_Mod_feed_27 (by decide) ?_
      refine lv_goto (tgt := 32) hx hb d_Mod_feed_28 (by decide) ?_
      refine tw_wi (wr := [((q 2), aI g 600 f)]) (tw_runV (ws := [(h0, .inr (10, mo q (upd v 1 (nI n)))), ((q 2), aI g 600 f)]) (wc := [(h0, .inr (10, mo q (upd v 1 (nI n))))]) (As := [.int 2]) (rest := []) E hB hK hZ (c_Mod_refused l g H.size h0 q (upd v 1 (nI n)) 2) mc_Mod_refused mi_Mod_refused me_Mod_refused wd_1446 hP hD hS hA [0] rfl (by decide) 0 rfl rfl rfl rfl rfl (by decide) rfl hl.1 rfl (Nat.le_of_ble_eq_true rfl) (by decide) d_Mod_feed_32) hP hD hS hA [0] [1] rfl rfl (by decide) (by decide) (fun r4 u5 H locs hr4 hP hD hS => ?_)
      try dsimp only at hr4
      have hP : va_P g.1 classes [((q 2), aI g 600 f), (h0, .inr (10, mo q (upd (upd v 0 2) 1 (nI n))))] H := hP
      have hD : va_D A [((q 2), aI g 600 f), (h0, .inr (10, mo q (upd (upd v 0 2) 1 (nI n))))] := hD
      obtain rfl : r4 = 1 := hr4.trans (by decide)
      have hP : va_P g.1 classes [(h0, .inr (10, mo q (upd (upd v 0 2) 1 (nI n)))), ((q 2), aI g 600 f)] H := hP.sub [1, 0] rfl
      have hD : va_D A [(h0, .inr (10, mo q (upd (upd v 0 2) 1 (nI n)))), ((q 2), aI g 600 f)] := hD.sub [1, 0] (by decide) rfl
      refine lv_if_eq (tgt := 40) hx hb d_Mod_feed_35 (by decide) (fun h35 => ?_) (fun h35 => ?_)
      · exact absurd h35 (by decide)
      · refine lv_iconst (v := 0) hx hb d_Mod_feed_38 (by decide) ?_
        exact tw_iret E hS (2, 0) (Or.inr (Or.inl ⟨rfl, i1, Int32.not_lt.mp i2, Int32.not_le.mp h24⟩)) hP hD d_Mod_feed_39
  · refine lv_iconst (v := 1) hx hb d_Mod_feed_11 (by decide) ?_
    refine lv_goto (tgt := 32) hx hb d_Mod_feed_12 (by decide) ?_
    refine tw_wi (wr := [((q 2), aI g 600 f)]) (tw_runV (ws := [(h0, .inr (10, mo q (upd v 1 (nI n)))), ((q 2), aI g 600 f)]) (wc := [(h0, .inr (10, mo q (upd v 1 (nI n))))]) (As := [.int 1]) (rest := []) E hB hK hZ (c_Mod_refused l g H.size h0 q (upd v 1 (nI n)) 1) mc_Mod_refused mi_Mod_refused me_Mod_refused wd_1446 hP hD hS hA [0] rfl (by decide) 0 rfl rfl rfl rfl rfl (by decide) rfl hl.1 rfl (Nat.le_of_ble_eq_true rfl) (by decide) d_Mod_feed_32) hP hD hS hA [0] [1] rfl rfl (by decide) (by decide) (fun r6 u7 H locs hr6 hP hD hS => ?_)
    try dsimp only at hr6
    have hP : va_P g.1 classes [((q 2), aI g 600 f), (h0, .inr (10, mo q (upd (upd v 0 1) 1 (nI n))))] H := hP
    have hD : va_D A [((q 2), aI g 600 f), (h0, .inr (10, mo q (upd (upd v 0 1) 1 (nI n))))] := hD
    obtain rfl : r6 = 1 := hr6.trans (by decide)
    have hP : va_P g.1 classes [(h0, .inr (10, mo q (upd (upd v 0 1) 1 (nI n)))), ((q 2), aI g 600 f)] H := hP.sub [1, 0] rfl
    have hD : va_D A [(h0, .inr (10, mo q (upd (upd v 0 1) 1 (nI n)))), ((q 2), aI g 600 f)] := hD.sub [1, 0] (by decide) rfl
    refine lv_if_eq (tgt := 40) hx hb d_Mod_feed_35 (by decide) (fun h35 => ?_) (fun h35 => ?_)
    · exact absurd h35 (by decide)
    · refine lv_iconst (v := 0) hx hb d_Mod_feed_38 (by decide) ?_
      exact tw_iret E hS (1, 0) (Or.inl ⟨rfl, is_inZ h8⟩) hP hD d_Mod_feed_39
set_option maxHeartbeats 4000000 in
set_option maxRecDepth 100000 in
theorem c_Mod_put (l : Launch) (g : tw_G) (sz : Nat) (h0 : Nat) (q : Nat → Nat) (v : Nat → Int32) (n : Nat) (f : Nat → Int32) (pl x : Int32) (hn : n ≤ 600) : Met l y_Mod_put [.code y_Mod_put b_Mod_put 4 (some .int)] ({ frames := 1, cells := 0, slots := 0, locals := 22 }) (tw_P g [.ref h0, .int pl, .int x] [(h0, .inr (10, mo q (upd v 1 (nI n)))), ((q 2), aI g 600 f)] sz) (tw_Qi g (fun r (u : Int32 × Nat) => (u.1 = 1 ∧ (pl < 0 ∨ nI n ≤ pl)) ∨ (u.1 = 2 ∧ ¬ pl < 0 ∧ pl < nI n ∧ (x < 0 ∨ 255 < x)) ∨ (u.1 = 0 ∧ pl = nI u.2 ∧ u.2 < n ∧ ¬ x < 0 ∧ x ≤ 255 ∧ r = f u.2)) (fun u : Int32 × Nat => [(h0, .inr (10, mo q (upd (upd v 0 u.1) 1 (nI n)))), ((q 2), aI g 600 (if u.1 = 0 then upd f u.2 x else f))]) (va_A [(h0, .inr (10, mo q (upd v 1 (nI n)))), ((q 2), aI g 600 f)] sz)) 0 0 (va_A [(h0, .inr (10, mo q (upd v 1 (nI n)))), ((q 2), aI g 600 f)] sz) := by
  refine tw_metW (l := l) (g := g) (y := y_Mod_put) (cc := b_Mod_put) (maxL := 4) (ret := (some .int)) (rm := { frames := 1, cells := 0, slots := 0, locals := 22 }) (mc := 0) (ms := 0) (av := [.ref h0, .int pl, .int x]) (ws := [(h0, .inr (10, mo q (upd v 1 (nI n)))), ((q 2), aI g 600 f)]) (sz := sz) (Qc := fun A => (tw_Qi g (fun r (u : Int32 × Nat) => (u.1 = 1 ∧ (pl < 0 ∨ nI n ≤ pl)) ∨ (u.1 = 2 ∧ ¬ pl < 0 ∧ pl < nI n ∧ (x < 0 ∨ 255 < x)) ∨ (u.1 = 0 ∧ pl = nI u.2 ∧ u.2 < n ∧ ¬ x < 0 ∧ x ≤ 255 ∧ r = f u.2)) (fun u : Int32 × Nat => [(h0, .inr (10, mo q (upd (upd v 0 u.1) 1 (nI n)))), ((q 2), aI g 600 (if u.1 = 0 then upd f u.2 x else f))]) A)) (by decide) (Nat.le_of_ble_eq_true rfl) ?_
  intro p e s m below meth c ls H A E hB hK hZ hP hD hS hA hl
  obtain ⟨hx, hb, hml, hr, hown, hts, hlocks, hin⟩ := id E
  have hl : lv_has ls 4 [(0, .ref h0), (1, .int pl), (2, .int x)] := hl
  refine lv_aload_n hx hb d_Mod_put_0 rfl (lv_at hl 0 rfl) ?_
  refine lv_iload_n hx hb d_Mod_put_1 rfl (lv_at hl 1 rfl) ?_
  refine lv_iconst (v := 0) hx hb d_Mod_put_2 (by decide) ?_
  refine lv_aload_n hx hb d_Mod_put_3 rfl (lv_at hl 0 rfl) ?_
  refine va_get (D := g.1) (ci := 10) (v := .int (nI n)) (C := R_Mod) (T := F_Mod) (N := 61) hx hb hts in_Mod hown hK hP 0 rfl rfl 1 (by decide) (hts _ wd_1251) (fun _ h9 => h9) rfl d_Mod_put_4 ?_
  refine lv_iconst (v := 1) hx hb d_Mod_put_7 (by decide) ?_
  refine lv_isub hx hb d_Mod_put_8 ?_
  refine tw_si (tw_runS (ws := [(h0, .inr (10, mo q (upd v 1 (nI n)))), ((q 2), aI g 600 f)]) (wc := []) (As := [.int pl, .int 0, .int ((nI n) - 1)]) (rest := [.ref h0]) E hB hK hZ (c_Mod_isIn l g H.size pl 0 (nI n - 1)) mc_Mod_isIn ms_Mod_isIn wd_1443 hP hD hS hA [] rfl (by decide) rfl rfl (by decide) rfl hl.1 rfl (Nat.le_of_ble_eq_true rfl) (by decide) d_Mod_put_9) (fun r1 hr1 => ?_)
  obtain rfl : r1 = is_in pl 0 (nI n - 1) := hr1
  refine lv_if_ne (tgt := 19) hx hb d_Mod_put_12 (by decide) (fun h12 => ?_) (fun h12 => ?_)
  · obtain ⟨i1, i2⟩ := is_inN h12
    have i2 := tn_isubN i1 i2 hn
    refine lv_iload_n hx hb d_Mod_put_19 rfl (lv_at hl 2 rfl) ?_
    refine lv_iconst (v := 0) hx hb d_Mod_put_20 (by decide) ?_
    refine lv_sipush (v := 255) hx hb d_Mod_put_21 (by decide) ?_
    refine tw_si (tw_runS (ws := [(h0, .inr (10, mo q (upd v 1 (nI n)))), ((q 2), aI g 600 f)]) (wc := []) (As := [.int x, .int 0, .int 255]) (rest := [.ref h0]) E hB hK hZ (c_Mod_isIn l g H.size x 0 255) mc_Mod_isIn ms_Mod_isIn wd_1443 hP hD hS hA [] rfl (by decide) rfl rfl (by decide) rfl hl.1 rfl (Nat.le_of_ble_eq_true rfl) (by decide) d_Mod_put_24) (fun r2 hr2 => ?_)
    obtain rfl : r2 = is_in x 0 255 := hr2
    refine lv_if_ne (tgt := 34) hx hb d_Mod_put_27 (by decide) (fun h27 => ?_) (fun h27 => ?_)
    · obtain ⟨i3, i4⟩ := is_inN h27
      obtain ⟨j, hj, hje⟩ := nI_of i1
      subst hje
      have hj := tn_lt i2 (by omega) (by omega)
      refine lv_iconst (v := 0) hx hb d_Mod_put_34 (by decide) ?_
      refine tw_wi (wr := [((q 2), aI g 600 f)]) (tw_runV (ws := [(h0, .inr (10, mo q (upd v 1 (nI n)))), ((q 2), aI g 600 f)]) (wc := [(h0, .inr (10, mo q (upd v 1 (nI n))))]) (As := [.int 0]) (rest := []) E hB hK hZ (c_Mod_refused l g H.size h0 q (upd v 1 (nI n)) 0) mc_Mod_refused mi_Mod_refused me_Mod_refused wd_1446 hP hD hS hA [0] rfl (by decide) 0 rfl rfl rfl rfl rfl (by decide) rfl hl.1 rfl (Nat.le_of_ble_eq_true rfl) (by decide) d_Mod_put_35) hP hD hS hA [0] [1] rfl rfl (by decide) (by decide) (fun r3 u4 H locs hr3 hP hD hS => ?_)
      try dsimp only at hr3
      have hP : va_P g.1 classes [((q 2), aI g 600 f), (h0, .inr (10, mo q (upd (upd v 0 0) 1 (nI n))))] H := hP
      have hD : va_D A [((q 2), aI g 600 f), (h0, .inr (10, mo q (upd (upd v 0 0) 1 (nI n))))] := hD
      obtain rfl : r3 = 0 := hr3.trans (by decide)
      have hP : va_P g.1 classes [(h0, .inr (10, mo q (upd (upd v 0 0) 1 (nI n)))), ((q 2), aI g 600 f)] H := hP.sub [1, 0] rfl
      have hD : va_D A [(h0, .inr (10, mo q (upd (upd v 0 0) 1 (nI n)))), ((q 2), aI g 600 f)] := hD.sub [1, 0] (by decide) rfl
      refine lv_if_eq (tgt := 43) hx hb d_Mod_put_38 (by decide) (fun h38 => ?_) (fun h38 => ?_)
      · refine lv_aload_n hx hb d_Mod_put_43 rfl (lv_at hl 0 rfl) ?_
        refine va_get (D := g.1) (ci := 10) (v := .ref (q 2)) (C := R_Mod) (T := F_Mod) (N := 61) hx hb hts in_Mod hown hK hP 0 rfl rfl 2 (by decide) (hts _ wd_1252) (fun _ h9 => h9) rfl d_Mod_put_44 ?_
        refine lv_iload_n hx hb d_Mod_put_47 rfl (lv_at hl 1 rfl) ?_
        refine va_iald hx hb hK hP 1 0 rfl rfl (vp_in_nI (by omega) (by decide)) d_Mod_put_48 ?_
        refine lv_istore_n hx hb d_Mod_put_49 rfl hl (by decide) rfl (fun ls hl => ?_)
        have hl : lv_has ls 4 [(3, .int (f (nI j).toNatClampNeg)), (0, .ref h0), (1, .int (nI j)), (2, .int x)] := hl
        refine lv_aload_n hx hb d_Mod_put_50 rfl (lv_at hl 1 rfl) ?_
        refine va_get (D := g.1) (ci := 10) (v := .ref (q 2)) (C := R_Mod) (T := F_Mod) (N := 61) hx hb hts in_Mod hown hK hP 0 rfl rfl 2 (by decide) (hts _ wd_1252) (fun _ h9 => h9) rfl d_Mod_put_51 ?_
        refine lv_iload_n hx hb d_Mod_put_54 rfl (lv_at hl 2 rfl) ?_
        refine lv_iload_n hx hb d_Mod_put_55 rfl (lv_at hl 3 rfl) ?_
        refine va_iast hx hb hK hP hD hS 1 0 rfl rfl (vp_in_nI (by omega) (by decide)) d_Mod_put_56 (fun H locs hP hD hS => ?_)
        have hP : va_P g.1 classes [(h0, .inr (10, mo q (upd (upd v 0 0) 1 (nI n)))), ((q 2), aI g 600 (upd f (nI j).toNatClampNeg x))] H := hP
        have hD : va_D A [(h0, .inr (10, mo q (upd (upd v 0 0) 1 (nI n)))), ((q 2), aI g 600 (upd f (nI j).toNatClampNeg x))] := hD
        refine lv_iload_n hx hb d_Mod_put_57 rfl (lv_at hl 0 rfl) ?_
        rw [nI_clamp (by omega)] at hP hD
        exact tw_iret E hS (0, j) (Or.inr (Or.inr ⟨rfl, rfl, hj, i3, Int32.not_lt.mp i4, by rw [nI_clamp (by omega)]⟩)) hP hD d_Mod_put_58
      · exact absurd rfl h38
    · refine lv_iconst (v := 2) hx hb d_Mod_put_30 (by decide) ?_
      refine lv_goto (tgt := 35) hx hb d_Mod_put_31 (by decide) ?_
      refine tw_wi (wr := [((q 2), aI g 600 f)]) (tw_runV (ws := [(h0, .inr (10, mo q (upd v 1 (nI n)))), ((q 2), aI g 600 f)]) (wc := [(h0, .inr (10, mo q (upd v 1 (nI n))))]) (As := [.int 2]) (rest := []) E hB hK hZ (c_Mod_refused l g H.size h0 q (upd v 1 (nI n)) 2) mc_Mod_refused mi_Mod_refused me_Mod_refused wd_1446 hP hD hS hA [0] rfl (by decide) 0 rfl rfl rfl rfl rfl (by decide) rfl hl.1 rfl (Nat.le_of_ble_eq_true rfl) (by decide) d_Mod_put_35) hP hD hS hA [0] [1] rfl rfl (by decide) (by decide) (fun r5 u6 H locs hr5 hP hD hS => ?_)
      try dsimp only at hr5
      have hP : va_P g.1 classes [((q 2), aI g 600 f), (h0, .inr (10, mo q (upd (upd v 0 2) 1 (nI n))))] H := hP
      have hD : va_D A [((q 2), aI g 600 f), (h0, .inr (10, mo q (upd (upd v 0 2) 1 (nI n))))] := hD
      obtain rfl : r5 = 1 := hr5.trans (by decide)
      have hP : va_P g.1 classes [(h0, .inr (10, mo q (upd (upd v 0 2) 1 (nI n)))), ((q 2), aI g 600 f)] H := hP.sub [1, 0] rfl
      have hD : va_D A [(h0, .inr (10, mo q (upd (upd v 0 2) 1 (nI n)))), ((q 2), aI g 600 f)] := hD.sub [1, 0] (by decide) rfl
      refine lv_if_eq (tgt := 43) hx hb d_Mod_put_38 (by decide) (fun h38 => ?_) (fun h38 => ?_)
      · exact absurd h38 (by decide)
      · refine lv_iconst (v := 0) hx hb d_Mod_put_41 (by decide) ?_
        exact tw_iret E hS (2, 0) (Or.inr (Or.inl ⟨rfl, i1, i2, is_inZ h27⟩)) hP hD d_Mod_put_42
  · refine lv_iconst (v := 1) hx hb d_Mod_put_15 (by decide) ?_
    refine lv_goto (tgt := 35) hx hb d_Mod_put_16 (by decide) ?_
    refine tw_wi (wr := [((q 2), aI g 600 f)]) (tw_runV (ws := [(h0, .inr (10, mo q (upd v 1 (nI n)))), ((q 2), aI g 600 f)]) (wc := [(h0, .inr (10, mo q (upd v 1 (nI n))))]) (As := [.int 1]) (rest := []) E hB hK hZ (c_Mod_refused l g H.size h0 q (upd v 1 (nI n)) 1) mc_Mod_refused mi_Mod_refused me_Mod_refused wd_1446 hP hD hS hA [0] rfl (by decide) 0 rfl rfl rfl rfl rfl (by decide) rfl hl.1 rfl (Nat.le_of_ble_eq_true rfl) (by decide) d_Mod_put_35) hP hD hS hA [0] [1] rfl rfl (by decide) (by decide) (fun r7 u8 H locs hr7 hP hD hS => ?_)
    try dsimp only at hr7
    have hP : va_P g.1 classes [((q 2), aI g 600 f), (h0, .inr (10, mo q (upd (upd v 0 1) 1 (nI n))))] H := hP
    have hD : va_D A [((q 2), aI g 600 f), (h0, .inr (10, mo q (upd (upd v 0 1) 1 (nI n))))] := hD
    obtain rfl : r7 = 1 := hr7.trans (by decide)
    have hP : va_P g.1 classes [(h0, .inr (10, mo q (upd (upd v 0 1) 1 (nI n)))), ((q 2), aI g 600 f)] H := hP.sub [1, 0] rfl
    have hD : va_D A [(h0, .inr (10, mo q (upd (upd v 0 1) 1 (nI n)))), ((q 2), aI g 600 f)] := hD.sub [1, 0] (by decide) rfl
    refine lv_if_eq (tgt := 43) hx hb d_Mod_put_38 (by decide) (fun h38 => ?_) (fun h38 => ?_)
    · exact absurd h38 (by decide)
    · refine lv_iconst (v := 0) hx hb d_Mod_put_41 (by decide) ?_
      exact tw_iret E hS (1, 0) (Or.inl ⟨rfl, tn_isubZ (is_inZ h12) hn⟩) hP hD d_Mod_put_42
set_option maxHeartbeats 4000000 in
set_option maxRecDepth 100000 in
theorem c_Mod_cut (l : Launch) (g : tw_G) (sz : Nat) (h0 : Nat) (q : Nat → Nat) (v : Nat → Int32) (n : Nat) (kc : Int32) (hn : n ≤ 600) : Met l y_Mod_cut [.code y_Mod_cut b_Mod_cut 3 (some .int)] ({ frames := 1, cells := 0, slots := 0, locals := 22 }) (tw_P g [.ref h0, .int kc] [(h0, .inr (10, mo q (upd v 1 (nI n))))] sz) (tw_Qi g (fun r (u : Int32 × Nat) => (u = (1, n) ∧ (kc < 0 ∨ nI n < kc)) ∨ (u.1 = 0 ∧ kc = nI u.2 ∧ u.2 ≤ n ∧ r = nI (n - u.2))) (fun u : Int32 × Nat => [(h0, .inr (10, mo q (upd (upd v 0 u.1) 1 (nI u.2))))]) (va_A [(h0, .inr (10, mo q (upd v 1 (nI n))))] sz)) 0 0 (va_A [(h0, .inr (10, mo q (upd v 1 (nI n))))] sz) := by
  refine tw_metW (l := l) (g := g) (y := y_Mod_cut) (cc := b_Mod_cut) (maxL := 3) (ret := (some .int)) (rm := { frames := 1, cells := 0, slots := 0, locals := 22 }) (mc := 0) (ms := 0) (av := [.ref h0, .int kc]) (ws := [(h0, .inr (10, mo q (upd v 1 (nI n))))]) (sz := sz) (Qc := fun A => (tw_Qi g (fun r (u : Int32 × Nat) => (u = (1, n) ∧ (kc < 0 ∨ nI n < kc)) ∨ (u.1 = 0 ∧ kc = nI u.2 ∧ u.2 ≤ n ∧ r = nI (n - u.2))) (fun u : Int32 × Nat => [(h0, .inr (10, mo q (upd (upd v 0 u.1) 1 (nI u.2))))]) A)) (by decide) (Nat.le_of_ble_eq_true rfl) ?_
  intro p e s m below meth c ls H A E hB hK hZ hP hD hS hA hl
  obtain ⟨hx, hb, hml, hr, hown, hts, hlocks, hin⟩ := id E
  have hl : lv_has ls 3 [(0, .ref h0), (1, .int kc)] := hl
  refine lv_aload_n hx hb d_Mod_cut_0 rfl (lv_at hl 0 rfl) ?_
  refine lv_iload_n hx hb d_Mod_cut_1 rfl (lv_at hl 1 rfl) ?_
  refine lv_iconst (v := 0) hx hb d_Mod_cut_2 (by decide) ?_
  refine lv_aload_n hx hb d_Mod_cut_3 rfl (lv_at hl 0 rfl) ?_
  refine va_get (D := g.1) (ci := 10) (v := .int (nI n)) (C := R_Mod) (T := F_Mod) (N := 61) hx hb hts in_Mod hown hK hP 0 rfl rfl 1 (by decide) (hts _ wd_1251) (fun _ h9 => h9) rfl d_Mod_cut_4 ?_
  refine tw_si (tw_runS (ws := [(h0, .inr (10, mo q (upd v 1 (nI n))))]) (wc := []) (As := [.int kc, .int 0, .int (nI n)]) (rest := [.ref h0]) E hB hK hZ (c_Mod_isIn l g H.size kc 0 (nI n)) mc_Mod_isIn ms_Mod_isIn wd_1443 hP hD hS hA [] rfl (by decide) rfl rfl (by decide) rfl hl.1 rfl (Nat.le_of_ble_eq_true rfl) (by decide) d_Mod_cut_7) (fun r1 hr1 => ?_)
  obtain rfl : r1 = is_in kc 0 (nI n) := hr1
  refine lv_if_eq (tgt := 17) hx hb d_Mod_cut_10 (by decide) (fun h10 => ?_) (fun h10 => ?_)
  · refine lv_iconst (v := 1) hx hb d_Mod_cut_17 (by decide) ?_
    refine tw_wi (wr := []) (tw_runV (ws := [(h0, .inr (10, mo q (upd v 1 (nI n))))]) (wc := [(h0, .inr (10, mo q (upd v 1 (nI n))))]) (As := [.int 1]) (rest := []) E hB hK hZ (c_Mod_refused l g H.size h0 q (upd v 1 (nI n)) 1) mc_Mod_refused mi_Mod_refused me_Mod_refused wd_1446 hP hD hS hA [0] rfl (by decide) 0 rfl rfl rfl rfl rfl (by decide) rfl hl.1 rfl (Nat.le_of_ble_eq_true rfl) (by decide) d_Mod_cut_18) hP hD hS hA [0] [] rfl rfl (by decide) (by decide) (fun r2 u3 H locs hr2 hP hD hS => ?_)
    try dsimp only at hr2
    have hP : va_P g.1 classes [(h0, .inr (10, mo q (upd (upd v 0 1) 1 (nI n))))] H := hP
    have hD : va_D A [(h0, .inr (10, mo q (upd (upd v 0 1) 1 (nI n))))] := hD
    obtain rfl : r2 = 1 := hr2.trans (by decide)
    have hP : va_P g.1 classes [(h0, .inr (10, mo q (upd (upd v 0 1) 1 (nI n))))] H := hP.sub [0] rfl
    have hD : va_D A [(h0, .inr (10, mo q (upd (upd v 0 1) 1 (nI n))))] := hD.sub [0] (by decide) rfl
    refine lv_if_eq (tgt := 26) hx hb d_Mod_cut_21 (by decide) (fun h21 => ?_) (fun h21 => ?_)
    · exact absurd h21 (by decide)
    · refine lv_iconst (v := 0) hx hb d_Mod_cut_24 (by decide) ?_
      exact tw_iret E hS (1, n) (Or.inl ⟨rfl, is_inZ h10⟩) hP hD d_Mod_cut_25
  · obtain ⟨i1, i2⟩ := is_inN h10
    obtain ⟨j, hj, hje⟩ := nI_of i1
    subst hje
    have hj := tn_nlt i2 (by omega) (by omega)
    refine lv_iconst (v := 0) hx hb d_Mod_cut_13 (by decide) ?_
    refine lv_goto (tgt := 18) hx hb d_Mod_cut_14 (by decide) ?_
    refine tw_wi (wr := []) (tw_runV (ws := [(h0, .inr (10, mo q (upd v 1 (nI n))))]) (wc := [(h0, .inr (10, mo q (upd v 1 (nI n))))]) (As := [.int 0]) (rest := []) E hB hK hZ (c_Mod_refused l g H.size h0 q (upd v 1 (nI n)) 0) mc_Mod_refused mi_Mod_refused me_Mod_refused wd_1446 hP hD hS hA [0] rfl (by decide) 0 rfl rfl rfl rfl rfl (by decide) rfl hl.1 rfl (Nat.le_of_ble_eq_true rfl) (by decide) d_Mod_cut_18) hP hD hS hA [0] [] rfl rfl (by decide) (by decide) (fun r4 u5 H locs hr4 hP hD hS => ?_)
    try dsimp only at hr4
    have hP : va_P g.1 classes [(h0, .inr (10, mo q (upd (upd v 0 0) 1 (nI n))))] H := hP
    have hD : va_D A [(h0, .inr (10, mo q (upd (upd v 0 0) 1 (nI n))))] := hD
    obtain rfl : r4 = 0 := hr4.trans (by decide)
    have hP : va_P g.1 classes [(h0, .inr (10, mo q (upd (upd v 0 0) 1 (nI n))))] H := hP.sub [0] rfl
    have hD : va_D A [(h0, .inr (10, mo q (upd (upd v 0 0) 1 (nI n))))] := hD.sub [0] (by decide) rfl
    refine lv_if_eq (tgt := 26) hx hb d_Mod_cut_21 (by decide) (fun h21 => ?_) (fun h21 => ?_)
    · refine lv_aload_n hx hb d_Mod_cut_26 rfl (lv_at hl 0 rfl) ?_
      refine va_get (D := g.1) (ci := 10) (v := .int (nI n)) (C := R_Mod) (T := F_Mod) (N := 61) hx hb hts in_Mod hown hK hP 0 rfl rfl 1 (by decide) (hts _ wd_1251) (fun _ h9 => h9) rfl d_Mod_cut_27 ?_
      refine lv_iload_n hx hb d_Mod_cut_30 rfl (lv_at hl 1 rfl) ?_
      refine lv_isub hx hb d_Mod_cut_31 ?_
      refine tw_ri (e2 := nI (n - j)) (pk_sub hj) ?_
      refine lv_istore_n hx hb d_Mod_cut_32 rfl hl (by decide) rfl (fun ls hl => ?_)
      have hl : lv_has ls 3 [(2, .int (nI (n - j))), (0, .ref h0), (1, .int (nI j))] := hl
      refine lv_aload_n hx hb d_Mod_cut_33 rfl (lv_at hl 1 rfl) ?_
      refine lv_iload_n hx hb d_Mod_cut_34 rfl (lv_at hl 2 rfl) ?_
      refine va_put (D := g.1) (ci := 10) (v := .int (nI j)) (ty := .int) (C := R_Mod) (T := F_Mod) (N := 61) hx hb hts in_Mod t_Mod t_Mod_ok n_Mod hown hK hP hD hS 0 rfl rfl 1 (by decide) (hts _ wd_1251) (fun _ h9 => h9) rfl (t_Mod_ok 1 (by decide)) rfl rfl (Nat.le_of_ble_eq_true rfl) d_Mod_cut_35 (fun H locs hP hD hS => ?_)
      have hP : va_P g.1 classes [(h0, .inr (10, mo q (upd (upd v 0 0) 1 (nI j))))] H := hP
      have hD : va_D A [(h0, .inr (10, mo q (upd (upd v 0 0) 1 (nI j))))] := hD
      refine lv_iload_n hx hb d_Mod_cut_38 rfl (lv_at hl 0 rfl) ?_
      exact tw_iret E hS (0, j) (Or.inr ⟨rfl, rfl, hj, rfl⟩) hP hD d_Mod_cut_39
    · exact absurd rfl h21
set_option maxHeartbeats 4000000 in
set_option maxRecDepth 100000 in
theorem c_Mod_limit (l : Launch) (g : tw_G) (sz : Nat) (h0 : Nat) (q : Nat → Nat) (v : Nat → Int32) (mm mb wh k : Int32) : Met l y_Mod_limit [.code y_Mod_limit b_Mod_limit 4 (some .int)] ({ frames := 1, cells := 0, slots := 0, locals := 22 }) (tw_P g [.ref h0, .int wh, .int k] [(h0, .inr (10, mo q (upd (upd v 6 mm) 7 mb)))] sz) (tw_Qi g (fun r (u : Int32 × Int32 × Int32) => (u = (1, mm, mb) ∧ (wh < 0 ∨ 1 < wh ∨ k < 0 ∨ 600 < k)) ∨ (u.1 = 0 ∧ ¬ k < 0 ∧ k ≤ 600 ∧ ((wh = 0 ∧ r = mm ∧ u.2 = (k, mb)) ∨ (wh = 1 ∧ r = mb ∧ u.2 = (mm, k))))) (fun u : Int32 × Int32 × Int32 => [(h0, .inr (10, mo q (upd (upd (upd v 0 u.1) 6 u.2.1) 7 u.2.2)))]) (va_A [(h0, .inr (10, mo q (upd (upd v 6 mm) 7 mb)))] sz)) 0 0 (va_A [(h0, .inr (10, mo q (upd (upd v 6 mm) 7 mb)))] sz) := by
  refine tw_metW (l := l) (g := g) (y := y_Mod_limit) (cc := b_Mod_limit) (maxL := 4) (ret := (some .int)) (rm := { frames := 1, cells := 0, slots := 0, locals := 22 }) (mc := 0) (ms := 0) (av := [.ref h0, .int wh, .int k]) (ws := [(h0, .inr (10, mo q (upd (upd v 6 mm) 7 mb)))]) (sz := sz) (Qc := fun A => (tw_Qi g (fun r (u : Int32 × Int32 × Int32) => (u = (1, mm, mb) ∧ (wh < 0 ∨ 1 < wh ∨ k < 0 ∨ 600 < k)) ∨ (u.1 = 0 ∧ ¬ k < 0 ∧ k ≤ 600 ∧ ((wh = 0 ∧ r = mm ∧ u.2 = (k, mb)) ∨ (wh = 1 ∧ r = mb ∧ u.2 = (mm, k))))) (fun u : Int32 × Int32 × Int32 => [(h0, .inr (10, mo q (upd (upd (upd v 0 u.1) 6 u.2.1) 7 u.2.2)))]) A)) (by decide) (Nat.le_of_ble_eq_true rfl) ?_
  intro p e s m below meth c ls H A E hB hK hZ hP hD hS hA hl
  obtain ⟨hx, hb, hml, hr, hown, hts, hlocks, hin⟩ := id E
  have hl : lv_has ls 4 [(0, .ref h0), (1, .int wh), (2, .int k)] := hl
  refine lv_aload_n hx hb d_Mod_limit_0 rfl (lv_at hl 0 rfl) ?_
  refine lv_iload_n hx hb d_Mod_limit_1 rfl (lv_at hl 1 rfl) ?_
  refine lv_iconst (v := 0) hx hb d_Mod_limit_2 (by decide) ?_
  refine lv_iconst (v := 1) hx hb d_Mod_limit_3 (by decide) ?_
  refine tw_si (tw_runS (ws := [(h0, .inr (10, mo q (upd (upd v 6 mm) 7 mb)))]) (wc := []) (As := [.int wh, .int 0, .int 1]) (rest := [.ref h0]) E hB hK hZ (c_Mod_isIn l g H.size wh 0 1) mc_Mod_isIn ms_Mod_isIn wd_1443 hP hD hS hA [] rfl (by decide) rfl rfl (by decide) rfl hl.1 rfl (Nat.le_of_ble_eq_true rfl) (by decide) d_Mod_limit_4) (fun r1 hr1 => ?_)
  obtain rfl : r1 = is_in wh 0 1 := hr1
  refine lv_if_eq (tgt := 25) hx hb d_Mod_limit_7 (by decide) (fun h7 => ?_) (fun h7 => ?_)
  · refine lv_iconst (v := 1) hx hb d_Mod_limit_25 (by decide) ?_
    refine tw_wi (wr := []) (tw_runV (ws := [(h0, .inr (10, mo q (upd (upd v 6 mm) 7 mb)))]) (wc := [(h0, .inr (10, mo q (upd (upd v 6 mm) 7 mb)))]) (As := [.int 1]) (rest := []) E hB hK hZ (c_Mod_refused l g H.size h0 q (upd (upd v 6 mm) 7 mb) 1) mc_Mod_refused mi_Mod_refused me_Mod_refused wd_1446 hP hD hS hA [0] rfl (by decide) 0 rfl rfl rfl rfl rfl (by decide) rfl hl.1 rfl (Nat.le_of_ble_eq_true rfl) (by decide) d_Mod_limit_26) hP hD hS hA [0] [] rfl rfl (by decide) (by decide) (fun r2 u3 H locs hr2 hP hD hS => ?_)
    try dsimp only at hr2
    have hP : va_P g.1 classes [(h0, .inr (10, mo q (upd (upd (upd v 0 1) 6 mm) 7 mb)))] H := hP
    have hD : va_D A [(h0, .inr (10, mo q (upd (upd (upd v 0 1) 6 mm) 7 mb)))] := hD
    obtain rfl : r2 = 1 := hr2.trans (by decide)
    have hP : va_P g.1 classes [(h0, .inr (10, mo q (upd (upd (upd v 0 1) 6 mm) 7 mb)))] H := hP.sub [0] rfl
    have hD : va_D A [(h0, .inr (10, mo q (upd (upd (upd v 0 1) 6 mm) 7 mb)))] := hD.sub [0] (by decide) rfl
    refine lv_if_eq (tgt := 34) hx hb d_Mod_limit_29 (by decide) (fun h29 => ?_) (fun h29 => ?_)
    · exact absurd h29 (by decide)
    · refine lv_iconst (v := 0) hx hb d_Mod_limit_32 (by decide) ?_
      exact tw_iret E hS (1, mm, mb) (Or.inl ⟨rfl, by first | exact (is_inZ h7).elim Or.inl (fun h => Or.inr (Or.inl h)) | exact (is_inZ h18).elim (fun h => Or.inr (Or.inr (Or.inl h))) (fun h => Or.inr (Or.inr (Or.inr h)))⟩) hP hD d_Mod_limit_33
  · obtain ⟨i1, i2⟩ := is_inN h7
    refine lv_iload_n hx hb d_Mod_limit_10 rfl (lv_at hl 2 rfl) ?_
    refine lv_iconst (v := 0) hx hb d_Mod_limit_11 (by decide) ?_
    refine lv_sipush (v := 600) hx hb d_Mod_limit_12 (by decide) ?_
    refine tw_si (tw_runS (ws := [(h0, .inr (10, mo q (upd (upd v 6 mm) 7 mb)))]) (wc := []) (As := [.int k, .int 0, .int 600]) (rest := [.ref h0]) E hB hK hZ (c_Mod_isIn l g H.size k 0 600) mc_Mod_isIn ms_Mod_isIn wd_1443 hP hD hS hA [] rfl (by decide) rfl rfl (by decide) rfl hl.1 rfl (Nat.le_of_ble_eq_true rfl) (by decide) d_Mod_limit_15) (fun r4 hr4 => ?_)
    obtain rfl : r4 = is_in k 0 600 := hr4
    refine lv_if_eq (tgt := 25) hx hb d_Mod_limit_18 (by decide) (fun h18 => ?_) (fun h18 => ?_)
    · refine lv_iconst (v := 1) hx hb d_Mod_limit_25 (by decide) ?_
      refine tw_wi (wr := []) (tw_runV (ws := [(h0, .inr (10, mo q (upd (upd v 6 mm) 7 mb)))]) (wc := [(h0, .inr (10, mo q (upd (upd v 6 mm) 7 mb)))]) (As := [.int 1]) (rest := []) E hB hK hZ (c_Mod_refused l g H.size h0 q (upd (upd v 6 mm) 7 mb) 1) mc_Mod_refused mi_Mod_refused me_Mod_refused wd_1446 hP hD hS hA [0] rfl (by decide) 0 rfl rfl rfl rfl rfl (by decide) rfl hl.1 rfl (Nat.le_of_ble_eq_true rfl) (by decide) d_Mod_limit_26) hP hD hS hA [0] [] rfl rfl (by decide) (by decide) (fun r5 u6 H locs hr5 hP hD hS => ?_)
      try dsimp only at hr5
      have hP : va_P g.1 classes [(h0, .inr (10, mo q (upd (upd (upd v 0 1) 6 mm) 7 mb)))] H := hP
      have hD : va_D A [(h0, .inr (10, mo q (upd (upd (upd v 0 1) 6 mm) 7 mb)))] := hD
      obtain rfl : r5 = 1 := hr5.trans (by decide)
      have hP : va_P g.1 classes [(h0, .inr (10, mo q (upd (upd (upd v 0 1) 6 mm) 7 mb)))] H := hP.sub [0] rfl
      have hD : va_D A [(h0, .inr (10, mo q (upd (upd (upd v 0 1) 6 mm) 7 mb)))] := hD.sub [0] (by decide) rfl
      refine lv_if_eq (tgt := 34) hx hb d_Mod_limit_29 (by decide) (fun h29 => ?_) (fun h29 => ?_)
      · exact absurd h29 (by decide)
      · refine lv_iconst (v := 0) hx hb d_Mod_limit_32 (by decide) ?_
        exact tw_iret E hS (1, mm, mb) (Or.inl ⟨rfl, by first | exact (is_inZ h7).elim Or.inl (fun h => Or.inr (Or.inl h)) | exact (is_inZ h18).elim (fun h => Or.inr (Or.inr (Or.inl h))) (fun h => Or.inr (Or.inr (Or.inr h)))⟩) hP hD d_Mod_limit_33
    · obtain ⟨i3, i4⟩ := is_inN h18
      refine lv_iconst (v := 0) hx hb d_Mod_limit_21 (by decide) ?_
      refine lv_goto (tgt := 26) hx hb d_Mod_limit_22 (by decide) ?_
      refine tw_wi (wr := []) (tw_runV (ws := [(h0, .inr (10, mo q (upd (upd v 6 mm) 7 mb)))]) (wc := [(h0, .inr (10, mo q (upd (upd v 6 mm) 7 mb)))]) (As := [.int 0]) (rest := []) E hB hK hZ (c_Mod_refused l g H.size h0 q (upd (upd v 6 mm) 7 mb) 0) mc_Mod_refused mi_Mod_refused me_Mod_refused wd_1446 hP hD hS hA [0] rfl (by decide) 0 rfl rfl rfl rfl rfl (by decide) rfl hl.1 rfl (Nat.le_of_ble_eq_true rfl) (by decide) d_Mod_limit_26) hP hD hS hA [0] [] rfl rfl (by decide) (by decide) (fun r7 u8 H locs hr7 hP hD hS => ?_)
      try dsimp only at hr7
      have hP : va_P g.1 classes [(h0, .inr (10, mo q (upd (upd (upd v 0 0) 6 mm) 7 mb)))] H := hP
      have hD : va_D A [(h0, .inr (10, mo q (upd (upd (upd v 0 0) 6 mm) 7 mb)))] := hD
      obtain rfl : r7 = 0 := hr7.trans (by decide)
      have hP : va_P g.1 classes [(h0, .inr (10, mo q (upd (upd (upd v 0 0) 6 mm) 7 mb)))] H := hP.sub [0] rfl
      have hD : va_D A [(h0, .inr (10, mo q (upd (upd (upd v 0 0) 6 mm) 7 mb)))] := hD.sub [0] (by decide) rfl
      refine lv_if_eq (tgt := 34) hx hb d_Mod_limit_29 (by decide) (fun h29 => ?_) (fun h29 => ?_)
      · refine lv_iload_n hx hb d_Mod_limit_34 rfl (lv_at hl 1 rfl) ?_
        refine lv_if_ne (tgt := 45) hx hb d_Mod_limit_35 (by decide) (fun h35 => ?_) (fun h35 => ?_)
        · refine lv_aload_n hx hb d_Mod_limit_45 rfl (lv_at hl 0 rfl) ?_
          refine va_get (D := g.1) (ci := 10) (v := .int mb) (C := R_Mod) (T := F_Mod) (N := 61) hx hb hts in_Mod hown hK hP 0 rfl rfl 7 (by decide) (hts _ wd_1257) (fun _ h9 => h9) rfl d_Mod_limit_46 ?_
          refine lv_istore_n hx hb d_Mod_limit_49 rfl hl (by decide) rfl (fun ls hl => ?_)
          have hl : lv_has ls 4 [(3, .int mb), (0, .ref h0), (1, .int wh), (2, .int k)] := hl
          refine lv_aload_n hx hb d_Mod_limit_50 rfl (lv_at hl 1 rfl) ?_
          refine lv_iload_n hx hb d_Mod_limit_51 rfl (lv_at hl 2 rfl) ?_
          refine lv_if_ne (tgt := 59) hx hb d_Mod_limit_52 (by decide) (fun h52 => ?_) (fun h52 => ?_)
          · refine lv_aload_n hx hb d_Mod_limit_59 rfl (lv_at hl 1 rfl) ?_
            refine va_get (D := g.1) (ci := 10) (v := .int mm) (C := R_Mod) (T := F_Mod) (N := 61) hx hb hts in_Mod hown hK hP 0 rfl rfl 6 (by decide) (hts _ wd_1256) (fun _ h9 => h9) rfl d_Mod_limit_60 ?_
            refine va_put (D := g.1) (ci := 10) (v := .int mm) (ty := .int) (C := R_Mod) (T := F_Mod) (N := 61) hx hb hts in_Mod t_Mod t_Mod_ok n_Mod hown hK hP hD hS 0 rfl rfl 6 (by decide) (hts _ wd_1256) (fun _ h9 => h9) rfl (t_Mod_ok 6 (by decide)) rfl rfl (Nat.le_of_ble_eq_true rfl) d_Mod_limit_63 (fun H locs hP hD hS => ?_)
            have hP : va_P g.1 classes [(h0, .inr (10, mo q (upd (upd (upd v 0 0) 6 mm) 7 mb)))] H := hP
            have hD : va_D A [(h0, .inr (10, mo q (upd (upd (upd v 0 0) 6 mm) 7 mb)))] := hD
            refine lv_aload_n hx hb d_Mod_limit_66 rfl (lv_at hl 1 rfl) ?_
            refine lv_iload_n hx hb d_Mod_limit_67 rfl (lv_at hl 2 rfl) ?_
            refine lv_iconst (v := 1) hx hb d_Mod_limit_68 (by decide) ?_
            refine lv_icmp_ne (tgt := 76) hx hb d_Mod_limit_69 (by decide) (fun h69 => ?_) (fun h69 => ?_)
            · exact absurd (tn_1 i1 i2 h35) h69
            · refine lv_iload_n hx hb d_Mod_limit_72 rfl (lv_at hl 3 rfl) ?_
              refine lv_goto (tgt := 80) hx hb d_Mod_limit_73 (by decide) ?_
              refine va_put (D := g.1) (ci := 10) (v := .int k) (ty := .int) (C := R_Mod) (T := F_Mod) (N := 61) hx hb hts in_Mod t_Mod t_Mod_ok n_Mod hown hK hP hD hS 0 rfl rfl 7 (by decide) (hts _ wd_1257) (fun _ h9 => h9) rfl (t_Mod_ok 7 (by decide)) rfl rfl (Nat.le_of_ble_eq_true rfl) d_Mod_limit_80 (fun H locs hP hD hS => ?_)
              have hP : va_P g.1 classes [(h0, .inr (10, mo q (upd (upd (upd v 0 0) 6 mm) 7 k)))] H := hP
              have hD : va_D A [(h0, .inr (10, mo q (upd (upd (upd v 0 0) 6 mm) 7 k)))] := hD
              refine lv_iload_n hx hb d_Mod_limit_83 rfl (lv_at hl 0 rfl) ?_
              exact tw_iret E hS (0, mm, k) (Or.inr ⟨rfl, i3, Int32.not_lt.mp i4, Or.inr ⟨tn_1 i1 i2 h35, rfl, rfl⟩⟩) hP hD d_Mod_limit_84
          · exact absurd h52 h35
        · refine lv_aload_n hx hb d_Mod_limit_38 rfl (lv_at hl 0 rfl) ?_
          refine va_get (D := g.1) (ci := 10) (v := .int mm) (C := R_Mod) (T := F_Mod) (N := 61) hx hb hts in_Mod hown hK hP 0 rfl rfl 6 (by decide) (hts _ wd_1256) (fun _ h9 => h9) rfl d_Mod_limit_39 ?_
          refine lv_goto (tgt := 49) hx hb d_Mod_limit_42 (by decide) ?_
          refine lv_istore_n hx hb d_Mod_limit_49 rfl hl (by decide) rfl (fun ls hl => ?_)
          have hl : lv_has ls 4 [(3, .int mm), (0, .ref h0), (1, .int wh), (2, .int k)] := hl
          refine lv_aload_n hx hb d_Mod_limit_50 rfl (lv_at hl 1 rfl) ?_
          refine lv_iload_n hx hb d_Mod_limit_51 rfl (lv_at hl 2 rfl) ?_
          refine lv_if_ne (tgt := 59) hx hb d_Mod_limit_52 (by decide) (fun h52 => ?_) (fun h52 => ?_)
          · exact absurd h35 h52
          · refine lv_iload_n hx hb d_Mod_limit_55 rfl (lv_at hl 3 rfl) ?_
            refine lv_goto (tgt := 63) hx hb d_Mod_limit_56 (by decide) ?_
            refine va_put (D := g.1) (ci := 10) (v := .int k) (ty := .int) (C := R_Mod) (T := F_Mod) (N := 61) hx hb hts in_Mod t_Mod t_Mod_ok n_Mod hown hK hP hD hS 0 rfl rfl 6 (by decide) (hts _ wd_1256) (fun _ h9 => h9) rfl (t_Mod_ok 6 (by decide)) rfl rfl (Nat.le_of_ble_eq_true rfl) d_Mod_limit_63 (fun H locs hP hD hS => ?_)
            have hP : va_P g.1 classes [(h0, .inr (10, mo q (upd (upd (upd v 0 0) 6 k) 7 mb)))] H := hP
            have hD : va_D A [(h0, .inr (10, mo q (upd (upd (upd v 0 0) 6 k) 7 mb)))] := hD
            refine lv_aload_n hx hb d_Mod_limit_66 rfl (lv_at hl 1 rfl) ?_
            refine lv_iload_n hx hb d_Mod_limit_67 rfl (lv_at hl 2 rfl) ?_
            refine lv_iconst (v := 1) hx hb d_Mod_limit_68 (by decide) ?_
            refine lv_icmp_ne (tgt := 76) hx hb d_Mod_limit_69 (by decide) (fun h69 => ?_) (fun h69 => ?_)
            · refine lv_aload_n hx hb d_Mod_limit_76 rfl (lv_at hl 1 rfl) ?_
              refine va_get (D := g.1) (ci := 10) (v := .int mb) (C := R_Mod) (T := F_Mod) (N := 61) hx hb hts in_Mod hown hK hP 0 rfl rfl 7 (by decide) (hts _ wd_1257) (fun _ h9 => h9) rfl d_Mod_limit_77 ?_
              refine va_put (D := g.1) (ci := 10) (v := .int mb) (ty := .int) (C := R_Mod) (T := F_Mod) (N := 61) hx hb hts in_Mod t_Mod t_Mod_ok n_Mod hown hK hP hD hS 0 rfl rfl 7 (by decide) (hts _ wd_1257) (fun _ h9 => h9) rfl (t_Mod_ok 7 (by decide)) rfl rfl (Nat.le_of_ble_eq_true rfl) d_Mod_limit_80 (fun H locs hP hD hS => ?_)
              have hP : va_P g.1 classes [(h0, .inr (10, mo q (upd (upd (upd v 0 0) 6 k) 7 mb)))] H := hP
              have hD : va_D A [(h0, .inr (10, mo q (upd (upd (upd v 0 0) 6 k) 7 mb)))] := hD
              refine lv_iload_n hx hb d_Mod_limit_83 rfl (lv_at hl 0 rfl) ?_
              exact tw_iret E hS (0, k, mb) (Or.inr ⟨rfl, i3, Int32.not_lt.mp i4, Or.inl ⟨h35, rfl, rfl⟩⟩) hP hD d_Mod_limit_84
            · exact absurd (h35.symm.trans h69) (by decide)
      · exact absurd rfl h29
set_option maxHeartbeats 4000000 in
set_option maxRecDepth 100000 in
theorem c_Mod_place (l : Launch) (g : tw_G) (sz : Nat) (h0 : Nat) (q : Nat → Nat) (v : Nat → Int32) (fp : Int32) : Met l y_Mod_place [.code y_Mod_place b_Mod_place 1 (some .int)] ({ frames := 0, cells := 0, slots := 0, locals := 0 }) (tw_P g [.ref h0] [(h0, .inr (10, mo q (upd v 9 fp)))] sz) (tw_Qi g (fun r _ => r = fp) (fun u : Unit => [(h0, .inr (10, mo q (upd (upd v 0 0) 9 fp)))]) (va_A [(h0, .inr (10, mo q (upd v 9 fp)))] sz)) 0 0 (va_A [(h0, .inr (10, mo q (upd v 9 fp)))] sz) := by
  refine tw_metW (l := l) (g := g) (y := y_Mod_place) (cc := b_Mod_place) (maxL := 1) (ret := (some .int)) (rm := { frames := 0, cells := 0, slots := 0, locals := 0 }) (mc := 0) (ms := 0) (av := [.ref h0]) (ws := [(h0, .inr (10, mo q (upd v 9 fp)))]) (sz := sz) (Qc := fun A => (tw_Qi g (fun r _ => r = fp) (fun u : Unit => [(h0, .inr (10, mo q (upd (upd v 0 0) 9 fp)))]) A)) (by decide) (Nat.le_of_ble_eq_true rfl) ?_
  intro p e s m below meth c ls H A E hB hK hZ hP hD hS hA hl
  obtain ⟨hx, hb, hml, hr, hown, hts, hlocks, hin⟩ := id E
  have hl : lv_has ls 1 [(0, .ref h0)] := hl
  refine lv_aload_n hx hb d_Mod_place_0 rfl (lv_at hl 0 rfl) ?_
  refine lv_iconst (v := 0) hx hb d_Mod_place_1 (by decide) ?_
  refine va_put (D := g.1) (ci := 10) (v := .int 0) (ty := .int) (C := R_Mod) (T := F_Mod) (N := 61) hx hb hts in_Mod t_Mod t_Mod_ok n_Mod hown hK hP hD hS 0 rfl rfl 0 (by decide) (hts _ wd_1250) (fun _ h9 => h9) rfl (t_Mod_ok 0 (by decide)) rfl rfl (Nat.le_of_ble_eq_true rfl) d_Mod_place_2 (fun H locs hP hD hS => ?_)
  have hP : va_P g.1 classes [(h0, .inr (10, mo q (upd (upd v 0 0) 9 fp)))] H := hP
  have hD : va_D A [(h0, .inr (10, mo q (upd (upd v 0 0) 9 fp)))] := hD
  refine lv_aload_n hx hb d_Mod_place_5 rfl (lv_at hl 0 rfl) ?_
  refine va_get (D := g.1) (ci := 10) (v := .int fp) (C := R_Mod) (T := F_Mod) (N := 61) hx hb hts in_Mod hown hK hP 0 rfl rfl 9 (by decide) (hts _ wd_1259) (fun _ h9 => h9) rfl d_Mod_place_6 ?_
  exact tw_iret E hS () rfl hP hD d_Mod_place_9
set_option maxHeartbeats 4000000 in
set_option maxRecDepth 100000 in
theorem c_Mod_count0 (l : Launch) (g : tw_G) (sz : Nat) (h0 : Nat) (q : Nat → Nat) (v : Nat → Int32) (a0 : Int32) : Met l y_Mod_count [.code y_Mod_count b_Mod_count 2 (some .int)] ({ frames := 1, cells := 0, slots := 0, locals := 21 }) (tw_P g [.ref h0, .int a0] [(h0, .inr (10, mo q (upd v 52 0)))] sz) (tw_Qi g (fun _ _ => True) (fun u : Unit => [(h0, .inr (10, mo q (upd (upd v 0 1) 52 0)))]) (va_A [(h0, .inr (10, mo q (upd v 52 0)))] sz)) 0 0 (va_A [(h0, .inr (10, mo q (upd v 52 0)))] sz) := by
  refine tw_metW (l := l) (g := g) (y := y_Mod_count) (cc := b_Mod_count) (maxL := 2) (ret := (some .int)) (rm := { frames := 1, cells := 0, slots := 0, locals := 21 }) (mc := 0) (ms := 0) (av := [.ref h0, .int a0]) (ws := [(h0, .inr (10, mo q (upd v 52 0)))]) (sz := sz) (Qc := fun A => (tw_Qi g (fun _ _ => True) (fun u : Unit => [(h0, .inr (10, mo q (upd (upd v 0 1) 52 0)))]) A)) (by decide) (Nat.le_of_ble_eq_true rfl) ?_
  intro p e s m below meth c ls H A E hB hK hZ hP hD hS hA hl
  obtain ⟨hx, hb, hml, hr, hown, hts, hlocks, hin⟩ := id E
  have hl : lv_has ls 2 [(0, .ref h0), (1, .int a0)] := hl
  refine lv_aload_n hx hb d_Mod_count_0 rfl (lv_at hl 0 rfl) ?_
  refine lv_aload_n hx hb d_Mod_count_1 rfl (lv_at hl 0 rfl) ?_
  refine va_get (D := g.1) (ci := 10) (v := .int 0) (C := R_Mod) (T := F_Mod) (N := 61) hx hb hts in_Mod hown hK hP 0 rfl rfl 52 (by decide) (hts _ wd_1302) (fun _ h9 => h9) rfl d_Mod_count_2 ?_
  refine lv_if_ne (tgt := 12) hx hb d_Mod_count_5 (by decide) (fun h5 => ?_) (fun h5 => ?_)
  · exact absurd rfl h5
  · refine lv_iconst (v := 1) hx hb d_Mod_count_8 (by decide) ?_
    refine lv_goto (tgt := 27) hx hb d_Mod_count_9 (by decide) ?_
    refine tw_wi (wr := []) (tw_runV (ws := [(h0, .inr (10, mo q (upd v 52 0)))]) (wc := [(h0, .inr (10, mo q (upd v 52 0)))]) (As := [.int 1]) (rest := []) E hB hK hZ (c_Mod_refused l g H.size h0 q (upd v 52 0) 1) mc_Mod_refused mi_Mod_refused me_Mod_refused wd_1446 hP hD hS hA [0] rfl (by decide) 0 rfl rfl rfl rfl rfl (by decide) rfl hl.1 rfl (Nat.le_of_ble_eq_true rfl) (by decide) d_Mod_count_27) hP hD hS hA [0] [] rfl rfl (by decide) (by decide) (fun r1 u2 H locs hr1 hP hD hS => ?_)
    try dsimp only at hr1
    have hP : va_P g.1 classes [(h0, .inr (10, mo q (upd (upd v 0 1) 52 0)))] H := hP
    have hD : va_D A [(h0, .inr (10, mo q (upd (upd v 0 1) 52 0)))] := hD
    obtain rfl : r1 = 1 := hr1.trans (by decide)
    have hP : va_P g.1 classes [(h0, .inr (10, mo q (upd (upd v 0 1) 52 0)))] H := hP.sub [0] rfl
    have hD : va_D A [(h0, .inr (10, mo q (upd (upd v 0 1) 52 0)))] := hD.sub [0] (by decide) rfl
    refine lv_if_eq (tgt := 37) hx hb d_Mod_count_30 (by decide) (fun h30 => ?_) (fun h30 => ?_)
    · exact absurd h30 (by decide)
    · refine lv_iconst (v := 0) hx hb d_Mod_count_33 (by decide) ?_
      refine lv_goto (tgt := 43) hx hb d_Mod_count_34 (by decide) ?_
      exact tw_iret E hS () trivial hP hD d_Mod_count_43
set_option maxHeartbeats 4000000 in
set_option maxRecDepth 100000 in
theorem c_Mod_text0 (l : Launch) (g : tw_G) (sz : Nat) (h0 : Nat) (q : Nat → Nat) (v : Nat → Int32) (a0 : Int32) (a1 : Int32) (a2 : Int32) : Met l y_Mod_text [.code y_Mod_text b_Mod_text 6 (some .char)] ({ frames := 1, cells := 0, slots := 0, locals := 21 }) (tw_P g [.ref h0, .int a0, .int a1, .int a2] [(h0, .inr (10, mo q (upd v 52 0)))] sz) (tw_Qi g (fun _ _ => True) (fun u : Unit => [(h0, .inr (10, mo q (upd (upd v 0 1) 52 0)))]) (va_A [(h0, .inr (10, mo q (upd v 52 0)))] sz)) 0 0 (va_A [(h0, .inr (10, mo q (upd v 52 0)))] sz) := by
  refine tw_metW (l := l) (g := g) (y := y_Mod_text) (cc := b_Mod_text) (maxL := 6) (ret := (some .char)) (rm := { frames := 1, cells := 0, slots := 0, locals := 21 }) (mc := 0) (ms := 0) (av := [.ref h0, .int a0, .int a1, .int a2]) (ws := [(h0, .inr (10, mo q (upd v 52 0)))]) (sz := sz) (Qc := fun A => (tw_Qi g (fun _ _ => True) (fun u : Unit => [(h0, .inr (10, mo q (upd (upd v 0 1) 52 0)))]) A)) (by decide) (Nat.le_of_ble_eq_true rfl) ?_
  intro p e s m below meth c ls H A E hB hK hZ hP hD hS hA hl
  obtain ⟨hx, hb, hml, hr, hown, hts, hlocks, hin⟩ := id E
  have hl : lv_has ls 6 [(0, .ref h0), (1, .int a0), (2, .int a1), (3, .int a2)] := hl
  refine lv_aload_n hx hb d_Mod_text_0 rfl (lv_at hl 0 rfl) ?_
  refine lv_aload_n hx hb d_Mod_text_1 rfl (lv_at hl 0 rfl) ?_
  refine va_get (D := g.1) (ci := 10) (v := .int 0) (C := R_Mod) (T := F_Mod) (N := 61) hx hb hts in_Mod hown hK hP 0 rfl rfl 52 (by decide) (hts _ wd_1302) (fun _ h9 => h9) rfl d_Mod_text_2 ?_
  refine lv_if_ne (tgt := 12) hx hb d_Mod_text_5 (by decide) (fun h5 => ?_) (fun h5 => ?_)
  · exact absurd rfl h5
  · refine lv_iconst (v := 1) hx hb d_Mod_text_8 (by decide) ?_
    refine lv_goto (tgt := 27) hx hb d_Mod_text_9 (by decide) ?_
    refine tw_wi (wr := []) (tw_runV (ws := [(h0, .inr (10, mo q (upd v 52 0)))]) (wc := [(h0, .inr (10, mo q (upd v 52 0)))]) (As := [.int 1]) (rest := []) E hB hK hZ (c_Mod_refused l g H.size h0 q (upd v 52 0) 1) mc_Mod_refused mi_Mod_refused me_Mod_refused wd_1446 hP hD hS hA [0] rfl (by decide) 0 rfl rfl rfl rfl rfl (by decide) rfl hl.1 rfl (Nat.le_of_ble_eq_true rfl) (by decide) d_Mod_text_27) hP hD hS hA [0] [] rfl rfl (by decide) (by decide) (fun r1 u2 H locs hr1 hP hD hS => ?_)
    try dsimp only at hr1
    have hP : va_P g.1 classes [(h0, .inr (10, mo q (upd (upd v 0 1) 52 0)))] H := hP
    have hD : va_D A [(h0, .inr (10, mo q (upd (upd v 0 1) 52 0)))] := hD
    obtain rfl : r1 = 1 := hr1.trans (by decide)
    have hP : va_P g.1 classes [(h0, .inr (10, mo q (upd (upd v 0 1) 52 0)))] H := hP.sub [0] rfl
    have hD : va_D A [(h0, .inr (10, mo q (upd (upd v 0 1) 52 0)))] := hD.sub [0] (by decide) rfl
    refine lv_if_eq (tgt := 36) hx hb d_Mod_text_30 (by decide) (fun h30 => ?_) (fun h30 => ?_)
    · exact absurd h30 (by decide)
    · refine lv_bipush (v := 32) hx hb d_Mod_text_33 (by decide) ?_
      exact tw_zret E hS () (by decide) trivial hP hD d_Mod_text_35
set_option maxHeartbeats 4000000 in
set_option maxRecDepth 100000 in
theorem c_Mod_depth0 (l : Launch) (g : tw_G) (sz : Nat) (h0 : Nat) (q : Nat → Nat) (v : Nat → Int32) (a0 : Int32) (a1 : Int32) : Met l y_Mod_depth [.code y_Mod_depth b_Mod_depth 4 (some .int)] ({ frames := 1, cells := 0, slots := 0, locals := 21 }) (tw_P g [.ref h0, .int a0, .int a1] [(h0, .inr (10, mo q (upd v 52 0)))] sz) (tw_Qi g (fun _ _ => True) (fun u : Unit => [(h0, .inr (10, mo q (upd (upd v 0 1) 52 0)))]) (va_A [(h0, .inr (10, mo q (upd v 52 0)))] sz)) 0 0 (va_A [(h0, .inr (10, mo q (upd v 52 0)))] sz) := by
  refine tw_metW (l := l) (g := g) (y := y_Mod_depth) (cc := b_Mod_depth) (maxL := 4) (ret := (some .int)) (rm := { frames := 1, cells := 0, slots := 0, locals := 21 }) (mc := 0) (ms := 0) (av := [.ref h0, .int a0, .int a1]) (ws := [(h0, .inr (10, mo q (upd v 52 0)))]) (sz := sz) (Qc := fun A => (tw_Qi g (fun _ _ => True) (fun u : Unit => [(h0, .inr (10, mo q (upd (upd v 0 1) 52 0)))]) A)) (by decide) (Nat.le_of_ble_eq_true rfl) ?_
  intro p e s m below meth c ls H A E hB hK hZ hP hD hS hA hl
  obtain ⟨hx, hb, hml, hr, hown, hts, hlocks, hin⟩ := id E
  have hl : lv_has ls 4 [(0, .ref h0), (1, .int a0), (2, .int a1)] := hl
  refine lv_aload_n hx hb d_Mod_depth_0 rfl (lv_at hl 0 rfl) ?_
  refine lv_aload_n hx hb d_Mod_depth_1 rfl (lv_at hl 0 rfl) ?_
  refine va_get (D := g.1) (ci := 10) (v := .int 0) (C := R_Mod) (T := F_Mod) (N := 61) hx hb hts in_Mod hown hK hP 0 rfl rfl 52 (by decide) (hts _ wd_1302) (fun _ h9 => h9) rfl d_Mod_depth_2 ?_
  refine lv_if_eq (tgt := 12) hx hb d_Mod_depth_5 (by decide) (fun h5 => ?_) (fun h5 => ?_)
  · refine lv_iconst (v := 1) hx hb d_Mod_depth_12 (by decide) ?_
    refine tw_wi (wr := []) (tw_runV (ws := [(h0, .inr (10, mo q (upd v 52 0)))]) (wc := [(h0, .inr (10, mo q (upd v 52 0)))]) (As := [.int 1]) (rest := []) E hB hK hZ (c_Mod_refused l g H.size h0 q (upd v 52 0) 1) mc_Mod_refused mi_Mod_refused me_Mod_refused wd_1446 hP hD hS hA [0] rfl (by decide) 0 rfl rfl rfl rfl rfl (by decide) rfl hl.1 rfl (Nat.le_of_ble_eq_true rfl) (by decide) d_Mod_depth_13) hP hD hS hA [0] [] rfl rfl (by decide) (by decide) (fun r1 u2 H locs hr1 hP hD hS => ?_)
    try dsimp only at hr1
    have hP : va_P g.1 classes [(h0, .inr (10, mo q (upd (upd v 0 1) 52 0)))] H := hP
    have hD : va_D A [(h0, .inr (10, mo q (upd (upd v 0 1) 52 0)))] := hD
    obtain rfl : r1 = 1 := hr1.trans (by decide)
    have hP : va_P g.1 classes [(h0, .inr (10, mo q (upd (upd v 0 1) 52 0)))] H := hP.sub [0] rfl
    have hD : va_D A [(h0, .inr (10, mo q (upd (upd v 0 1) 52 0)))] := hD.sub [0] (by decide) rfl
    refine lv_if_eq (tgt := 21) hx hb d_Mod_depth_16 (by decide) (fun h16 => ?_) (fun h16 => ?_)
    · exact absurd h16 (by decide)
    · refine lv_iconst (v := 0) hx hb d_Mod_depth_19 (by decide) ?_
      exact tw_iret E hS () trivial hP hD d_Mod_depth_20
  · exact absurd rfl h5
set_option maxHeartbeats 4000000 in
set_option maxRecDepth 100000 in
theorem c_Mod_kind0 (l : Launch) (g : tw_G) (sz : Nat) (h0 : Nat) (q : Nat → Nat) (v : Nat → Int32) (a0 : Int32) (a1 : Int32) (a2 : Int32) (a3 : Int32) : Met l y_Mod_kind [.code y_Mod_kind b_Mod_kind 6 (some .int)] ({ frames := 1, cells := 0, slots := 0, locals := 21 }) (tw_P g [.ref h0, .int a0, .int a1, .int a2, .int a3] [(h0, .inr (10, mo q (upd v 52 0)))] sz) (tw_Qi g (fun _ _ => True) (fun u : Unit => [(h0, .inr (10, mo q (upd (upd v 0 1) 52 0)))]) (va_A [(h0, .inr (10, mo q (upd v 52 0)))] sz)) 0 0 (va_A [(h0, .inr (10, mo q (upd v 52 0)))] sz) := by
  refine tw_metW (l := l) (g := g) (y := y_Mod_kind) (cc := b_Mod_kind) (maxL := 6) (ret := (some .int)) (rm := { frames := 1, cells := 0, slots := 0, locals := 21 }) (mc := 0) (ms := 0) (av := [.ref h0, .int a0, .int a1, .int a2, .int a3]) (ws := [(h0, .inr (10, mo q (upd v 52 0)))]) (sz := sz) (Qc := fun A => (tw_Qi g (fun _ _ => True) (fun u : Unit => [(h0, .inr (10, mo q (upd (upd v 0 1) 52 0)))]) A)) (by decide) (Nat.le_of_ble_eq_true rfl) ?_
  intro p e s m below meth c ls H A E hB hK hZ hP hD hS hA hl
  obtain ⟨hx, hb, hml, hr, hown, hts, hlocks, hin⟩ := id E
  have hl : lv_has ls 6 [(0, .ref h0), (1, .int a0), (2, .int a1), (3, .int a2), (4, .int a3)] := hl
  refine lv_aload_n hx hb d_Mod_kind_0 rfl (lv_at hl 0 rfl) ?_
  refine lv_aload_n hx hb d_Mod_kind_1 rfl (lv_at hl 0 rfl) ?_
  refine va_get (D := g.1) (ci := 10) (v := .int 0) (C := R_Mod) (T := F_Mod) (N := 61) hx hb hts in_Mod hown hK hP 0 rfl rfl 52 (by decide) (hts _ wd_1302) (fun _ h9 => h9) rfl d_Mod_kind_2 ?_
  refine lv_if_eq (tgt := 12) hx hb d_Mod_kind_5 (by decide) (fun h5 => ?_) (fun h5 => ?_)
  · refine lv_iconst (v := 1) hx hb d_Mod_kind_12 (by decide) ?_
    refine tw_wi (wr := []) (tw_runV (ws := [(h0, .inr (10, mo q (upd v 52 0)))]) (wc := [(h0, .inr (10, mo q (upd v 52 0)))]) (As := [.int 1]) (rest := []) E hB hK hZ (c_Mod_refused l g H.size h0 q (upd v 52 0) 1) mc_Mod_refused mi_Mod_refused me_Mod_refused wd_1446 hP hD hS hA [0] rfl (by decide) 0 rfl rfl rfl rfl rfl (by decide) rfl hl.1 rfl (Nat.le_of_ble_eq_true rfl) (by decide) d_Mod_kind_13) hP hD hS hA [0] [] rfl rfl (by decide) (by decide) (fun r1 u2 H locs hr1 hP hD hS => ?_)
    try dsimp only at hr1
    have hP : va_P g.1 classes [(h0, .inr (10, mo q (upd (upd v 0 1) 52 0)))] H := hP
    have hD : va_D A [(h0, .inr (10, mo q (upd (upd v 0 1) 52 0)))] := hD
    obtain rfl : r1 = 1 := hr1.trans (by decide)
    have hP : va_P g.1 classes [(h0, .inr (10, mo q (upd (upd v 0 1) 52 0)))] H := hP.sub [0] rfl
    have hD : va_D A [(h0, .inr (10, mo q (upd (upd v 0 1) 52 0)))] := hD.sub [0] (by decide) rfl
    refine lv_if_eq (tgt := 21) hx hb d_Mod_kind_16 (by decide) (fun h16 => ?_) (fun h16 => ?_)
    · exact absurd h16 (by decide)
    · refine lv_iconst (v := 0) hx hb d_Mod_kind_19 (by decide) ?_
      exact tw_iret E hS () trivial hP hD d_Mod_kind_20
  · exact absurd rfl h5
set_option maxHeartbeats 4000000 in
set_option maxRecDepth 100000 in
theorem c_Mod_rule0 (l : Launch) (g : tw_G) (sz : Nat) (h0 : Nat) (q : Nat → Nat) (v : Nat → Int32) (al k : Int32) : Met l y_Mod_rule [.code y_Mod_rule b_Mod_rule 7 (some .int)] ({ frames := 1, cells := 0, slots := 0, locals := 22 }) (tw_P g [.ref h0, .int al, .int k] [(h0, .inr (10, mo q (upd v 1 0)))] sz) (tw_Qi g (fun _ _ => True) (fun u : Unit => [(h0, .inr (10, mo q (upd (upd v 0 1) 1 0)))]) (va_A [(h0, .inr (10, mo q (upd v 1 0)))] sz)) 0 0 (va_A [(h0, .inr (10, mo q (upd v 1 0)))] sz) := by
  refine tw_metW (l := l) (g := g) (y := y_Mod_rule) (cc := b_Mod_rule) (maxL := 7) (ret := (some .int)) (rm := { frames := 1, cells := 0, slots := 0, locals := 22 }) (mc := 0) (ms := 0) (av := [.ref h0, .int al, .int k]) (ws := [(h0, .inr (10, mo q (upd v 1 0)))]) (sz := sz) (Qc := fun A => (tw_Qi g (fun _ _ => True) (fun u : Unit => [(h0, .inr (10, mo q (upd (upd v 0 1) 1 0)))]) A)) (by decide) (Nat.le_of_ble_eq_true rfl) ?_
  intro p e s m below meth c ls H A E hB hK hZ hP hD hS hA hl
  obtain ⟨hx, hb, hml, hr, hown, hts, hlocks, hin⟩ := id E
  have hl : lv_has ls 7 [(0, .ref h0), (1, .int al), (2, .int k)] := hl
  refine lv_iload_n hx hb d_Mod_rule_0 rfl (lv_at hl 1 rfl) ?_
  refine lv_if_eq (tgt := 8) hx hb d_Mod_rule_1 (by decide) (fun h1 => ?_) (fun h1 => ?_)
  · refine lv_iconst (v := 0) hx hb d_Mod_rule_8 (by decide) ?_
    refine lv_istore_n hx hb d_Mod_rule_9 rfl hl (by decide) rfl (fun ls hl => ?_)
    have hl : lv_has ls 7 [(3, .int 0), (0, .ref h0), (1, .int al), (2, .int k)] := hl
    refine lv_iload_n hx hb d_Mod_rule_10 rfl (lv_at hl 3 rfl) ?_
    refine lv_iconst (v := 1) hx hb d_Mod_rule_11 (by decide) ?_
    refine lv_bipush (v := 40) hx hb d_Mod_rule_12 (by decide) ?_
    refine tw_si (tw_runS (ws := [(h0, .inr (10, mo q (upd v 1 0)))]) (wc := []) (As := [.int k, .int 1, .int 40]) (rest := []) E hB hK hZ (c_Mod_isIn l g H.size k 1 40) mc_Mod_isIn ms_Mod_isIn wd_1443 hP hD hS hA [] rfl (by decide) rfl rfl (by decide) rfl hl.1 rfl (Nat.le_of_ble_eq_true rfl) (by decide) d_Mod_rule_14) (fun r1 hr1 => ?_)
    obtain rfl : r1 = is_in k 1 40 := hr1
    refine lv_if_eq (tgt := 32) hx hb d_Mod_rule_17 (by decide) (fun h17 => ?_) (fun h17 => ?_)
    · refine lv_iconst (v := 0) hx hb d_Mod_rule_32 (by decide) ?_
      refine lv_istore hx hb d_Mod_rule_33 hl (by decide) rfl (fun ls hl => ?_)
      have hl : lv_has ls 7 [(4, .int 0), (3, .int 0), (0, .ref h0), (1, .int al), (2, .int k)] := hl
      refine lv_aload_n hx hb d_Mod_rule_35 rfl (lv_at hl 2 rfl) ?_
      refine va_get (D := g.1) (ci := 10) (v := .int 0) (C := R_Mod) (T := F_Mod) (N := 61) hx hb hts in_Mod hown hK hP 0 rfl rfl 1 (by decide) (hts _ wd_1251) (fun _ h9 => h9) rfl d_Mod_rule_36 ?_
      refine lv_iload_n hx hb d_Mod_rule_39 rfl (lv_at hl 4 rfl) ?_
      refine lv_isub hx hb d_Mod_rule_40 ?_
      refine lv_istore hx hb d_Mod_rule_41 hl (by decide) rfl (fun ls hl => ?_)
      have hl : lv_has ls 7 [(5, .int (0 - k)), (4, .int 0), (3, .int 0), (0, .ref h0), (1, .int al), (2, .int k)] := hl
      refine lv_iload hx hb d_Mod_rule_43 (lv_at hl 1 rfl) ?_
      refine lv_if_eq (tgt := 79) hx hb d_Mod_rule_45 (by decide) (fun h45 => ?_) (fun h45 => ?_)
      · refine lv_aload_n hx hb d_Mod_rule_79 rfl (lv_at hl 3 rfl) ?_
        refine lv_iload hx hb d_Mod_rule_80 (lv_at hl 1 rfl) ?_
        refine lv_if_ne (tgt := 89) hx hb d_Mod_rule_82 (by decide) (fun h82 => ?_) (fun h82 => ?_)
        · exact absurd rfl h82
        · refine lv_iconst (v := 1) hx hb d_Mod_rule_85 (by decide) ?_
          refine lv_goto (tgt := 105) hx hb d_Mod_rule_86 (by decide) ?_
          refine tw_wi (wr := []) (tw_runV (ws := [(h0, .inr (10, mo q (upd v 1 0)))]) (wc := [(h0, .inr (10, mo q (upd v 1 0)))]) (As := [.int 1]) (rest := []) E hB hK hZ (c_Mod_refused l g H.size h0 q (upd v 1 0) 1) mc_Mod_refused mi_Mod_refused me_Mod_refused wd_1446 hP hD hS hA [0] rfl (by decide) 0 rfl rfl rfl rfl rfl (by decide) rfl hl.1 rfl (Nat.le_of_ble_eq_true rfl) (by decide) d_Mod_rule_105) hP hD hS hA [0] [] rfl rfl (by decide) (by decide) (fun r2 u3 H locs hr2 hP hD hS => ?_)
          try dsimp only at hr2
          have hP : va_P g.1 classes [(h0, .inr (10, mo q (upd (upd v 0 1) 1 0)))] H := hP
          have hD : va_D A [(h0, .inr (10, mo q (upd (upd v 0 1) 1 0)))] := hD
          obtain rfl : r2 = 1 := hr2.trans (by decide)
          have hP : va_P g.1 classes [(h0, .inr (10, mo q (upd (upd v 0 1) 1 0)))] H := hP.sub [0] rfl
          have hD : va_D A [(h0, .inr (10, mo q (upd (upd v 0 1) 1 0)))] := hD.sub [0] (by decide) rfl
          refine lv_if_eq (tgt := 113) hx hb d_Mod_rule_108 (by decide) (fun h108 => ?_) (fun h108 => ?_)
          · exact absurd h108 (by decide)
          · refine lv_iconst (v := 0) hx hb d_Mod_rule_111 (by decide) ?_
            exact tw_iret E hS () trivial hP hD d_Mod_rule_112
      · exact absurd rfl h45
    · obtain ⟨i1, i2⟩ := is_inN h17
      refine lv_iload_n hx hb d_Mod_rule_20 rfl (lv_at hl 3 rfl) ?_
      refine lv_aload_n hx hb d_Mod_rule_21 rfl (lv_at hl 1 rfl) ?_
      refine va_get (D := g.1) (ci := 10) (v := .int 0) (C := R_Mod) (T := F_Mod) (N := 61) hx hb hts in_Mod hown hK hP 0 rfl rfl 1 (by decide) (hts _ wd_1251) (fun _ h9 => h9) rfl d_Mod_rule_22 ?_
      refine lv_icmp_gt (tgt := 32) hx hb d_Mod_rule_25 (by decide) (fun h25 => ?_) (fun h25 => ?_)
      · refine lv_iconst (v := 0) hx hb d_Mod_rule_32 (by decide) ?_
        refine lv_istore hx hb d_Mod_rule_33 hl (by decide) rfl (fun ls hl => ?_)
        have hl : lv_has ls 7 [(4, .int 0), (3, .int 0), (0, .ref h0), (1, .int al), (2, .int k)] := hl
        refine lv_aload_n hx hb d_Mod_rule_35 rfl (lv_at hl 2 rfl) ?_
        refine va_get (D := g.1) (ci := 10) (v := .int 0) (C := R_Mod) (T := F_Mod) (N := 61) hx hb hts in_Mod hown hK hP 0 rfl rfl 1 (by decide) (hts _ wd_1251) (fun _ h9 => h9) rfl d_Mod_rule_36 ?_
        refine lv_iload_n hx hb d_Mod_rule_39 rfl (lv_at hl 4 rfl) ?_
        refine lv_isub hx hb d_Mod_rule_40 ?_
        refine lv_istore hx hb d_Mod_rule_41 hl (by decide) rfl (fun ls hl => ?_)
        have hl : lv_has ls 7 [(5, .int (0 - k)), (4, .int 0), (3, .int 0), (0, .ref h0), (1, .int al), (2, .int k)] := hl
        refine lv_iload hx hb d_Mod_rule_43 (lv_at hl 1 rfl) ?_
        refine lv_if_eq (tgt := 79) hx hb d_Mod_rule_45 (by decide) (fun h45 => ?_) (fun h45 => ?_)
        · refine lv_aload_n hx hb d_Mod_rule_79 rfl (lv_at hl 3 rfl) ?_
          refine lv_iload hx hb d_Mod_rule_80 (lv_at hl 1 rfl) ?_
          refine lv_if_ne (tgt := 89) hx hb d_Mod_rule_82 (by decide) (fun h82 => ?_) (fun h82 => ?_)
          · exact absurd rfl h82
          · refine lv_iconst (v := 1) hx hb d_Mod_rule_85 (by decide) ?_
            refine lv_goto (tgt := 105) hx hb d_Mod_rule_86 (by decide) ?_
            refine tw_wi (wr := []) (tw_runV (ws := [(h0, .inr (10, mo q (upd v 1 0)))]) (wc := [(h0, .inr (10, mo q (upd v 1 0)))]) (As := [.int 1]) (rest := []) E hB hK hZ (c_Mod_refused l g H.size h0 q (upd v 1 0) 1) mc_Mod_refused mi_Mod_refused me_Mod_refused wd_1446 hP hD hS hA [0] rfl (by decide) 0 rfl rfl rfl rfl rfl (by decide) rfl hl.1 rfl (Nat.le_of_ble_eq_true rfl) (by decide) d_Mod_rule_105) hP hD hS hA [0] [] rfl rfl (by decide) (by decide) (fun r4 u5 H locs hr4 hP hD hS => ?_)
            try dsimp only at hr4
            have hP : va_P g.1 classes [(h0, .inr (10, mo q (upd (upd v 0 1) 1 0)))] H := hP
            have hD : va_D A [(h0, .inr (10, mo q (upd (upd v 0 1) 1 0)))] := hD
            obtain rfl : r4 = 1 := hr4.trans (by decide)
            have hP : va_P g.1 classes [(h0, .inr (10, mo q (upd (upd v 0 1) 1 0)))] H := hP.sub [0] rfl
            have hD : va_D A [(h0, .inr (10, mo q (upd (upd v 0 1) 1 0)))] := hD.sub [0] (by decide) rfl
            refine lv_if_eq (tgt := 113) hx hb d_Mod_rule_108 (by decide) (fun h108 => ?_) (fun h108 => ?_)
            · exact absurd h108 (by decide)
            · refine lv_iconst (v := 0) hx hb d_Mod_rule_111 (by decide) ?_
              exact tw_iret E hS () trivial hP hD d_Mod_rule_112
        · exact absurd rfl h45
      · exact (tn_01 i1 h25).elim
  · refine lv_iconst (v := 1) hx hb d_Mod_rule_4 (by decide) ?_
    refine lv_goto (tgt := 9) hx hb d_Mod_rule_5 (by decide) ?_
    refine lv_istore_n hx hb d_Mod_rule_9 rfl hl (by decide) rfl (fun ls hl => ?_)
    have hl : lv_has ls 7 [(3, .int 1), (0, .ref h0), (1, .int al), (2, .int k)] := hl
    refine lv_iload_n hx hb d_Mod_rule_10 rfl (lv_at hl 3 rfl) ?_
    refine lv_iconst (v := 1) hx hb d_Mod_rule_11 (by decide) ?_
    refine lv_bipush (v := 40) hx hb d_Mod_rule_12 (by decide) ?_
    refine tw_si (tw_runS (ws := [(h0, .inr (10, mo q (upd v 1 0)))]) (wc := []) (As := [.int k, .int 1, .int 40]) (rest := []) E hB hK hZ (c_Mod_isIn l g H.size k 1 40) mc_Mod_isIn ms_Mod_isIn wd_1443 hP hD hS hA [] rfl (by decide) rfl rfl (by decide) rfl hl.1 rfl (Nat.le_of_ble_eq_true rfl) (by decide) d_Mod_rule_14) (fun r6 hr6 => ?_)
    obtain rfl : r6 = is_in k 1 40 := hr6
    refine lv_if_eq (tgt := 32) hx hb d_Mod_rule_17 (by decide) (fun h17 => ?_) (fun h17 => ?_)
    · refine lv_iconst (v := 0) hx hb d_Mod_rule_32 (by decide) ?_
      refine lv_istore hx hb d_Mod_rule_33 hl (by decide) rfl (fun ls hl => ?_)
      have hl : lv_has ls 7 [(4, .int 0), (3, .int 1), (0, .ref h0), (1, .int al), (2, .int k)] := hl
      refine lv_aload_n hx hb d_Mod_rule_35 rfl (lv_at hl 2 rfl) ?_
      refine va_get (D := g.1) (ci := 10) (v := .int 0) (C := R_Mod) (T := F_Mod) (N := 61) hx hb hts in_Mod hown hK hP 0 rfl rfl 1 (by decide) (hts _ wd_1251) (fun _ h9 => h9) rfl d_Mod_rule_36 ?_
      refine lv_iload_n hx hb d_Mod_rule_39 rfl (lv_at hl 4 rfl) ?_
      refine lv_isub hx hb d_Mod_rule_40 ?_
      refine lv_istore hx hb d_Mod_rule_41 hl (by decide) rfl (fun ls hl => ?_)
      have hl : lv_has ls 7 [(5, .int (0 - k)), (4, .int 0), (3, .int 1), (0, .ref h0), (1, .int al), (2, .int k)] := hl
      refine lv_iload hx hb d_Mod_rule_43 (lv_at hl 1 rfl) ?_
      refine lv_if_eq (tgt := 79) hx hb d_Mod_rule_45 (by decide) (fun h45 => ?_) (fun h45 => ?_)
      · refine lv_aload_n hx hb d_Mod_rule_79 rfl (lv_at hl 3 rfl) ?_
        refine lv_iload hx hb d_Mod_rule_80 (lv_at hl 1 rfl) ?_
        refine lv_if_ne (tgt := 89) hx hb d_Mod_rule_82 (by decide) (fun h82 => ?_) (fun h82 => ?_)
        · exact absurd rfl h82
        · refine lv_iconst (v := 1) hx hb d_Mod_rule_85 (by decide) ?_
          refine lv_goto (tgt := 105) hx hb d_Mod_rule_86 (by decide) ?_
          refine tw_wi (wr := []) (tw_runV (ws := [(h0, .inr (10, mo q (upd v 1 0)))]) (wc := [(h0, .inr (10, mo q (upd v 1 0)))]) (As := [.int 1]) (rest := []) E hB hK hZ (c_Mod_refused l g H.size h0 q (upd v 1 0) 1) mc_Mod_refused mi_Mod_refused me_Mod_refused wd_1446 hP hD hS hA [0] rfl (by decide) 0 rfl rfl rfl rfl rfl (by decide) rfl hl.1 rfl (Nat.le_of_ble_eq_true rfl) (by decide) d_Mod_rule_105) hP hD hS hA [0] [] rfl rfl (by decide) (by decide) (fun r7 u8 H locs hr7 hP hD hS => ?_)
          try dsimp only at hr7
          have hP : va_P g.1 classes [(h0, .inr (10, mo q (upd (upd v 0 1) 1 0)))] H := hP
          have hD : va_D A [(h0, .inr (10, mo q (upd (upd v 0 1) 1 0)))] := hD
          obtain rfl : r7 = 1 := hr7.trans (by decide)
          have hP : va_P g.1 classes [(h0, .inr (10, mo q (upd (upd v 0 1) 1 0)))] H := hP.sub [0] rfl
          have hD : va_D A [(h0, .inr (10, mo q (upd (upd v 0 1) 1 0)))] := hD.sub [0] (by decide) rfl
          refine lv_if_eq (tgt := 113) hx hb d_Mod_rule_108 (by decide) (fun h108 => ?_) (fun h108 => ?_)
          · exact absurd h108 (by decide)
          · refine lv_iconst (v := 0) hx hb d_Mod_rule_111 (by decide) ?_
            exact tw_iret E hS () trivial hP hD d_Mod_rule_112
      · exact absurd rfl h45
    · obtain ⟨i1, i2⟩ := is_inN h17
      refine lv_iload_n hx hb d_Mod_rule_20 rfl (lv_at hl 3 rfl) ?_
      refine lv_aload_n hx hb d_Mod_rule_21 rfl (lv_at hl 1 rfl) ?_
      refine va_get (D := g.1) (ci := 10) (v := .int 0) (C := R_Mod) (T := F_Mod) (N := 61) hx hb hts in_Mod hown hK hP 0 rfl rfl 1 (by decide) (hts _ wd_1251) (fun _ h9 => h9) rfl d_Mod_rule_22 ?_
      refine lv_icmp_gt (tgt := 32) hx hb d_Mod_rule_25 (by decide) (fun h25 => ?_) (fun h25 => ?_)
      · refine lv_iconst (v := 0) hx hb d_Mod_rule_32 (by decide) ?_
        refine lv_istore hx hb d_Mod_rule_33 hl (by decide) rfl (fun ls hl => ?_)
        have hl : lv_has ls 7 [(4, .int 0), (3, .int 1), (0, .ref h0), (1, .int al), (2, .int k)] := hl
        refine lv_aload_n hx hb d_Mod_rule_35 rfl (lv_at hl 2 rfl) ?_
        refine va_get (D := g.1) (ci := 10) (v := .int 0) (C := R_Mod) (T := F_Mod) (N := 61) hx hb hts in_Mod hown hK hP 0 rfl rfl 1 (by decide) (hts _ wd_1251) (fun _ h9 => h9) rfl d_Mod_rule_36 ?_
        refine lv_iload_n hx hb d_Mod_rule_39 rfl (lv_at hl 4 rfl) ?_
        refine lv_isub hx hb d_Mod_rule_40 ?_
        refine lv_istore hx hb d_Mod_rule_41 hl (by decide) rfl (fun ls hl => ?_)
        have hl : lv_has ls 7 [(5, .int (0 - k)), (4, .int 0), (3, .int 1), (0, .ref h0), (1, .int al), (2, .int k)] := hl
        refine lv_iload hx hb d_Mod_rule_43 (lv_at hl 1 rfl) ?_
        refine lv_if_eq (tgt := 79) hx hb d_Mod_rule_45 (by decide) (fun h45 => ?_) (fun h45 => ?_)
        · refine lv_aload_n hx hb d_Mod_rule_79 rfl (lv_at hl 3 rfl) ?_
          refine lv_iload hx hb d_Mod_rule_80 (lv_at hl 1 rfl) ?_
          refine lv_if_ne (tgt := 89) hx hb d_Mod_rule_82 (by decide) (fun h82 => ?_) (fun h82 => ?_)
          · exact absurd rfl h82
          · refine lv_iconst (v := 1) hx hb d_Mod_rule_85 (by decide) ?_
            refine lv_goto (tgt := 105) hx hb d_Mod_rule_86 (by decide) ?_
            refine tw_wi (wr := []) (tw_runV (ws := [(h0, .inr (10, mo q (upd v 1 0)))]) (wc := [(h0, .inr (10, mo q (upd v 1 0)))]) (As := [.int 1]) (rest := []) E hB hK hZ (c_Mod_refused l g H.size h0 q (upd v 1 0) 1) mc_Mod_refused mi_Mod_refused me_Mod_refused wd_1446 hP hD hS hA [0] rfl (by decide) 0 rfl rfl rfl rfl rfl (by decide) rfl hl.1 rfl (Nat.le_of_ble_eq_true rfl) (by decide) d_Mod_rule_105) hP hD hS hA [0] [] rfl rfl (by decide) (by decide) (fun r9 u10 H locs hr9 hP hD hS => ?_)
            try dsimp only at hr9
            have hP : va_P g.1 classes [(h0, .inr (10, mo q (upd (upd v 0 1) 1 0)))] H := hP
            have hD : va_D A [(h0, .inr (10, mo q (upd (upd v 0 1) 1 0)))] := hD
            obtain rfl : r9 = 1 := hr9.trans (by decide)
            have hP : va_P g.1 classes [(h0, .inr (10, mo q (upd (upd v 0 1) 1 0)))] H := hP.sub [0] rfl
            have hD : va_D A [(h0, .inr (10, mo q (upd (upd v 0 1) 1 0)))] := hD.sub [0] (by decide) rfl
            refine lv_if_eq (tgt := 113) hx hb d_Mod_rule_108 (by decide) (fun h108 => ?_) (fun h108 => ?_)
            · exact absurd h108 (by decide)
            · refine lv_iconst (v := 0) hx hb d_Mod_rule_111 (by decide) ?_
              exact tw_iret E hS () trivial hP hD d_Mod_rule_112
        · exact absurd rfl h45
      · exact (tn_01 i1 h25).elim
set_option maxHeartbeats 4000000 in
set_option maxRecDepth 100000 in
theorem c_Mod_numberF (l : Launch) (g : tw_G) (sz : Nat) (h0 : Nat) (q : Nat → Nat) (v : Nat → Int32) (fa k : Int32) (hf : ¬ fa = 0) : Met l y_Mod_number [.code y_Mod_number b_Mod_number 5 (some .long)] ({ frames := 0, cells := 0, slots := 0, locals := 0 }) (tw_P g [.ref h0, .int k] [(h0, .inr (10, mo q (upd v 8 fa)))] sz) (vp_Sl (fun r => r = 0)) 0 0 (fun _ => False) := by
  refine tw_met (l := l) (g := g) (y := y_Mod_number) (cc := b_Mod_number) (maxL := 5) (ret := (some .long)) (rm := { frames := 0, cells := 0, slots := 0, locals := 0 }) (mc := 0) (ms := 0) (av := [.ref h0, .int k]) (ws := [(h0, .inr (10, mo q (upd v 8 fa)))]) (sz := sz) (Qc := fun _ => (vp_Sl (fun r => r = 0))) (free := fun _ _ => False) (by decide) (Nat.le_of_ble_eq_true rfl) ?_
  intro p e s m below meth c ls A E hB hK hZ hP hD hS hA hl
  obtain ⟨hx, hb, hml, hr, hown, hts, hlocks, hin⟩ := id E
  have hl : lv_has ls 5 [(0, .ref h0), (1, .int k)] := hl
  refine lv_aload_n hx hb d_Mod_number_0 rfl (lv_at hl 0 rfl) ?_
  refine va_get (D := g.1) (ci := 10) (v := .int fa) (C := R_Mod) (T := F_Mod) (N := 61) hx hb hts in_Mod hown hK hP 0 rfl rfl 8 (by decide) (hts _ wd_1258) (fun _ h9 => h9) rfl d_Mod_number_1 ?_
  refine lv_if_eq (tgt := 9) hx hb d_Mod_number_4 (by decide) (fun h4 => ?_) (fun h4 => ?_)
  · exact absurd h4 hf
  · refine lv_lconst (v := 0) hx hb d_Mod_number_7 (by decide) ?_
    exact tw_lsret E rfl d_Mod_number_8
set_option maxHeartbeats 4000000 in
set_option maxRecDepth 100000 in
theorem c_Mod_u2F (l : Launch) (g : tw_G) (sz : Nat) (h0 : Nat) (q : Nat → Nat) (v : Nat → Int32) (fa : Int32) (hf : ¬ fa = 0) : Met l y_Mod_u2 [.code y_Mod_u2 b_Mod_u2 1 (some .int)] ({ frames := 1, cells := 0, slots := 0, locals := 24 }) (tw_P g [.ref h0] [(h0, .inr (10, mo q (upd v 8 fa)))] sz) (vp_Si (fun r => r = 0)) 0 0 (fun _ => False) := by
  refine tw_met (l := l) (g := g) (y := y_Mod_u2) (cc := b_Mod_u2) (maxL := 1) (ret := (some .int)) (rm := { frames := 1, cells := 0, slots := 0, locals := 24 }) (mc := 0) (ms := 0) (av := [.ref h0]) (ws := [(h0, .inr (10, mo q (upd v 8 fa)))]) (sz := sz) (Qc := fun _ => (vp_Si (fun r => r = 0))) (free := fun _ _ => False) (by decide) (Nat.le_of_ble_eq_true rfl) ?_
  intro p e s m below meth c ls A E hB hK hZ hP hD hS hA hl
  obtain ⟨hx, hb, hml, hr, hown, hts, hlocks, hin⟩ := id E
  have hl : lv_has ls 1 [(0, .ref h0)] := hl
  refine lv_aload_n hx hb d_Mod_u2_0 rfl (lv_at hl 0 rfl) ?_
  refine lv_iconst (v := 2) hx hb d_Mod_u2_1 (by decide) ?_
  refine tw_sl (tw_runV (ws := [(h0, .inr (10, mo q (upd v 8 fa)))]) (wc := [(h0, .inr (10, mo q (upd v 8 fa)))]) (As := [.int 2]) (rest := []) E hB hK hZ (c_Mod_numberF l g s.heap.size h0 q (upd v 8 fa) fa 2 hf) mc_Mod_number mi_Mod_number me_Mod_number wd_1474 hP hD hS hA [0] rfl (by decide) 0 rfl rfl rfl rfl rfl (by decide) rfl hl.1 rfl (Nat.le_of_ble_eq_true rfl) (by decide) d_Mod_u2_2) (fun r1 hr1 => ?_)
  obtain rfl : r1 = 0 := hr1
  refine lv_l2i (v := 0) hx hb d_Mod_u2_5 (by decide) ?_
  exact tw_isret E rfl d_Mod_u2_6
set_option maxHeartbeats 4000000 in
set_option maxRecDepth 100000 in
theorem c_Mod_fail (l : Launch) (g : tw_G) (sz : Nat) (h0 : Nat) (q : Nat → Nat) (v : Nat → Int32) (a b : Int32) : Met l y_Mod_fail [.code y_Mod_fail b_Mod_fail 3 none] ({ frames := 0, cells := 0, slots := 0, locals := 0 }) (tw_P g [.ref h0, .int a, .int b] [(h0, .inr (10, mo q (upd v 8 0)))] sz) (tw_Qv g (fun _ => True) (fun u : Unit => [(h0, .inr (10, mo q (upd (upd v 8 a) 9 b)))]) (va_A [(h0, .inr (10, mo q (upd v 8 0)))] sz)) 0 0 (va_A [(h0, .inr (10, mo q (upd v 8 0)))] sz) := by
  refine tw_metW (l := l) (g := g) (y := y_Mod_fail) (cc := b_Mod_fail) (maxL := 3) (ret := none) (rm := { frames := 0, cells := 0, slots := 0, locals := 0 }) (mc := 0) (ms := 0) (av := [.ref h0, .int a, .int b]) (ws := [(h0, .inr (10, mo q (upd v 8 0)))]) (sz := sz) (Qc := fun A => (tw_Qv g (fun _ => True) (fun u : Unit => [(h0, .inr (10, mo q (upd (upd v 8 a) 9 b)))]) A)) (by decide) (Nat.le_of_ble_eq_true rfl) ?_
  intro p e s m below meth c ls H A E hB hK hZ hP hD hS hA hl
  obtain ⟨hx, hb, hml, hr, hown, hts, hlocks, hin⟩ := id E
  have hl : lv_has ls 3 [(0, .ref h0), (1, .int a), (2, .int b)] := hl
  refine lv_aload_n hx hb d_Mod_fail_0 rfl (lv_at hl 0 rfl) ?_
  refine va_get (D := g.1) (ci := 10) (v := .int 0) (C := R_Mod) (T := F_Mod) (N := 61) hx hb hts in_Mod hown hK hP 0 rfl rfl 8 (by decide) (hts _ wd_1258) (fun _ h9 => h9) rfl d_Mod_fail_1 ?_
  refine lv_if_ne (tgt := 17) hx hb d_Mod_fail_4 (by decide) (fun h4 => ?_) (fun h4 => ?_)
  · exact absurd rfl h4
  · refine lv_aload_n hx hb d_Mod_fail_7 rfl (lv_at hl 0 rfl) ?_
    refine lv_iload_n hx hb d_Mod_fail_8 rfl (lv_at hl 1 rfl) ?_
    refine va_put (D := g.1) (ci := 10) (v := .int a) (ty := .int) (C := R_Mod) (T := F_Mod) (N := 61) hx hb hts in_Mod t_Mod t_Mod_ok n_Mod hown hK hP hD hS 0 rfl rfl 8 (by decide) (hts _ wd_1258) (fun _ h9 => h9) rfl (t_Mod_ok 8 (by decide)) rfl rfl (Nat.le_of_ble_eq_true rfl) d_Mod_fail_9 (fun H locs hP hD hS => ?_)
    have hP : va_P g.1 classes [(h0, .inr (10, mo q (upd v 8 a)))] H := hP
    have hD : va_D A [(h0, .inr (10, mo q (upd v 8 a)))] := hD
    refine lv_aload_n hx hb d_Mod_fail_12 rfl (lv_at hl 0 rfl) ?_
    refine lv_iload_n hx hb d_Mod_fail_13 rfl (lv_at hl 2 rfl) ?_
    refine va_put (D := g.1) (ci := 10) (v := .int b) (ty := .int) (C := R_Mod) (T := F_Mod) (N := 61) hx hb hts in_Mod t_Mod t_Mod_ok n_Mod hown hK hP hD hS 0 rfl rfl 9 (by decide) (hts _ wd_1259) (fun _ h9 => h9) rfl (t_Mod_ok 9 (by decide)) rfl rfl (Nat.le_of_ble_eq_true rfl) d_Mod_fail_14 (fun H locs hP hD hS => ?_)
    have hP : va_P g.1 classes [(h0, .inr (10, mo q (upd (upd v 8 a) 9 b)))] H := hP
    have hD : va_D A [(h0, .inr (10, mo q (upd (upd v 8 a) 9 b)))] := hD
    exact tw_vret E hS () trivial hP hD d_Mod_fail_17
set_option maxHeartbeats 4000000 in
set_option maxRecDepth 100000 in
theorem c_Mod_number0 (l : Launch) (g : tw_G) (sz : Nat) (h0 : Nat) (q : Nat → Nat) (v : Nat → Int32) : Met l y_Mod_number [.code y_Mod_number b_Mod_number 5 (some .long)] ({ frames := 1, cells := 0, slots := 0, locals := 22 }) (tw_P g [.ref h0, .int 4] [(h0, .inr (10, mo q (upd (upd (upd (upd v 8 0) 10 0) 11 0) 12 0)))] sz) (tw_Ql g (fun r _ => r = 0) (fun u : Unit => [(h0, .inr (10, mo q (upd (upd (upd (upd (upd v 8 1) 9 0) 10 0) 11 0) 12 0)))]) (va_A [(h0, .inr (10, mo q (upd (upd (upd (upd v 8 0) 10 0) 11 0) 12 0)))] sz)) 0 0 (va_A [(h0, .inr (10, mo q (upd (upd (upd (upd v 8 0) 10 0) 11 0) 12 0)))] sz) := by
  refine tw_metW (l := l) (g := g) (y := y_Mod_number) (cc := b_Mod_number) (maxL := 5) (ret := (some .long)) (rm := { frames := 1, cells := 0, slots := 0, locals := 22 }) (mc := 0) (ms := 0) (av := [.ref h0, .int 4]) (ws := [(h0, .inr (10, mo q (upd (upd (upd (upd v 8 0) 10 0) 11 0) 12 0)))]) (sz := sz) (Qc := fun A => (tw_Ql g (fun r _ => r = 0) (fun u : Unit => [(h0, .inr (10, mo q (upd (upd (upd (upd (upd v 8 1) 9 0) 10 0) 11 0) 12 0)))]) A)) (by decide) (Nat.le_of_ble_eq_true rfl) ?_
  intro p e s m below meth c ls H A E hB hK hZ hP hD hS hA hl
  obtain ⟨hx, hb, hml, hr, hown, hts, hlocks, hin⟩ := id E
  have hl : lv_has ls 5 [(0, .ref h0), (1, .int 4)] := hl
  refine lv_aload_n hx hb d_Mod_number_0 rfl (lv_at hl 0 rfl) ?_
  refine va_get (D := g.1) (ci := 10) (v := .int 0) (C := R_Mod) (T := F_Mod) (N := 61) hx hb hts in_Mod hown hK hP 0 rfl rfl 8 (by decide) (hts _ wd_1258) (fun _ h9 => h9) rfl d_Mod_number_1 ?_
  refine lv_if_eq (tgt := 9) hx hb d_Mod_number_4 (by decide) (fun h4 => ?_) (fun h4 => ?_)
  · refine lv_aload_n hx hb d_Mod_number_9 rfl (lv_at hl 0 rfl) ?_
    refine va_get (D := g.1) (ci := 10) (v := .int 0) (C := R_Mod) (T := F_Mod) (N := 61) hx hb hts in_Mod hown hK hP 0 rfl rfl 10 (by decide) (hts _ wd_1260) (fun _ h9 => h9) rfl d_Mod_number_10 ?_
    refine lv_iload_n hx hb d_Mod_number_13 rfl (lv_at hl 1 rfl) ?_
    refine lv_iadd hx hb d_Mod_number_14 ?_
    refine lv_aload_n hx hb d_Mod_number_15 rfl (lv_at hl 0 rfl) ?_
    refine va_get (D := g.1) (ci := 10) (v := .int 0) (C := R_Mod) (T := F_Mod) (N := 61) hx hb hts in_Mod hown hK hP 0 rfl rfl 11 (by decide) (hts _ wd_1261) (fun _ h9 => h9) rfl d_Mod_number_16 ?_
    refine lv_icmp_le (tgt := 59) hx hb d_Mod_number_19 (by decide) (fun h19 => ?_) (fun h19 => ?_)
    · exact absurd h19 (by decide)
    · refine lv_aload_n hx hb d_Mod_number_22 rfl (lv_at hl 0 rfl) ?_
      refine lv_aload_n hx hb d_Mod_number_23 rfl (lv_at hl 0 rfl) ?_
      refine va_get (D := g.1) (ci := 10) (v := .int 0) (C := R_Mod) (T := F_Mod) (N := 61) hx hb hts in_Mod hown hK hP 0 rfl rfl 12 (by decide) (hts _ wd_1262) (fun _ h9 => h9) rfl d_Mod_number_24 ?_
      refine lv_if_le (tgt := 35) hx hb d_Mod_number_27 (by decide) (fun h27 => ?_) (fun h27 => ?_)
      · refine lv_iconst (v := 1) hx hb d_Mod_number_35 (by decide) ?_
        refine lv_aload_n hx hb d_Mod_number_36 rfl (lv_at hl 0 rfl) ?_
        refine va_get (D := g.1) (ci := 10) (v := .int 0) (C := R_Mod) (T := F_Mod) (N := 61) hx hb hts in_Mod hown hK hP 0 rfl rfl 12 (by decide) (hts _ wd_1262) (fun _ h9 => h9) rfl d_Mod_number_37 ?_
        refine lv_if_le (tgt := 50) hx hb d_Mod_number_40 (by decide) (fun h40 => ?_) (fun h40 => ?_)
        · refine lv_aload_n hx hb d_Mod_number_50 rfl (lv_at hl 0 rfl) ?_
          refine va_get (D := g.1) (ci := 10) (v := .int 0) (C := R_Mod) (T := F_Mod) (N := 61) hx hb hts in_Mod hown hK hP 0 rfl rfl 10 (by decide) (hts _ wd_1260) (fun _ h9 => h9) rfl d_Mod_number_51 ?_
          refine tw_wv (wr := []) (tw_runV (ws := [(h0, .inr (10, mo q (upd (upd (upd (upd v 8 0) 10 0) 11 0) 12 0)))]) (wc := [(h0, .inr (10, mo q (upd (upd (upd (upd v 8 0) 10 0) 11 0) 12 0)))]) (As := [.int 1, .int 0]) (rest := []) E hB hK hZ (c_Mod_fail l g H.size h0 q (upd (upd (upd (upd v 8 0) 10 0) 11 0) 12 0) 1 0) mc_Mod_fail mi_Mod_fail me_Mod_fail wd_1478 hP hD hS hA [0] rfl (by decide) 0 rfl rfl rfl rfl rfl (by decide) rfl hl.1 rfl (Nat.le_of_ble_eq_true rfl) (by decide) d_Mod_number_54) hP hD hS hA [0] [] rfl rfl (by decide) (by decide) (fun u2 H locs hr1 hP hD hS => ?_)
          try dsimp only at hr1
          have hP : va_P g.1 classes [(h0, .inr (10, mo q (upd (upd (upd (upd (upd v 8 1) 9 0) 10 0) 11 0) 12 0)))] H := hP
          have hD : va_D A [(h0, .inr (10, mo q (upd (upd (upd (upd (upd v 8 1) 9 0) 10 0) 11 0) 12 0)))] := hD
          have hP : va_P g.1 classes [(h0, .inr (10, mo q (upd (upd (upd (upd (upd v 8 1) 9 0) 10 0) 11 0) 12 0)))] H := hP.sub [0] rfl
          have hD : va_D A [(h0, .inr (10, mo q (upd (upd (upd (upd (upd v 8 1) 9 0) 10 0) 11 0) 12 0)))] := hD.sub [0] (by decide) rfl
          refine lv_lconst (v := 0) hx hb d_Mod_number_57 (by decide) ?_
          exact tw_lret E hS () rfl hP hD d_Mod_number_58
        · exact absurd h40 (by decide)
      · exact absurd h27 (by decide)
  · exact absurd rfl h4
set_option maxHeartbeats 4000000 in
set_option maxRecDepth 100000 in
theorem c_Mod_readConstantsF (l : Launch) (g : tw_G) (sz : Nat) (h0 : Nat) (q : Nat → Nat) (v : Nat → Int32) (fa : Int32) (ft : Nat → Int32) (hf : ¬ fa = 0) : Met l y_Mod_readConstants [.code y_Mod_readConstants b_Mod_readConstants 4 none] ({ frames := 2, cells := 0, slots := 0, locals := 44 }) (tw_P g [.ref h0] [(h0, .inr (10, mo q (upd v 8 fa))), ((q 14), aI g 620 ft)] sz) (tw_Qv g (fun _ => True) (fun u : Unit => [(h0, .inr (10, mo q (upd (upd v 8 fa) 13 0))), ((q 14), aI g 620 (fun _ => 0))]) (va_A [(h0, .inr (10, mo q (upd v 8 fa))), ((q 14), aI g 620 ft)] sz)) 0 0 (va_A [(h0, .inr (10, mo q (upd v 8 fa))), ((q 14), aI g 620 ft)] sz) := by
  refine tw_metW (l := l) (g := g) (y := y_Mod_readConstants) (cc := b_Mod_readConstants) (maxL := 4) (ret := none) (rm := { frames := 2, cells := 0, slots := 0, locals := 44 }) (mc := 0) (ms := 0) (av := [.ref h0]) (ws := [(h0, .inr (10, mo q (upd v 8 fa))), ((q 14), aI g 620 ft)]) (sz := sz) (Qc := fun A => (tw_Qv g (fun _ => True) (fun u : Unit => [(h0, .inr (10, mo q (upd (upd v 8 fa) 13 0))), ((q 14), aI g 620 (fun _ => 0))]) A)) (by decide) (Nat.le_of_ble_eq_true rfl) ?_
  intro p e s m below meth c ls H A E hB hK hZ hP hD hS hA hl
  obtain ⟨hx, hb, hml, hr, hown, hts, hlocks, hin⟩ := id E
  have hl : lv_has ls 4 [(0, .ref h0)] := hl
  refine lv_aload_n hx hb d_Mod_readConstants_0 rfl (lv_at hl 0 rfl) ?_
  refine lv_aload_n hx hb d_Mod_readConstants_1 rfl (lv_at hl 0 rfl) ?_
  refine tw_si (tw_runV (ws := [(h0, .inr (10, mo q (upd v 8 fa))), ((q 14), aI g 620 ft)]) (wc := [(h0, .inr (10, mo q (upd v 8 fa)))]) (As := []) (rest := [.ref h0]) E hB hK hZ (c_Mod_u2F l g H.size h0 q (upd v 8 fa) fa hf) mc_Mod_u2 mi_Mod_u2 me_Mod_u2 wd_1484 hP hD hS hA [0] rfl (by decide) 0 rfl rfl rfl rfl rfl (by decide) rfl hl.1 rfl (Nat.le_of_ble_eq_true rfl) (by decide) d_Mod_readConstants_2) (fun r1 hr1 => ?_)
  obtain rfl : r1 = 0 := hr1
  refine va_put (D := g.1) (ci := 10) (v := .int 0) (ty := .int) (C := R_Mod) (T := F_Mod) (N := 61) hx hb hts in_Mod t_Mod t_Mod_ok n_Mod hown hK hP hD hS 0 rfl rfl 13 (by decide) (hts _ wd_1263) (fun _ h9 => h9) rfl (t_Mod_ok 13 (by decide)) rfl rfl (Nat.le_of_ble_eq_true rfl) d_Mod_readConstants_5 (fun H locs hP hD hS => ?_)
  have hP : va_P g.1 classes [(h0, .inr (10, mo q (upd (upd v 8 fa) 13 0))), ((q 14), aI g 620 ft)] H := hP
  have hD : va_D A [(h0, .inr (10, mo q (upd (upd v 8 fa) 13 0))), ((q 14), aI g 620 ft)] := hD
  refine lv_iconst (v := 0) hx hb d_Mod_readConstants_8 (by decide) ?_
  refine lv_istore_n hx hb d_Mod_readConstants_9 rfl hl (by decide) rfl (fun ls hl => ?_)
  have hl : lv_has ls 4 [(1, .int 0), (0, .ref h0)] := hl
  have loop10 : ∀ (k : Nat) (i : Nat) (ls : Array Slot) (H : Heap) (locs : List Loc) , 620 - i = k → (hi : i ≤ 620) → lv_has ls 4 [(1, .int (nI i)), (0, .ref h0)] → va_P g.1 classes [(h0, .inr (10, mo q (upd (upd v 8 fa) 13 0))), ((q 14), aI g 620 (fl_f ft 0 i))] H → va_D A [(h0, .inr (10, mo q (upd (upd v 8 fa) 13 0))), ((q 14), aI g 620 (fl_f ft 0 i))] → va_S A s.heap H locs → W p l e ({ frames := 2, cells := 0, slots := 0, locals := 44 }) s m [.ref h0].toArray below meth c H locs 0 0 (MQ below (tw_Qv g (fun _ => True) (fun u : Unit => [(h0, .inr (10, mo q (upd (upd v 8 fa) 13 0))), ((q 14), aI g 620 (fun _ => 0))]) A) [.ref h0].toArray s 0 0 A) (F0 m 10 ls []) := by
    intro k
    induction k using Nat.strongRecOn with
    | _ k ih =>
      intro i ls H locs hk hi hl hP hD hS
      refine lv_iload_n hx hb d_Mod_readConstants_10 rfl (lv_at hl 0 rfl) ?_
      refine lv_sipush (v := 620) hx hb d_Mod_readConstants_11 (by decide) ?_
      refine lv_icmp_ge (tgt := 30) hx hb d_Mod_readConstants_14 (by decide) (fun h14 => ?_) (fun h14 => ?_)
      · have h14 := tn_le (a := 620) h14 (by decide) (by omega)
        obtain rfl : i = 620 := by omega
        refine lv_iconst (v := 1) hx hb d_Mod_readConstants_30 (by decide) ?_
        refine lv_istore_n hx hb d_Mod_readConstants_31 rfl hl (by decide) rfl (fun ls hl => ?_)
        have hl : lv_has ls 4 [(1, .int 1), (0, .ref h0)] := hl
        refine lv_iload_n hx hb d_Mod_readConstants_32 rfl (lv_at hl 0 rfl) ?_
        refine lv_aload_n hx hb d_Mod_readConstants_33 rfl (lv_at hl 1 rfl) ?_
        refine va_get (D := g.1) (ci := 10) (v := .int 0) (C := R_Mod) (T := F_Mod) (N := 61) hx hb hts in_Mod hown hK hP 0 rfl rfl 13 (by decide) (hts _ wd_1263) (fun _ h9 => h9) rfl d_Mod_readConstants_34 ?_
        refine lv_icmp_ge (tgt := 91) hx hb d_Mod_readConstants_37 (by decide) (fun h37 => ?_) (fun h37 => ?_)
        · exact tw_vret E hS () trivial (tw_Pext hP 1 rfl fl_fN) (hD.set (p := 1) rfl) d_Mod_readConstants_91
        · exact absurd h37 (by decide)
      · have h14 := tn_nle (a := 620) h14 (by decide) (by omega)
        refine lv_aload_n hx hb d_Mod_readConstants_17 rfl (lv_at hl 1 rfl) ?_
        refine va_get (D := g.1) (ci := 10) (v := .ref (q 14)) (C := R_Mod) (T := F_Mod) (N := 61) hx hb hts in_Mod hown hK hP 0 rfl rfl 14 (by decide) (hts _ wd_1264) (fun _ h9 => h9) rfl d_Mod_readConstants_18 ?_
        refine lv_iload_n hx hb d_Mod_readConstants_21 rfl (lv_at hl 0 rfl) ?_
        refine lv_iconst (v := 0) hx hb d_Mod_readConstants_22 (by decide) ?_
        refine va_iast hx hb hK hP hD hS 1 0 rfl rfl (vp_in_nI h14 (by decide)) d_Mod_readConstants_23 (fun H locs hP hD hS => ?_)
        have hP : va_P g.1 classes [(h0, .inr (10, mo q (upd (upd v 8 fa) 13 0))), ((q 14), aI g 620 (upd (fl_f ft 0 i) (nI i).toNatClampNeg 0))] H := hP
        have hD : va_D A [(h0, .inr (10, mo q (upd (upd v 8 fa) 13 0))), ((q 14), aI g 620 (upd (fl_f ft 0 i) (nI i).toNatClampNeg 0))] := hD
        have e9 : upd (fl_f ft 0 i) (nI i).toNatClampNeg 0 = fl_f ft 0 (i + 1) := by rw [nI_clamp (by omega), fl_fs]
        rw [e9] at hP hD
        refine lv_iinc (k := 0) (v := nI (i + 1)) hx hb d_Mod_readConstants_24 hl rfl ((nI_succ i).symm) (by decide) rfl (fun ls hl => ?_)
        have hl : lv_has ls 4 [(1, .int (nI (i + 1))), (0, .ref h0)] := hl
        refine lv_goto (tgt := 10) hx hb d_Mod_readConstants_27 (by decide) ?_
        exact ih _ (by omega) (i + 1) ls _ _ rfl (by omega) (lv_sub hl [0, 1] rfl) hP hD hS
  rw [fl_f0 ft 0] at hP hD
  exact loop10 _ 0 ls _ _ rfl (Nat.zero_le _) (hl) hP hD hS
set_option maxHeartbeats 4000000 in
set_option maxRecDepth 100000 in
theorem c_Mod_readMembersF (l : Launch) (g : tw_G) (sz : Nat) (h0 : Nat) (q : Nat → Nat) (v : Nat → Int32) (fa a : Int32) (hf : ¬ fa = 0) : Met l y_Mod_readMembers [.code y_Mod_readMembers b_Mod_readMembers 7 none] ({ frames := 2, cells := 0, slots := 0, locals := 44 }) (tw_P g [.ref h0, .int a] [(h0, .inr (10, mo q (upd v 8 fa)))] sz) (tw_Qv g (fun _ => True) (fun u : Unit => [(h0, .inr (10, mo q (upd v 8 fa)))]) (va_A [(h0, .inr (10, mo q (upd v 8 fa)))] sz)) 0 0 (va_A [(h0, .inr (10, mo q (upd v 8 fa)))] sz) := by
  refine tw_metW (l := l) (g := g) (y := y_Mod_readMembers) (cc := b_Mod_readMembers) (maxL := 7) (ret := none) (rm := { frames := 2, cells := 0, slots := 0, locals := 44 }) (mc := 0) (ms := 0) (av := [.ref h0, .int a]) (ws := [(h0, .inr (10, mo q (upd v 8 fa)))]) (sz := sz) (Qc := fun A => (tw_Qv g (fun _ => True) (fun u : Unit => [(h0, .inr (10, mo q (upd v 8 fa)))]) A)) (by decide) (Nat.le_of_ble_eq_true rfl) ?_
  intro p e s m below meth c ls H A E hB hK hZ hP hD hS hA hl
  obtain ⟨hx, hb, hml, hr, hown, hts, hlocks, hin⟩ := id E
  have hl : lv_has ls 7 [(0, .ref h0), (1, .int a)] := hl
  refine lv_aload_n hx hb d_Mod_readMembers_0 rfl (lv_at hl 0 rfl) ?_
  refine tw_si (tw_runV (ws := [(h0, .inr (10, mo q (upd v 8 fa)))]) (wc := [(h0, .inr (10, mo q (upd v 8 fa)))]) (As := []) (rest := []) E hB hK hZ (c_Mod_u2F l g H.size h0 q (upd v 8 fa) fa hf) mc_Mod_u2 mi_Mod_u2 me_Mod_u2 wd_1484 hP hD hS hA [0] rfl (by decide) 0 rfl rfl rfl rfl rfl (by decide) rfl hl.1 rfl (Nat.le_of_ble_eq_true rfl) (by decide) d_Mod_readMembers_1) (fun r1 hr1 => ?_)
  obtain rfl : r1 = 0 := hr1
  refine lv_istore_n hx hb d_Mod_readMembers_4 rfl hl (by decide) rfl (fun ls hl => ?_)
  have hl : lv_has ls 7 [(2, .int 0), (0, .ref h0), (1, .int a)] := hl
  refine lv_iconst (v := 0) hx hb d_Mod_readMembers_5 (by decide) ?_
  refine lv_istore_n hx hb d_Mod_readMembers_6 rfl hl (by decide) rfl (fun ls hl => ?_)
  have hl : lv_has ls 7 [(3, .int 0), (2, .int 0), (0, .ref h0), (1, .int a)] := hl
  refine lv_iload_n hx hb d_Mod_readMembers_7 rfl (lv_at hl 0 rfl) ?_
  refine lv_iload_n hx hb d_Mod_readMembers_8 rfl (lv_at hl 1 rfl) ?_
  refine lv_icmp_ge (tgt := 153) hx hb d_Mod_readMembers_9 (by decide) (fun h9 => ?_) (fun h9 => ?_)
  · exact tw_vret E hS () trivial hP hD d_Mod_readMembers_153
  · exact absurd h9 (by decide)
set_option maxHeartbeats 4000000 in
set_option maxRecDepth 100000 in
theorem c_Mod_readAttributesF (l : Launch) (g : tw_G) (sz : Nat) (h0 : Nat) (q : Nat → Nat) (v : Nat → Int32) (fa : Int32) (hf : ¬ fa = 0) : Met l y_Mod_readAttributes [.code y_Mod_readAttributes b_Mod_readAttributes 3 none] ({ frames := 2, cells := 0, slots := 0, locals := 44 }) (tw_P g [.ref h0] [(h0, .inr (10, mo q (upd v 8 fa)))] sz) (tw_Qv g (fun _ => True) (fun u : Unit => [(h0, .inr (10, mo q (upd v 8 fa)))]) (va_A [(h0, .inr (10, mo q (upd v 8 fa)))] sz)) 0 0 (va_A [(h0, .inr (10, mo q (upd v 8 fa)))] sz) := by
  refine tw_metW (l := l) (g := g) (y := y_Mod_readAttributes) (cc := b_Mod_readAttributes) (maxL := 3) (ret := none) (rm := { frames := 2, cells := 0, slots := 0, locals := 44 }) (mc := 0) (ms := 0) (av := [.ref h0]) (ws := [(h0, .inr (10, mo q (upd v 8 fa)))]) (sz := sz) (Qc := fun A => (tw_Qv g (fun _ => True) (fun u : Unit => [(h0, .inr (10, mo q (upd v 8 fa)))]) A)) (by decide) (Nat.le_of_ble_eq_true rfl) ?_
  intro p e s m below meth c ls H A E hB hK hZ hP hD hS hA hl
  obtain ⟨hx, hb, hml, hr, hown, hts, hlocks, hin⟩ := id E
  have hl : lv_has ls 3 [(0, .ref h0)] := hl
  refine lv_aload_n hx hb d_Mod_readAttributes_0 rfl (lv_at hl 0 rfl) ?_
  refine tw_si (tw_runV (ws := [(h0, .inr (10, mo q (upd v 8 fa)))]) (wc := [(h0, .inr (10, mo q (upd v 8 fa)))]) (As := []) (rest := []) E hB hK hZ (c_Mod_u2F l g H.size h0 q (upd v 8 fa) fa hf) mc_Mod_u2 mi_Mod_u2 me_Mod_u2 wd_1484 hP hD hS hA [0] rfl (by decide) 0 rfl rfl rfl rfl rfl (by decide) rfl hl.1 rfl (Nat.le_of_ble_eq_true rfl) (by decide) d_Mod_readAttributes_1) (fun r1 hr1 => ?_)
  obtain rfl : r1 = 0 := hr1
  refine lv_istore_n hx hb d_Mod_readAttributes_4 rfl hl (by decide) rfl (fun ls hl => ?_)
  have hl : lv_has ls 3 [(1, .int 0), (0, .ref h0)] := hl
  refine lv_iconst (v := 0) hx hb d_Mod_readAttributes_5 (by decide) ?_
  refine lv_istore_n hx hb d_Mod_readAttributes_6 rfl hl (by decide) rfl (fun ls hl => ?_)
  have hl : lv_has ls 3 [(2, .int 0), (1, .int 0), (0, .ref h0)] := hl
  refine lv_iload_n hx hb d_Mod_readAttributes_7 rfl (lv_at hl 0 rfl) ?_
  refine lv_iload_n hx hb d_Mod_readAttributes_8 rfl (lv_at hl 1 rfl) ?_
  refine lv_icmp_ge (tgt := 29) hx hb d_Mod_readAttributes_9 (by decide) (fun h9 => ?_) (fun h9 => ?_)
  · exact tw_vret E hS () trivial hP hD d_Mod_readAttributes_29
  · exact absurd h9 (by decide)
set_option maxHeartbeats 4000000 in
set_option maxRecDepth 100000 in
theorem c_Mod_read0 (l : Launch) (g : tw_G) (sz : Nat) (h0 : Nat) (q : Nat → Nat) (v : Nat → Int32) (ft : Nat → Int32) : Met l y_Mod_read [.code y_Mod_read b_Mod_read 5 none] ({ frames := 3, cells := 0, slots := 0, locals := 74 }) (tw_P g [.ref h0] [(h0, .inr (10, mo q (upd (upd v 1 0) 8 0))), ((q 14), aI g 620 ft)] sz) (tw_Qv g (fun _ => True) (fun u : Unit => [(h0, .inr (10, mo q (upd (upd (upd (upd (upd (upd (upd (upd (upd (upd (upd (upd (upd (upd (upd v 1 0) 8 1) 9 0) 10 0) 11 0) 12 0) 13 0) 18 0) 19 0) 20 0) 21 0) 24 0) 25 0) 26 0) 38 0))), ((q 14), aI g 620 (fun _ => 0))]) (va_A [(h0, .inr (10, mo q (upd (upd v 1 0) 8 0))), ((q 14), aI g 620 ft)] sz)) 0 0 (va_A [(h0, .inr (10, mo q (upd (upd v 1 0) 8 0))), ((q 14), aI g 620 ft)] sz) := by
  refine tw_metW (l := l) (g := g) (y := y_Mod_read) (cc := b_Mod_read) (maxL := 5) (ret := none) (rm := { frames := 3, cells := 0, slots := 0, locals := 74 }) (mc := 0) (ms := 0) (av := [.ref h0]) (ws := [(h0, .inr (10, mo q (upd (upd v 1 0) 8 0))), ((q 14), aI g 620 ft)]) (sz := sz) (Qc := fun A => (tw_Qv g (fun _ => True) (fun u : Unit => [(h0, .inr (10, mo q (upd (upd (upd (upd (upd (upd (upd (upd (upd (upd (upd (upd (upd (upd (upd v 1 0) 8 1) 9 0) 10 0) 11 0) 12 0) 13 0) 18 0) 19 0) 20 0) 21 0) 24 0) 25 0) 26 0) 38 0))), ((q 14), aI g 620 (fun _ => 0))]) A)) (by decide) (Nat.le_of_ble_eq_true rfl) ?_
  intro p e s m below meth c ls H A E hB hK hZ hP hD hS hA hl
  obtain ⟨hx, hb, hml, hr, hown, hts, hlocks, hin⟩ := id E
  have hl : lv_has ls 5 [(0, .ref h0)] := hl
  refine lv_aload_n hx hb d_Mod_read_0 rfl (lv_at hl 0 rfl) ?_
  refine lv_iconst (v := 0) hx hb d_Mod_read_1 (by decide) ?_
  refine va_put (D := g.1) (ci := 10) (v := .int 0) (ty := .int) (C := R_Mod) (T := F_Mod) (N := 61) hx hb hts in_Mod t_Mod t_Mod_ok n_Mod hown hK hP hD hS 0 rfl rfl 10 (by decide) (hts _ wd_1260) (fun _ h9 => h9) rfl (t_Mod_ok 10 (by decide)) rfl rfl (Nat.le_of_ble_eq_true rfl) d_Mod_read_2 (fun H locs hP hD hS => ?_)
  have hP : va_P g.1 classes [(h0, .inr (10, mo q (upd (upd (upd v 1 0) 8 0) 10 0))), ((q 14), aI g 620 ft)] H := hP
  have hD : va_D A [(h0, .inr (10, mo q (upd (upd (upd v 1 0) 8 0) 10 0))), ((q 14), aI g 620 ft)] := hD
  refine lv_aload_n hx hb d_Mod_read_5 rfl (lv_at hl 0 rfl) ?_
  refine lv_aload_n hx hb d_Mod_read_6 rfl (lv_at hl 0 rfl) ?_
  refine va_get (D := g.1) (ci := 10) (v := .int 0) (C := R_Mod) (T := F_Mod) (N := 61) hx hb hts in_Mod hown hK hP 0 rfl rfl 1 (by decide) (hts _ wd_1251) (fun _ h9 => h9) rfl d_Mod_read_7 ?_
  refine va_put (D := g.1) (ci := 10) (v := .int 0) (ty := .int) (C := R_Mod) (T := F_Mod) (N := 61) hx hb hts in_Mod t_Mod t_Mod_ok n_Mod hown hK hP hD hS 0 rfl rfl 11 (by decide) (hts _ wd_1261) (fun _ h9 => h9) rfl (t_Mod_ok 11 (by decide)) rfl rfl (Nat.le_of_ble_eq_true rfl) d_Mod_read_10 (fun H locs hP hD hS => ?_)
  have hP : va_P g.1 classes [(h0, .inr (10, mo q (upd (upd (upd (upd v 1 0) 8 0) 10 0) 11 0))), ((q 14), aI g 620 ft)] H := hP
  have hD : va_D A [(h0, .inr (10, mo q (upd (upd (upd (upd v 1 0) 8 0) 10 0) 11 0))), ((q 14), aI g 620 ft)] := hD
  refine lv_aload_n hx hb d_Mod_read_13 rfl (lv_at hl 0 rfl) ?_
  refine lv_iconst (v := 0) hx hb d_Mod_read_14 (by decide) ?_
  refine va_put (D := g.1) (ci := 10) (v := .int 0) (ty := .int) (C := R_Mod) (T := F_Mod) (N := 61) hx hb hts in_Mod t_Mod t_Mod_ok n_Mod hown hK hP hD hS 0 rfl rfl 12 (by decide) (hts _ wd_1262) (fun _ h9 => h9) rfl (t_Mod_ok 12 (by decide)) rfl rfl (Nat.le_of_ble_eq_true rfl) d_Mod_read_15 (fun H locs hP hD hS => ?_)
  have hP : va_P g.1 classes [(h0, .inr (10, mo q (upd (upd (upd (upd (upd v 1 0) 8 0) 10 0) 11 0) 12 0))), ((q 14), aI g 620 ft)] H := hP
  have hD : va_D A [(h0, .inr (10, mo q (upd (upd (upd (upd (upd v 1 0) 8 0) 10 0) 11 0) 12 0))), ((q 14), aI g 620 ft)] := hD
  refine lv_aload_n hx hb d_Mod_read_18 rfl (lv_at hl 0 rfl) ?_
  refine lv_iconst (v := 0) hx hb d_Mod_read_19 (by decide) ?_
  refine va_put (D := g.1) (ci := 10) (v := .int 0) (ty := .int) (C := R_Mod) (T := F_Mod) (N := 61) hx hb hts in_Mod t_Mod t_Mod_ok n_Mod hown hK hP hD hS 0 rfl rfl 25 (by decide) (hts _ wd_1275) (fun _ h9 => h9) rfl (t_Mod_ok 25 (by decide)) rfl rfl (Nat.le_of_ble_eq_true rfl) d_Mod_read_20 (fun H locs hP hD hS => ?_)
  have hP : va_P g.1 classes [(h0, .inr (10, mo q (upd (upd (upd (upd (upd (upd v 1 0) 8 0) 10 0) 11 0) 12 0) 25 0))), ((q 14), aI g 620 ft)] H := hP
  have hD : va_D A [(h0, .inr (10, mo q (upd (upd (upd (upd (upd (upd v 1 0) 8 0) 10 0) 11 0) 12 0) 25 0))), ((q 14), aI g 620 ft)] := hD
  refine lv_aload_n hx hb d_Mod_read_23 rfl (lv_at hl 0 rfl) ?_
  refine lv_iconst (v := 0) hx hb d_Mod_read_24 (by decide) ?_
  refine va_put (D := g.1) (ci := 10) (v := .int 0) (ty := .int) (C := R_Mod) (T := F_Mod) (N := 61) hx hb hts in_Mod t_Mod t_Mod_ok n_Mod hown hK hP hD hS 0 rfl rfl 38 (by decide) (hts _ wd_1288) (fun _ h9 => h9) rfl (t_Mod_ok 38 (by decide)) rfl rfl (Nat.le_of_ble_eq_true rfl) d_Mod_read_25 (fun H locs hP hD hS => ?_)
  have hP : va_P g.1 classes [(h0, .inr (10, mo q (upd (upd (upd (upd (upd (upd (upd v 1 0) 8 0) 10 0) 11 0) 12 0) 25 0) 38 0))), ((q 14), aI g 620 ft)] H := hP
  have hD : va_D A [(h0, .inr (10, mo q (upd (upd (upd (upd (upd (upd (upd v 1 0) 8 0) 10 0) 11 0) 12 0) 25 0) 38 0))), ((q 14), aI g 620 ft)] := hD
  refine lv_aload_n hx hb d_Mod_read_28 rfl (lv_at hl 0 rfl) ?_
  refine lv_iconst (v := 4) hx hb d_Mod_read_29 (by decide) ?_
  refine tw_wl (wr := [((q 14), aI g 620 ft)]) (tw_runV (ws := [(h0, .inr (10, mo q (upd (upd (upd (upd (upd (upd (upd v 1 0) 8 0) 10 0) 11 0) 12 0) 25 0) 38 0))), ((q 14), aI g 620 ft)]) (wc := [(h0, .inr (10, mo q (upd (upd (upd (upd (upd (upd (upd v 1 0) 8 0) 10 0) 11 0) 12 0) 25 0) 38 0)))]) (As := [.int 4]) (rest := []) E hB hK hZ (c_Mod_number0 l g H.size h0 q (upd (upd (upd (upd (upd (upd (upd v 1 0) 8 0) 10 0) 11 0) 12 0) 25 0) 38 0)) mc_Mod_number mi_Mod_number me_Mod_number wd_1474 hP hD hS hA [0] rfl (by decide) 0 rfl rfl rfl rfl rfl (by decide) rfl hl.1 rfl (Nat.le_of_ble_eq_true rfl) (by decide) d_Mod_read_30) hP hD hS hA [0] [1] rfl rfl (by decide) (by decide) (fun r1 u2 H locs hr1 hP hD hS => ?_)
  try dsimp only at hr1
  have hP : va_P g.1 classes [((q 14), aI g 620 ft), (h0, .inr (10, mo q (upd (upd (upd (upd (upd (upd (upd (upd v 1 0) 8 1) 9 0) 10 0) 11 0) 12 0) 25 0) 38 0)))] H := hP
  have hD : va_D A [((q 14), aI g 620 ft), (h0, .inr (10, mo q (upd (upd (upd (upd (upd (upd (upd (upd v 1 0) 8 1) 9 0) 10 0) 11 0) 12 0) 25 0) 38 0)))] := hD
  obtain rfl : r1 = 0 := hr1
  have hP : va_P g.1 classes [(h0, .inr (10, mo q (upd (upd (upd (upd (upd (upd (upd (upd v 1 0) 8 1) 9 0) 10 0) 11 0) 12 0) 25 0) 38 0))), ((q 14), aI g 620 ft)] H := hP.sub [1, 0] rfl
  have hD : va_D A [(h0, .inr (10, mo q (upd (upd (upd (upd (upd (upd (upd (upd v 1 0) 8 1) 9 0) 10 0) 11 0) 12 0) 25 0) 38 0))), ((q 14), aI g 620 ft)] := hD.sub [1, 0] (by decide) rfl
  refine lv_lstore_n hx hb d_Mod_read_33 rfl hl (by decide) rfl (fun ls hl => ?_)
  have hl : lv_has ls 5 [(1, .long 0), (0, .ref h0)] := hl
  refine lv_aload_n hx hb d_Mod_read_34 rfl (lv_at hl 1 rfl) ?_
  refine va_get (D := g.1) (ci := 10) (v := .int 1) (C := R_Mod) (T := F_Mod) (N := 61) hx hb hts in_Mod hown hK hP 0 rfl rfl 8 (by decide) (hts _ wd_1258) (fun _ h9 => h9) rfl d_Mod_read_35 ?_
  refine lv_if_ne (tgt := 55) hx hb d_Mod_read_38 (by decide) (fun h38 => ?_) (fun h38 => ?_)
  · refine lv_aload_n hx hb d_Mod_read_55 rfl (lv_at hl 1 rfl) ?_
    refine tw_si (tw_runV (ws := [(h0, .inr (10, mo q (upd (upd (upd (upd (upd (upd (upd (upd v 1 0) 8 1) 9 0) 10 0) 11 0) 12 0) 25 0) 38 0))), ((q 14), aI g 620 ft)]) (wc := [(h0, .inr (10, mo q (upd (upd (upd (upd (upd (upd (upd (upd v 1 0) 8 1) 9 0) 10 0) 11 0) 12 0) 25 0) 38 0)))]) (As := []) (rest := []) E hB hK hZ (c_Mod_u2F l g H.size h0 q (upd (upd (upd (upd (upd (upd (upd (upd v 1 0) 8 1) 9 0) 10 0) 11 0) 12 0) 25 0) 38 0) 1 (by decide)) mc_Mod_u2 mi_Mod_u2 me_Mod_u2 wd_1484 hP hD hS hA [0] rfl (by decide) 0 rfl rfl rfl rfl rfl (by decide) rfl hl.1 rfl (Nat.le_of_ble_eq_true rfl) (by decide) d_Mod_read_56) (fun r3 hr3 => ?_)
    obtain rfl : r3 = 0 := hr3
    refine lv_pop hx hb d_Mod_read_59 rfl ?_
    refine lv_aload_n hx hb d_Mod_read_60 rfl (lv_at hl 1 rfl) ?_
    refine tw_si (tw_runV (ws := [(h0, .inr (10, mo q (upd (upd (upd (upd (upd (upd (upd (upd v 1 0) 8 1) 9 0) 10 0) 11 0) 12 0) 25 0) 38 0))), ((q 14), aI g 620 ft)]) (wc := [(h0, .inr (10, mo q (upd (upd (upd (upd (upd (upd (upd (upd v 1 0) 8 1) 9 0) 10 0) 11 0) 12 0) 25 0) 38 0)))]) (As := []) (rest := []) E hB hK hZ (c_Mod_u2F l g H.size h0 q (upd (upd (upd (upd (upd (upd (upd (upd v 1 0) 8 1) 9 0) 10 0) 11 0) 12 0) 25 0) 38 0) 1 (by decide)) mc_Mod_u2 mi_Mod_u2 me_Mod_u2 wd_1484 hP hD hS hA [0] rfl (by decide) 0 rfl rfl rfl rfl rfl (by decide) rfl hl.1 rfl (Nat.le_of_ble_eq_true rfl) (by decide) d_Mod_read_61) (fun r4 hr4 => ?_)
    obtain rfl : r4 = 0 := hr4
    refine lv_istore_n hx hb d_Mod_read_64 rfl hl (by decide) rfl (fun ls hl => ?_)
    have hl : lv_has ls 5 [(3, .int 0), (1, .long 0), (0, .ref h0)] := hl
    refine lv_aload_n hx hb d_Mod_read_65 rfl (lv_at hl 2 rfl) ?_
    refine va_get (D := g.1) (ci := 10) (v := .int 1) (C := R_Mod) (T := F_Mod) (N := 61) hx hb hts in_Mod hown hK hP 0 rfl rfl 8 (by decide) (hts _ wd_1258) (fun _ h9 => h9) rfl d_Mod_read_66 ?_
    refine lv_if_ne (tgt := 90) hx hb d_Mod_read_69 (by decide) (fun h69 => ?_) (fun h69 => ?_)
    · refine lv_aload_n hx hb d_Mod_read_90 rfl (lv_at hl 2 rfl) ?_
      refine tw_wv (wr := []) (tw_runV (ws := [(h0, .inr (10, mo q (upd (upd (upd (upd (upd (upd (upd (upd v 1 0) 8 1) 9 0) 10 0) 11 0) 12 0) 25 0) 38 0))), ((q 14), aI g 620 ft)]) (wc := [(h0, .inr (10, mo q (upd (upd (upd (upd (upd (upd (upd (upd v 1 0) 8 1) 9 0) 10 0) 11 0) 12 0) 25 0) 38 0))), ((q 14), aI g 620 ft)]) (As := []) (rest := []) E hB hK hZ (c_Mod_readConstantsF l g H.size h0 q (upd (upd (upd (upd (upd (upd (upd (upd v 1 0) 8 1) 9 0) 10 0) 11 0) 12 0) 25 0) 38 0) 1 ft (by decide)) mc_Mod_readConstants mi_Mod_readConstants me_Mod_readConstants wd_1488 hP hD hS hA [0, 1] rfl (by decide) 0 rfl rfl rfl rfl rfl (by decide) rfl hl.1 rfl (Nat.le_of_ble_eq_true rfl) (by decide) d_Mod_read_91) hP hD hS hA [0, 1] [] rfl rfl (by decide) (by decide) (fun u6 H locs hr5 hP hD hS => ?_)
      try dsimp only at hr5
      have hP : va_P g.1 classes [(h0, .inr (10, mo q (upd (upd (upd (upd (upd (upd (upd (upd (upd v 1 0) 8 1) 9 0) 10 0) 11 0) 12 0) 13 0) 25 0) 38 0))), ((q 14), aI g 620 (fun _ => 0))] H := hP
      have hD : va_D A [(h0, .inr (10, mo q (upd (upd (upd (upd (upd (upd (upd (upd (upd v 1 0) 8 1) 9 0) 10 0) 11 0) 12 0) 13 0) 25 0) 38 0))), ((q 14), aI g 620 (fun _ => 0))] := hD
      refine lv_aload_n hx hb d_Mod_read_94 rfl (lv_at hl 2 rfl) ?_
      refine tw_si (tw_runV (ws := [(h0, .inr (10, mo q (upd (upd (upd (upd (upd (upd (upd (upd (upd v 1 0) 8 1) 9 0) 10 0) 11 0) 12 0) 13 0) 25 0) 38 0))), ((q 14), aI g 620 (fun _ => 0))]) (wc := [(h0, .inr (10, mo q (upd (upd (upd (upd (upd (upd (upd (upd (upd v 1 0) 8 1) 9 0) 10 0) 11 0) 12 0) 13 0) 25 0) 38 0)))]) (As := []) (rest := []) E hB hK hZ (c_Mod_u2F l g H.size h0 q (upd (upd (upd (upd (upd (upd (upd (upd (upd v 1 0) 8 1) 9 0) 10 0) 11 0) 12 0) 13 0) 25 0) 38 0) 1 (by decide)) mc_Mod_u2 mi_Mod_u2 me_Mod_u2 wd_1484 hP hD hS hA [0] rfl (by decide) 0 rfl rfl rfl rfl rfl (by decide) rfl hl.1 rfl (Nat.le_of_ble_eq_true rfl) (by decide) d_Mod_read_95) (fun r7 hr7 => ?_)
      obtain rfl : r7 = 0 := hr7
      refine lv_pop hx hb d_Mod_read_98 rfl ?_
      refine lv_aload_n hx hb d_Mod_read_99 rfl (lv_at hl 2 rfl) ?_
      refine lv_aload_n hx hb d_Mod_read_100 rfl (lv_at hl 2 rfl) ?_
      refine va_get (D := g.1) (ci := 10) (v := .int 0) (C := R_Mod) (T := F_Mod) (N := 61) hx hb hts in_Mod hown hK hP 0 rfl rfl 10 (by decide) (hts _ wd_1260) (fun _ h9 => h9) rfl d_Mod_read_101 ?_
      refine va_put (D := g.1) (ci := 10) (v := .int 0) (ty := .int) (C := R_Mod) (T := F_Mod) (N := 61) hx hb hts in_Mod t_Mod t_Mod_ok n_Mod hown hK hP hD hS 0 rfl rfl 18 (by decide) (hts _ wd_1268) (fun _ h9 => h9) rfl (t_Mod_ok 18 (by decide)) rfl rfl (Nat.le_of_ble_eq_true rfl) d_Mod_read_104 (fun H locs hP hD hS => ?_)
      have hP : va_P g.1 classes [(h0, .inr (10, mo q (upd (upd (upd (upd (upd (upd (upd (upd (upd (upd v 1 0) 8 1) 9 0) 10 0) 11 0) 12 0) 13 0) 18 0) 25 0) 38 0))), ((q 14), aI g 620 (fun _ => 0))] H := hP
      have hD : va_D A [(h0, .inr (10, mo q (upd (upd (upd (upd (upd (upd (upd (upd (upd (upd v 1 0) 8 1) 9 0) 10 0) 11 0) 12 0) 13 0) 18 0) 25 0) 38 0))), ((q 14), aI g 620 (fun _ => 0))] := hD
      refine lv_aload_n hx hb d_Mod_read_107 rfl (lv_at hl 2 rfl) ?_
      refine lv_aload_n hx hb d_Mod_read_108 rfl (lv_at hl 2 rfl) ?_
      refine tw_si (tw_runV (ws := [(h0, .inr (10, mo q (upd (upd (upd (upd (upd (upd (upd (upd (upd (upd v 1 0) 8 1) 9 0) 10 0) 11 0) 12 0) 13 0) 18 0) 25 0) 38 0))), ((q 14), aI g 620 (fun _ => 0))]) (wc := [(h0, .inr (10, mo q (upd (upd (upd (upd (upd (upd (upd (upd (upd (upd v 1 0) 8 1) 9 0) 10 0) 11 0) 12 0) 13 0) 18 0) 25 0) 38 0)))]) (As := []) (rest := [.ref h0]) E hB hK hZ (c_Mod_u2F l g H.size h0 q (upd (upd (upd (upd (upd (upd (upd (upd (upd (upd v 1 0) 8 1) 9 0) 10 0) 11 0) 12 0) 13 0) 18 0) 25 0) 38 0) 1 (by decide)) mc_Mod_u2 mi_Mod_u2 me_Mod_u2 wd_1484 hP hD hS hA [0] rfl (by decide) 0 rfl rfl rfl rfl rfl (by decide) rfl hl.1 rfl (Nat.le_of_ble_eq_true rfl) (by decide) d_Mod_read_109) (fun r8 hr8 => ?_)
      obtain rfl : r8 = 0 := hr8
      refine va_put (D := g.1) (ci := 10) (v := .int 0) (ty := .int) (C := R_Mod) (T := F_Mod) (N := 61) hx hb hts in_Mod t_Mod t_Mod_ok n_Mod hown hK hP hD hS 0 rfl rfl 19 (by decide) (hts _ wd_1269) (fun _ h9 => h9) rfl (t_Mod_ok 19 (by decide)) rfl rfl (Nat.le_of_ble_eq_true rfl) d_Mod_read_112 (fun H locs hP hD hS => ?_)
      have hP : va_P g.1 classes [(h0, .inr (10, mo q (upd (upd (upd (upd (upd (upd (upd (upd (upd (upd (upd v 1 0) 8 1) 9 0) 10 0) 11 0) 12 0) 13 0) 18 0) 19 0) 25 0) 38 0))), ((q 14), aI g 620 (fun _ => 0))] H := hP
      have hD : va_D A [(h0, .inr (10, mo q (upd (upd (upd (upd (upd (upd (upd (upd (upd (upd (upd v 1 0) 8 1) 9 0) 10 0) 11 0) 12 0) 13 0) 18 0) 19 0) 25 0) 38 0))), ((q 14), aI g 620 (fun _ => 0))] := hD
      refine lv_aload_n hx hb d_Mod_read_115 rfl (lv_at hl 2 rfl) ?_
      refine lv_aload_n hx hb d_Mod_read_116 rfl (lv_at hl 2 rfl) ?_
      refine tw_si (tw_runV (ws := [(h0, .inr (10, mo q (upd (upd (upd (upd (upd (upd (upd (upd (upd (upd (upd v 1 0) 8 1) 9 0) 10 0) 11 0) 12 0) 13 0) 18 0) 19 0) 25 0) 38 0))), ((q 14), aI g 620 (fun _ => 0))]) (wc := [(h0, .inr (10, mo q (upd (upd (upd (upd (upd (upd (upd (upd (upd (upd (upd v 1 0) 8 1) 9 0) 10 0) 11 0) 12 0) 13 0) 18 0) 19 0) 25 0) 38 0)))]) (As := []) (rest := [.ref h0]) E hB hK hZ (c_Mod_u2F l g H.size h0 q (upd (upd (upd (upd (upd (upd (upd (upd (upd (upd (upd v 1 0) 8 1) 9 0) 10 0) 11 0) 12 0) 13 0) 18 0) 19 0) 25 0) 38 0) 1 (by decide)) mc_Mod_u2 mi_Mod_u2 me_Mod_u2 wd_1484 hP hD hS hA [0] rfl (by decide) 0 rfl rfl rfl rfl rfl (by decide) rfl hl.1 rfl (Nat.le_of_ble_eq_true rfl) (by decide) d_Mod_read_117) (fun r9 hr9 => ?_)
      obtain rfl : r9 = 0 := hr9
      refine va_put (D := g.1) (ci := 10) (v := .int 0) (ty := .int) (C := R_Mod) (T := F_Mod) (N := 61) hx hb hts in_Mod t_Mod t_Mod_ok n_Mod hown hK hP hD hS 0 rfl rfl 20 (by decide) (hts _ wd_1270) (fun _ h9 => h9) rfl (t_Mod_ok 20 (by decide)) rfl rfl (Nat.le_of_ble_eq_true rfl) d_Mod_read_120 (fun H locs hP hD hS => ?_)
      have hP : va_P g.1 classes [(h0, .inr (10, mo q (upd (upd (upd (upd (upd (upd (upd (upd (upd (upd (upd (upd v 1 0) 8 1) 9 0) 10 0) 11 0) 12 0) 13 0) 18 0) 19 0) 20 0) 25 0) 38 0))), ((q 14), aI g 620 (fun _ => 0))] H := hP
      have hD : va_D A [(h0, .inr (10, mo q (upd (upd (upd (upd (upd (upd (upd (upd (upd (upd (upd (upd v 1 0) 8 1) 9 0) 10 0) 11 0) 12 0) 13 0) 18 0) 19 0) 20 0) 25 0) 38 0))), ((q 14), aI g 620 (fun _ => 0))] := hD
      refine lv_aload_n hx hb d_Mod_read_123 rfl (lv_at hl 2 rfl) ?_
      refine lv_aload_n hx hb d_Mod_read_124 rfl (lv_at hl 2 rfl) ?_
      refine tw_si (tw_runV (ws := [(h0, .inr (10, mo q (upd (upd (upd (upd (upd (upd (upd (upd (upd (upd (upd (upd v 1 0) 8 1) 9 0) 10 0) 11 0) 12 0) 13 0) 18 0) 19 0) 20 0) 25 0) 38 0))), ((q 14), aI g 620 (fun _ => 0))]) (wc := [(h0, .inr (10, mo q (upd (upd (upd (upd (upd (upd (upd (upd (upd (upd (upd (upd v 1 0) 8 1) 9 0) 10 0) 11 0) 12 0) 13 0) 18 0) 19 0) 20 0) 25 0) 38 0)))]) (As := []) (rest := [.ref h0]) E hB hK hZ (c_Mod_u2F l g H.size h0 q (upd (upd (upd (upd (upd (upd (upd (upd (upd (upd (upd (upd v 1 0) 8 1) 9 0) 10 0) 11 0) 12 0) 13 0) 18 0) 19 0) 20 0) 25 0) 38 0) 1 (by decide)) mc_Mod_u2 mi_Mod_u2 me_Mod_u2 wd_1484 hP hD hS hA [0] rfl (by decide) 0 rfl rfl rfl rfl rfl (by decide) rfl hl.1 rfl (Nat.le_of_ble_eq_true rfl) (by decide) d_Mod_read_125) (fun r10 hr10 => ?_)
      obtain rfl : r10 = 0 := hr10
      refine va_put (D := g.1) (ci := 10) (v := .int 0) (ty := .int) (C := R_Mod) (T := F_Mod) (N := 61) hx hb hts in_Mod t_Mod t_Mod_ok n_Mod hown hK hP hD hS 0 rfl rfl 21 (by decide) (hts _ wd_1271) (fun _ h9 => h9) rfl (t_Mod_ok 21 (by decide)) rfl rfl (Nat.le_of_ble_eq_true rfl) d_Mod_read_128 (fun H locs hP hD hS => ?_)
      have hP : va_P g.1 classes [(h0, .inr (10, mo q (upd (upd (upd (upd (upd (upd (upd (upd (upd (upd (upd (upd (upd v 1 0) 8 1) 9 0) 10 0) 11 0) 12 0) 13 0) 18 0) 19 0) 20 0) 21 0) 25 0) 38 0))), ((q 14), aI g 620 (fun _ => 0))] H := hP
      have hD : va_D A [(h0, .inr (10, mo q (upd (upd (upd (upd (upd (upd (upd (upd (upd (upd (upd (upd (upd v 1 0) 8 1) 9 0) 10 0) 11 0) 12 0) 13 0) 18 0) 19 0) 20 0) 21 0) 25 0) 38 0))), ((q 14), aI g 620 (fun _ => 0))] := hD
      refine lv_iconst (v := 0) hx hb d_Mod_read_131 (by decide) ?_
      refine lv_istore hx hb d_Mod_read_132 hl (by decide) rfl (fun ls hl => ?_)
      have hl : lv_has ls 5 [(4, .int 0), (3, .int 0), (1, .long 0), (0, .ref h0)] := hl
      refine lv_iload hx hb d_Mod_read_134 (lv_at hl 0 rfl) ?_
      refine lv_aload_n hx hb d_Mod_read_136 rfl (lv_at hl 3 rfl) ?_
      refine va_get (D := g.1) (ci := 10) (v := .int 0) (C := R_Mod) (T := F_Mod) (N := 61) hx hb hts in_Mod hown hK hP 0 rfl rfl 21 (by decide) (hts _ wd_1271) (fun _ h9 => h9) rfl d_Mod_read_137 ?_
      refine lv_icmp_ge (tgt := 178) hx hb d_Mod_read_140 (by decide) (fun h140 => ?_) (fun h140 => ?_)
      · refine lv_aload_n hx hb d_Mod_read_178 rfl (lv_at hl 3 rfl) ?_
        refine lv_iconst (v := 0) hx hb d_Mod_read_179 (by decide) ?_
        refine tw_wv (wr := [((q 14), aI g 620 (fun _ => 0))]) (tw_runV (ws := [(h0, .inr (10, mo q (upd (upd (upd (upd (upd (upd (upd (upd (upd (upd (upd (upd (upd v 1 0) 8 1) 9 0) 10 0) 11 0) 12 0) 13 0) 18 0) 19 0) 20 0) 21 0) 25 0) 38 0))), ((q 14), aI g 620 (fun _ => 0))]) (wc := [(h0, .inr (10, mo q (upd (upd (upd (upd (upd (upd (upd (upd (upd (upd (upd (upd (upd v 1 0) 8 1) 9 0) 10 0) 11 0) 12 0) 13 0) 18 0) 19 0) 20 0) 21 0) 25 0) 38 0)))]) (As := [.int 0]) (rest := []) E hB hK hZ (c_Mod_readMembersF l g H.size h0 q (upd (upd (upd (upd (upd (upd (upd (upd (upd (upd (upd (upd (upd v 1 0) 8 1) 9 0) 10 0) 11 0) 12 0) 13 0) 18 0) 19 0) 20 0) 21 0) 25 0) 38 0) 1 0 (by decide)) mc_Mod_readMembers mi_Mod_readMembers me_Mod_readMembers wd_1500 hP hD hS hA [0] rfl (by decide) 0 rfl rfl rfl rfl rfl (by decide) rfl hl.1 rfl (Nat.le_of_ble_eq_true rfl) (by decide) d_Mod_read_180) hP hD hS hA [0] [1] rfl rfl (by decide) (by decide) (fun u12 H locs hr11 hP hD hS => ?_)
        try dsimp only at hr11
        have hP : va_P g.1 classes [((q 14), aI g 620 (fun _ => 0)), (h0, .inr (10, mo q (upd (upd (upd (upd (upd (upd (upd (upd (upd (upd (upd (upd (upd v 1 0) 8 1) 9 0) 10 0) 11 0) 12 0) 13 0) 18 0) 19 0) 20 0) 21 0) 25 0) 38 0)))] H := hP
        have hD : va_D A [((q 14), aI g 620 (fun _ => 0)), (h0, .inr (10, mo q (upd (upd (upd (upd (upd (upd (upd (upd (upd (upd (upd (upd (upd v 1 0) 8 1) 9 0) 10 0) 11 0) 12 0) 13 0) 18 0) 19 0) 20 0) 21 0) 25 0) 38 0)))] := hD
        have hP : va_P g.1 classes [(h0, .inr (10, mo q (upd (upd (upd (upd (upd (upd (upd (upd (upd (upd (upd (upd (upd v 1 0) 8 1) 9 0) 10 0) 11 0) 12 0) 13 0) 18 0) 19 0) 20 0) 21 0) 25 0) 38 0))), ((q 14), aI g 620 (fun _ => 0))] H := hP.sub [1, 0] rfl
        have hD : va_D A [(h0, .inr (10, mo q (upd (upd (upd (upd (upd (upd (upd (upd (upd (upd (upd (upd (upd v 1 0) 8 1) 9 0) 10 0) 11 0) 12 0) 13 0) 18 0) 19 0) 20 0) 21 0) 25 0) 38 0))), ((q 14), aI g 620 (fun _ => 0))] := hD.sub [1, 0] (by decide) rfl
        refine lv_aload_n hx hb d_Mod_read_183 rfl (lv_at hl 3 rfl) ?_
        refine lv_aload_n hx hb d_Mod_read_184 rfl (lv_at hl 3 rfl) ?_
        refine va_get (D := g.1) (ci := 10) (v := .int 0) (C := R_Mod) (T := F_Mod) (N := 61) hx hb hts in_Mod hown hK hP 0 rfl rfl 25 (by decide) (hts _ wd_1275) (fun _ h9 => h9) rfl d_Mod_read_185 ?_
        refine va_put (D := g.1) (ci := 10) (v := .int 0) (ty := .int) (C := R_Mod) (T := F_Mod) (N := 61) hx hb hts in_Mod t_Mod t_Mod_ok n_Mod hown hK hP hD hS 0 rfl rfl 24 (by decide) (hts _ wd_1274) (fun _ h9 => h9) rfl (t_Mod_ok 24 (by decide)) rfl rfl (Nat.le_of_ble_eq_true rfl) d_Mod_read_188 (fun H locs hP hD hS => ?_)
        have hP : va_P g.1 classes [(h0, .inr (10, mo q (upd (upd (upd (upd (upd (upd (upd (upd (upd (upd (upd (upd (upd (upd v 1 0) 8 1) 9 0) 10 0) 11 0) 12 0) 13 0) 18 0) 19 0) 20 0) 21 0) 24 0) 25 0) 38 0))), ((q 14), aI g 620 (fun _ => 0))] H := hP
        have hD : va_D A [(h0, .inr (10, mo q (upd (upd (upd (upd (upd (upd (upd (upd (upd (upd (upd (upd (upd (upd v 1 0) 8 1) 9 0) 10 0) 11 0) 12 0) 13 0) 18 0) 19 0) 20 0) 21 0) 24 0) 25 0) 38 0))), ((q 14), aI g 620 (fun _ => 0))] := hD
        refine lv_aload_n hx hb d_Mod_read_191 rfl (lv_at hl 3 rfl) ?_
        refine lv_aload_n hx hb d_Mod_read_192 rfl (lv_at hl 3 rfl) ?_
        refine va_get (D := g.1) (ci := 10) (v := .int 0) (C := R_Mod) (T := F_Mod) (N := 61) hx hb hts in_Mod hown hK hP 0 rfl rfl 10 (by decide) (hts _ wd_1260) (fun _ h9 => h9) rfl d_Mod_read_193 ?_
        refine va_put (D := g.1) (ci := 10) (v := .int 0) (ty := .int) (C := R_Mod) (T := F_Mod) (N := 61) hx hb hts in_Mod t_Mod t_Mod_ok n_Mod hown hK hP hD hS 0 rfl rfl 26 (by decide) (hts _ wd_1276) (fun _ h9 => h9) rfl (t_Mod_ok 26 (by decide)) rfl rfl (Nat.le_of_ble_eq_true rfl) d_Mod_read_196 (fun H locs hP hD hS => ?_)
        have hP : va_P g.1 classes [(h0, .inr (10, mo q (upd (upd (upd (upd (upd (upd (upd (upd (upd (upd (upd (upd (upd (upd (upd v 1 0) 8 1) 9 0) 10 0) 11 0) 12 0) 13 0) 18 0) 19 0) 20 0) 21 0) 24 0) 25 0) 26 0) 38 0))), ((q 14), aI g 620 (fun _ => 0))] H := hP
        have hD : va_D A [(h0, .inr (10, mo q (upd (upd (upd (upd (upd (upd (upd (upd (upd (upd (upd (upd (upd (upd (upd v 1 0) 8 1) 9 0) 10 0) 11 0) 12 0) 13 0) 18 0) 19 0) 20 0) 21 0) 24 0) 25 0) 26 0) 38 0))), ((q 14), aI g 620 (fun _ => 0))] := hD
        refine lv_aload_n hx hb d_Mod_read_199 rfl (lv_at hl 3 rfl) ?_
        refine lv_iconst (v := 1) hx hb d_Mod_read_200 (by decide) ?_
        refine tw_wv (wr := [((q 14), aI g 620 (fun _ => 0))]) (tw_runV (ws := [(h0, .inr (10, mo q (upd (upd (upd (upd (upd (upd (upd (upd (upd (upd (upd (upd (upd (upd (upd v 1 0) 8 1) 9 0) 10 0) 11 0) 12 0) 13 0) 18 0) 19 0) 20 0) 21 0) 24 0) 25 0) 26 0) 38 0))), ((q 14), aI g 620 (fun _ => 0))]) (wc := [(h0, .inr (10, mo q (upd (upd (upd (upd (upd (upd (upd (upd (upd (upd (upd (upd (upd (upd (upd v 1 0) 8 1) 9 0) 10 0) 11 0) 12 0) 13 0) 18 0) 19 0) 20 0) 21 0) 24 0) 25 0) 26 0) 38 0)))]) (As := [.int 1]) (rest := []) E hB hK hZ (c_Mod_readMembersF l g H.size h0 q (upd (upd (upd (upd (upd (upd (upd (upd (upd (upd (upd (upd (upd (upd (upd v 1 0) 8 1) 9 0) 10 0) 11 0) 12 0) 13 0) 18 0) 19 0) 20 0) 21 0) 24 0) 25 0) 26 0) 38 0) 1 1 (by decide)) mc_Mod_readMembers mi_Mod_readMembers me_Mod_readMembers wd_1500 hP hD hS hA [0] rfl (by decide) 0 rfl rfl rfl rfl rfl (by decide) rfl hl.1 rfl (Nat.le_of_ble_eq_true rfl) (by decide) d_Mod_read_201) hP hD hS hA [0] [1] rfl rfl (by decide) (by decide) (fun u14 H locs hr13 hP hD hS => ?_)
        try dsimp only at hr13
        have hP : va_P g.1 classes [((q 14), aI g 620 (fun _ => 0)), (h0, .inr (10, mo q (upd (upd (upd (upd (upd (upd (upd (upd (upd (upd (upd (upd (upd (upd (upd v 1 0) 8 1) 9 0) 10 0) 11 0) 12 0) 13 0) 18 0) 19 0) 20 0) 21 0) 24 0) 25 0) 26 0) 38 0)))] H := hP
        have hD : va_D A [((q 14), aI g 620 (fun _ => 0)), (h0, .inr (10, mo q (upd (upd (upd (upd (upd (upd (upd (upd (upd (upd (upd (upd (upd (upd (upd v 1 0) 8 1) 9 0) 10 0) 11 0) 12 0) 13 0) 18 0) 19 0) 20 0) 21 0) 24 0) 25 0) 26 0) 38 0)))] := hD
        have hP : va_P g.1 classes [(h0, .inr (10, mo q (upd (upd (upd (upd (upd (upd (upd (upd (upd (upd (upd (upd (upd (upd (upd v 1 0) 8 1) 9 0) 10 0) 11 0) 12 0) 13 0) 18 0) 19 0) 20 0) 21 0) 24 0) 25 0) 26 0) 38 0))), ((q 14), aI g 620 (fun _ => 0))] H := hP.sub [1, 0] rfl
        have hD : va_D A [(h0, .inr (10, mo q (upd (upd (upd (upd (upd (upd (upd (upd (upd (upd (upd (upd (upd (upd (upd v 1 0) 8 1) 9 0) 10 0) 11 0) 12 0) 13 0) 18 0) 19 0) 20 0) 21 0) 24 0) 25 0) 26 0) 38 0))), ((q 14), aI g 620 (fun _ => 0))] := hD.sub [1, 0] (by decide) rfl
        refine lv_aload_n hx hb d_Mod_read_204 rfl (lv_at hl 3 rfl) ?_
        refine tw_wv (wr := [((q 14), aI g 620 (fun _ => 0))]) (tw_runV (ws := [(h0, .inr (10, mo q (upd (upd (upd (upd (upd (upd (upd (upd (upd (upd (upd (upd (upd (upd (upd v 1 0) 8 1) 9 0) 10 0) 11 0) 12 0) 13 0) 18 0) 19 0) 20 0) 21 0) 24 0) 25 0) 26 0) 38 0))), ((q 14), aI g 620 (fun _ => 0))]) (wc := [(h0, .inr (10, mo q (upd (upd (upd (upd (upd (upd (upd (upd (upd (upd (upd (upd (upd (upd (upd v 1 0) 8 1) 9 0) 10 0) 11 0) 12 0) 13 0) 18 0) 19 0) 20 0) 21 0) 24 0) 25 0) 26 0) 38 0)))]) (As := []) (rest := []) E hB hK hZ (c_Mod_readAttributesF l g H.size h0 q (upd (upd (upd (upd (upd (upd (upd (upd (upd (upd (upd (upd (upd (upd (upd v 1 0) 8 1) 9 0) 10 0) 11 0) 12 0) 13 0) 18 0) 19 0) 20 0) 21 0) 24 0) 25 0) 26 0) 38 0) 1 (by decide)) mc_Mod_readAttributes mi_Mod_readAttributes me_Mod_readAttributes wd_1520 hP hD hS hA [0] rfl (by decide) 0 rfl rfl rfl rfl rfl (by decide) rfl hl.1 rfl (Nat.le_of_ble_eq_true rfl) (by decide) d_Mod_read_205) hP hD hS hA [0] [1] rfl rfl (by decide) (by decide) (fun u16 H locs hr15 hP hD hS => ?_)
        try dsimp only at hr15
        have hP : va_P g.1 classes [((q 14), aI g 620 (fun _ => 0)), (h0, .inr (10, mo q (upd (upd (upd (upd (upd (upd (upd (upd (upd (upd (upd (upd (upd (upd (upd v 1 0) 8 1) 9 0) 10 0) 11 0) 12 0) 13 0) 18 0) 19 0) 20 0) 21 0) 24 0) 25 0) 26 0) 38 0)))] H := hP
        have hD : va_D A [((q 14), aI g 620 (fun _ => 0)), (h0, .inr (10, mo q (upd (upd (upd (upd (upd (upd (upd (upd (upd (upd (upd (upd (upd (upd (upd v 1 0) 8 1) 9 0) 10 0) 11 0) 12 0) 13 0) 18 0) 19 0) 20 0) 21 0) 24 0) 25 0) 26 0) 38 0)))] := hD
        have hP : va_P g.1 classes [(h0, .inr (10, mo q (upd (upd (upd (upd (upd (upd (upd (upd (upd (upd (upd (upd (upd (upd (upd v 1 0) 8 1) 9 0) 10 0) 11 0) 12 0) 13 0) 18 0) 19 0) 20 0) 21 0) 24 0) 25 0) 26 0) 38 0))), ((q 14), aI g 620 (fun _ => 0))] H := hP.sub [1, 0] rfl
        have hD : va_D A [(h0, .inr (10, mo q (upd (upd (upd (upd (upd (upd (upd (upd (upd (upd (upd (upd (upd (upd (upd v 1 0) 8 1) 9 0) 10 0) 11 0) 12 0) 13 0) 18 0) 19 0) 20 0) 21 0) 24 0) 25 0) 26 0) 38 0))), ((q 14), aI g 620 (fun _ => 0))] := hD.sub [1, 0] (by decide) rfl
        refine lv_aload_n hx hb d_Mod_read_208 rfl (lv_at hl 3 rfl) ?_
        refine va_get (D := g.1) (ci := 10) (v := .int 1) (C := R_Mod) (T := F_Mod) (N := 61) hx hb hts in_Mod hown hK hP 0 rfl rfl 8 (by decide) (hts _ wd_1258) (fun _ h9 => h9) rfl d_Mod_read_209 ?_
        refine lv_if_ne (tgt := 236) hx hb d_Mod_read_212 (by decide) (fun h212 => ?_) (fun h212 => ?_)
        · exact tw_vret E hS () trivial hP hD d_Mod_read_236
        · exact absurd h212 (by decide)
      · exact absurd h140 (by decide)
    · exact absurd h69 (by decide)
  · exact absurd h38 (by decide)
set_option maxHeartbeats 4000000 in
set_option maxRecDepth 100000 in
theorem c_Mod_audit0 (l : Launch) (g : tw_G) (sz : Nat) (h0 : Nat) (q : Nat → Nat) (v : Nat → Int32) (ft : Nat → Int32) : Met l y_Mod_audit [.code y_Mod_audit b_Mod_audit 2 (some .int)] ({ frames := 4, cells := 0, slots := 0, locals := 98 }) (tw_P g [.ref h0] [(h0, .inr (10, mo q (upd v 1 0))), ((q 14), aI g 620 ft)] sz) (tw_Qi g (fun r _ => r = 1) (fun u : Unit => [(h0, .inr (10, mo q (upd (upd (upd (upd (upd (upd (upd (upd (upd (upd (upd (upd (upd (upd (upd (upd v 0 0) 1 0) 8 1) 9 0) 10 0) 11 0) 12 0) 13 0) 18 0) 19 0) 20 0) 21 0) 24 0) 25 0) 26 0) 38 0))), ((q 14), aI g 620 (fun _ => 0))]) (va_A [(h0, .inr (10, mo q (upd v 1 0))), ((q 14), aI g 620 ft)] sz)) 0 0 (va_A [(h0, .inr (10, mo q (upd v 1 0))), ((q 14), aI g 620 ft)] sz) := by
  refine tw_metW (l := l) (g := g) (y := y_Mod_audit) (cc := b_Mod_audit) (maxL := 2) (ret := (some .int)) (rm := { frames := 4, cells := 0, slots := 0, locals := 98 }) (mc := 0) (ms := 0) (av := [.ref h0]) (ws := [(h0, .inr (10, mo q (upd v 1 0))), ((q 14), aI g 620 ft)]) (sz := sz) (Qc := fun A => (tw_Qi g (fun r _ => r = 1) (fun u : Unit => [(h0, .inr (10, mo q (upd (upd (upd (upd (upd (upd (upd (upd (upd (upd (upd (upd (upd (upd (upd (upd v 0 0) 1 0) 8 1) 9 0) 10 0) 11 0) 12 0) 13 0) 18 0) 19 0) 20 0) 21 0) 24 0) 25 0) 26 0) 38 0))), ((q 14), aI g 620 (fun _ => 0))]) A)) (by decide) (Nat.le_of_ble_eq_true rfl) ?_
  intro p e s m below meth c ls H A E hB hK hZ hP hD hS hA hl
  obtain ⟨hx, hb, hml, hr, hown, hts, hlocks, hin⟩ := id E
  have hl : lv_has ls 2 [(0, .ref h0)] := hl
  refine lv_aload_n hx hb d_Mod_audit_0 rfl (lv_at hl 0 rfl) ?_
  refine lv_iconst (v := 0) hx hb d_Mod_audit_1 (by decide) ?_
  refine va_put (D := g.1) (ci := 10) (v := .int 0) (ty := .int) (C := R_Mod) (T := F_Mod) (N := 61) hx hb hts in_Mod t_Mod t_Mod_ok n_Mod hown hK hP hD hS 0 rfl rfl 0 (by decide) (hts _ wd_1250) (fun _ h9 => h9) rfl (t_Mod_ok 0 (by decide)) rfl rfl (Nat.le_of_ble_eq_true rfl) d_Mod_audit_2 (fun H locs hP hD hS => ?_)
  have hP : va_P g.1 classes [(h0, .inr (10, mo q (upd (upd v 0 0) 1 0))), ((q 14), aI g 620 ft)] H := hP
  have hD : va_D A [(h0, .inr (10, mo q (upd (upd v 0 0) 1 0))), ((q 14), aI g 620 ft)] := hD
  refine lv_aload_n hx hb d_Mod_audit_5 rfl (lv_at hl 0 rfl) ?_
  refine lv_iconst (v := 0) hx hb d_Mod_audit_6 (by decide) ?_
  refine va_put (D := g.1) (ci := 10) (v := .int 0) (ty := .int) (C := R_Mod) (T := F_Mod) (N := 61) hx hb hts in_Mod t_Mod t_Mod_ok n_Mod hown hK hP hD hS 0 rfl rfl 8 (by decide) (hts _ wd_1258) (fun _ h9 => h9) rfl (t_Mod_ok 8 (by decide)) rfl rfl (Nat.le_of_ble_eq_true rfl) d_Mod_audit_7 (fun H locs hP hD hS => ?_)
  have hP : va_P g.1 classes [(h0, .inr (10, mo q (upd (upd (upd v 0 0) 1 0) 8 0))), ((q 14), aI g 620 ft)] H := hP
  have hD : va_D A [(h0, .inr (10, mo q (upd (upd (upd v 0 0) 1 0) 8 0))), ((q 14), aI g 620 ft)] := hD
  refine lv_aload_n hx hb d_Mod_audit_10 rfl (lv_at hl 0 rfl) ?_
  refine lv_iconst (v := (-1)) hx hb d_Mod_audit_11 (by decide) ?_
  refine va_put (D := g.1) (ci := 10) (v := .int (-1)) (ty := .int) (C := R_Mod) (T := F_Mod) (N := 61) hx hb hts in_Mod t_Mod t_Mod_ok n_Mod hown hK hP hD hS 0 rfl rfl 9 (by decide) (hts _ wd_1259) (fun _ h9 => h9) rfl (t_Mod_ok 9 (by decide)) rfl rfl (Nat.le_of_ble_eq_true rfl) d_Mod_audit_12 (fun H locs hP hD hS => ?_)
  have hP : va_P g.1 classes [(h0, .inr (10, mo q (upd (upd (upd (upd v 0 0) 1 0) 8 0) 9 (-1)))), ((q 14), aI g 620 ft)] H := hP
  have hD : va_D A [(h0, .inr (10, mo q (upd (upd (upd (upd v 0 0) 1 0) 8 0) 9 (-1)))), ((q 14), aI g 620 ft)] := hD
  refine lv_aload_n hx hb d_Mod_audit_15 rfl (lv_at hl 0 rfl) ?_
  refine tw_wv (wr := []) (tw_runV (ws := [(h0, .inr (10, mo q (upd (upd (upd (upd v 0 0) 1 0) 8 0) 9 (-1)))), ((q 14), aI g 620 ft)]) (wc := [(h0, .inr (10, mo q (upd (upd (upd (upd v 0 0) 1 0) 8 0) 9 (-1)))), ((q 14), aI g 620 ft)]) (As := []) (rest := []) E hB hK hZ (c_Mod_read0 l g H.size h0 q (upd (upd (upd (upd v 0 0) 1 0) 8 0) 9 (-1)) ft) mc_Mod_read mi_Mod_read me_Mod_read wd_1470 hP hD hS hA [0, 1] rfl (by decide) 0 rfl rfl rfl rfl rfl (by decide) rfl hl.1 rfl (Nat.le_of_ble_eq_true rfl) (by decide) d_Mod_audit_16) hP hD hS hA [0, 1] [] rfl rfl (by decide) (by decide) (fun u2 H locs hr1 hP hD hS => ?_)
  try dsimp only at hr1
  have hP : va_P g.1 classes [(h0, .inr (10, mo q (upd (upd (upd (upd (upd (upd (upd (upd (upd (upd (upd (upd (upd (upd (upd (upd v 0 0) 1 0) 8 1) 9 0) 10 0) 11 0) 12 0) 13 0) 18 0) 19 0) 20 0) 21 0) 24 0) 25 0) 26 0) 38 0))), ((q 14), aI g 620 (fun _ => 0))] H := hP
  have hD : va_D A [(h0, .inr (10, mo q (upd (upd (upd (upd (upd (upd (upd (upd (upd (upd (upd (upd (upd (upd (upd (upd v 0 0) 1 0) 8 1) 9 0) 10 0) 11 0) 12 0) 13 0) 18 0) 19 0) 20 0) 21 0) 24 0) 25 0) 26 0) 38 0))), ((q 14), aI g 620 (fun _ => 0))] := hD
  refine lv_aload_n hx hb d_Mod_audit_19 rfl (lv_at hl 0 rfl) ?_
  refine va_get (D := g.1) (ci := 10) (v := .int 1) (C := R_Mod) (T := F_Mod) (N := 61) hx hb hts in_Mod hown hK hP 0 rfl rfl 8 (by decide) (hts _ wd_1258) (fun _ h9 => h9) rfl d_Mod_audit_20 ?_
  refine lv_if_ne (tgt := 30) hx hb d_Mod_audit_23 (by decide) (fun h23 => ?_) (fun h23 => ?_)
  · refine lv_aload_n hx hb d_Mod_audit_30 rfl (lv_at hl 0 rfl) ?_
    refine va_get (D := g.1) (ci := 10) (v := .int 1) (C := R_Mod) (T := F_Mod) (N := 61) hx hb hts in_Mod hown hK hP 0 rfl rfl 8 (by decide) (hts _ wd_1258) (fun _ h9 => h9) rfl d_Mod_audit_31 ?_
    refine lv_if_ne (tgt := 41) hx hb d_Mod_audit_34 (by decide) (fun h34 => ?_) (fun h34 => ?_)
    · refine lv_aload_n hx hb d_Mod_audit_41 rfl (lv_at hl 0 rfl) ?_
      refine va_get (D := g.1) (ci := 10) (v := .int 0) (C := R_Mod) (T := F_Mod) (N := 61) hx hb hts in_Mod hown hK hP 0 rfl rfl 24 (by decide) (hts _ wd_1274) (fun _ h9 => h9) rfl d_Mod_audit_42 ?_
      refine lv_istore_n hx hb d_Mod_audit_45 rfl hl (by decide) rfl (fun ls hl => ?_)
      have hl : lv_has ls 2 [(1, .int 0), (0, .ref h0)] := hl
      refine lv_aload_n hx hb d_Mod_audit_46 rfl (lv_at hl 1 rfl) ?_
      refine va_get (D := g.1) (ci := 10) (v := .int 1) (C := R_Mod) (T := F_Mod) (N := 61) hx hb hts in_Mod hown hK hP 0 rfl rfl 8 (by decide) (hts _ wd_1258) (fun _ h9 => h9) rfl d_Mod_audit_47 ?_
      refine lv_if_ne (tgt := 81) hx hb d_Mod_audit_50 (by decide) (fun h50 => ?_) (fun h50 => ?_)
      · refine lv_aload_n hx hb d_Mod_audit_81 rfl (lv_at hl 1 rfl) ?_
        refine va_get (D := g.1) (ci := 10) (v := .int 1) (C := R_Mod) (T := F_Mod) (N := 61) hx hb hts in_Mod hown hK hP 0 rfl rfl 8 (by decide) (hts _ wd_1258) (fun _ h9 => h9) rfl d_Mod_audit_82 ?_
        refine lv_if_ne (tgt := 92) hx hb d_Mod_audit_85 (by decide) (fun h85 => ?_) (fun h85 => ?_)
        · refine lv_aload_n hx hb d_Mod_audit_92 rfl (lv_at hl 1 rfl) ?_
          refine va_get (D := g.1) (ci := 10) (v := .int 1) (C := R_Mod) (T := F_Mod) (N := 61) hx hb hts in_Mod hown hK hP 0 rfl rfl 8 (by decide) (hts _ wd_1258) (fun _ h9 => h9) rfl d_Mod_audit_93 ?_
          exact tw_iret E hS () rfl hP hD d_Mod_audit_96
        · exact absurd h85 (by decide)
      · exact absurd h50 (by decide)
    · exact absurd h34 (by decide)
  · exact absurd h23 (by decide)
end
section
/-! The law's own helpers catch: their contract's form and their call. -/
theorem tw_metL {l : Launch} {g : tw_G} {y : MethodName} {cc : ByteArray} {maxL : Nat} {ret : Option FieldType} {hh : List (Nat × Nat × Nat × Nat)} {av : List Value} {ws : va_W} {sz : Nat} {rm : Room} {Qc : (Nat → Prop) → Array Value → State → Outcome → State → Prop} {mc ms : Nat}
    (hy : plainName y.cls = true) (hn : (lg_sl av).length ≤ maxL)
    (body : ∀ (p : Program) (e : Env) (s : State) (m : MethodId) (below : List Frame) (meth : Method) (c : Code) (ls : Array Slot) (H : Heap) (A : Nat → Prop), tw_E p s m av.toArray meth c cc maxL ret y.cls y.name → tw_B s → va_K g.1 classes (tw_ty g) s → tw_CX g A s s.heap → va_P g.1 classes ws H → va_D A ws → va_S A s.heap H [] → (∀ q, s.heap.size ≤ q → A q) → lv_has ls maxL (lv_args 0 av) → c.exceptionTable.toList.map (fun h => (h.startPc, h.endPc, h.handlerPc, h.catchType)) = hh →
      W p l e rm s m av.toArray below meth c H [] 0 0 (MQ below (Qc A) av.toArray s mc ms A) (F0 m 0 ls [])) :
    Met l y [.codeWith y cc maxL ret hh] rm (tw_P g av ws sz) (Qc (va_A ws sz)) mc ms (va_A ws sz) := by
  refine va_MetW (cc := cc) (maxL := maxL) (ret := ret) (hh := hh) hy rfl ?_
  intro p e s m args below meth c s₁ B hml hv
  obtain ⟨rfl, hsz, hB, hK, hP, hD0, hZ⟩ := hv
  obtain ⟨hD, hA, hS⟩ := tw_own hsz hD0
  have hl := lv_entry av (n := maxL) hn
  obtain ⟨m9, meth', c', hn9, h1, h2, -, -, htab, -⟩ := Cond.codeWith_spec (atoms_spec (ws := [.codeWith y cc maxL ret hh]) B.pre _ List.mem_cons_self)
  cases B.named.symm.trans hn9
  cases B.method.symm.trans h1
  cases (Stand.of_body B).code.symm.trans h2
  rw [lg_entry_eq]
  exact body p e s m below meth c _ s.heap _ ⟨B.exec, B.bytes, hml, B.returns, findClass_of_methodNamed B.named, hB.at, B.notSynchronized, (name_of_methodNamed B.named B.method).1⟩ hB hK hZ hP hD hS hA hl htab
section TWL
variable {p : Program} {l : Launch} {e : Env} {R : Room} {s : State} {m : MethodId} {args : Array Value} {below : List Frame} {meth : Method} {c : Code} {H : Heap} {locs : List Loc} {cells slots : Nat} {Q : State → Prop}
variable {cc : ByteArray} {pc nL : Nat} {ls : Array Slot} {rest st0 : List Value} {A : Nat → Prop} {g : tw_G} {rt : Option FieldType} {own nm : String} {ws wc wr : va_W} {mc ms : Nat}
variable {y : MethodName} {bytes : ByteArray} {maxL idx n : Nat} {ret : Option FieldType} {hh : List (Nat × Nat × Nat × Nat)} {rm : Room} {Qc : Array Value → State → Outcome → State → Prop} {free : Addr → Prop} {As : List Value} {b : Nat}
/-- the call of a static method that catches -/
theorem tw_runL (E : tw_E p s m args meth c cc nL rt own nm) (hB : tw_B s) (hK : va_K g.1 classes (tw_ty g) s) (hZ : tw_CX g A s s.heap) (hM : Met l y [.codeWith y bytes maxL ret hh] rm (tw_P g As wc H.size) Qc mc ms free) (hcw : Cond.codeWith y bytes maxL ret hh ∈ tw_tbl) (hy : y.cls ≠ "java/lang/invoke/MethodHandle" ∧ y.cls ≠ "java/lang/invoke/VarHandle") (hst1 : Cond.static y ∈ tw_tbl) (hin1 : Cond.initialized y.cls ∈ tw_tbl) (hlk : Cond.methodLink own idx y ∈ tw_tbl)
    (hP : va_P g.1 classes ws H) (hD : va_D A ws) (hS : va_S A s.heap H locs) (hA : ∀ q, s.heap.size ≤ q → A q) (isC : List Nat) (hC : isC.map (fun i => ws[i]?) = wc.map some) (hnd : va_nd isC = true)
    (hrc : rm.cells = mc) (hrs : rm.slots = ms) (hR : rm.frames + 1 ≤ R.frames ∧ 8 + (maxL + 11) + rm.locals ≤ R.locals) (hn : (parseMethodDescriptor y.desc).map (fun d => d.parameters.length) = some As.length) (hls : ls.size = nL) (hst : st0 = As.reverse ++ rest) (hrm : (rest.map fun v => v.category).sum ≤ 8) (hf : cells + mc ≤ R.cells ∧ slots + ms ≤ R.slots) (hdg : decode cc pc = .ok (.invokestatic idx, 3)) :
    va_Run p l e R s m args below meth c H locs cells slots mc ms (F0 m pc ls st0) rest (Qc As.toArray) free := by
  obtain ⟨hx, hb, hml, -, hown, hts, -, -⟩ := E
  have hFc := va_free (wc := wc) hD hS hA isC hC
  have hK2 : Back l R p e below s args y 3 8 (PreOf R mc ms (tw_P g As wc H.size)) (PostOf Qc mc ms free) :=
    va_backW (hh := hh) (bytes := bytes) (maxL := maxL) (ret := ret) hM tw_blind hrc hrs hR.1 hR.2 (fun w hw a' U hW => by cases List.mem_singleton.mp hw; exact word_at hW (Or.inl rfl) (hts _ hcw)) List.mem_cons_self (fun a' U hW => word_at hW (Or.inl (by first | rfl | simp [Cond.onTables, Cond.keeps, Cond.steady])) (hts _ hin1))
  intro T hT X
  obtain ⟨mk, methM, cM, hnamed, hmethM, -, -, -, -, -, -, hsigM⟩ := Cond.codeWith_spec (hts _ hcw)
  have hstatic : methM.isStatic = true := Cond.static_spec hnamed hmethM (hts _ hst1)
  obtain ⟨kP, hkP, -⟩ := className_of_methodNamed hnamed
  have hinitP : kP.init = .initialized := Cond.initialized_spec (findClass_of_methodNamed hnamed) hkP (hts _ hin1)
  have hlen : As.length = methM.sig.parameters.length := by
    rw [hsigM] at hn
    exact (Option.some.inj hn).symm
  obtain ⟨vm₁, X₁, hstep₁⟩ := X.invokestatic hx hown (hts _ hlk) hnamed hmethM hstatic hkP hinitP hy (g := F0 m pc ls st0) rfl (argsL := As) (rest := rest) hlen hst (by rw [hb]; exact hdg)
  have hpre := tw_pre (av := As) hB hZ hS hA hK hP hD isC hC hnd (T.setVm vm₁) hT X₁.warmed
  obtain ⟨v, ⟨U', l2, c2, s2⟩, X', ⟨g', mk', t, L, e1, e2, hq, h1, hL, h2, h3⟩, hsteps⟩ := hK2 m meth c ⟨T.setVm vm₁, locs, cells, slots⟩ { F0 m pc ls st0 with stack := rest } (.invokestatic idx) mk As.toArray X₁ rfl (by show ls.size = _; rw [hls, hml]) (by rw [hb]; exact hdg) (by show 2 * 0 + _ ≤ 8; simpa using hrm) (X₁.named hnamed) ⟨hf.1, hf.2, hpre⟩
  dsimp only [Pt.U, Pt.locs, Pt.cells, Pt.slots] at X' e1 e2 h1 h2 h3 hsteps
  subst h1; subst h2; subst h3
  exact ⟨v, (T.setVm vm₁).calling g' mk' As.toArray, t, U', L, hT, X', hL, e1, e2, hq, fun target h => hstep₁ _ fun acts => by rw [doInvoke_state]; exact hsteps.trans h⟩
end TWL
theorem tw_PextL {D : va_G} {cl : List vw_C} {ws : va_W} {H : Heap} {a N : Nat} {cA : ClassId} {f f' : Nat → Int64} (hP : va_P D cl ws H) (p : Nat) (hp : ws[p]? = some (a, .inl (cA, N, .inr (.inl f)))) (h : ∀ j, j < N → f j = f' j) : va_P D cl (ws.set p (a, .inl (cA, N, .inr (.inl f')))) H := by
  have e : vp_cell cA (N, .inr (.inl f)) = vp_cell cA (N, .inr (.inl f')) := by
    rw [vp_cell_l, vp_cell_l]
    unfold arrV
    congr 1
    congr 1
    funext j
    show Value.long (f j.val) = Value.long (f' j.val)
    rw [h j.val j.isLt]
  intro k q hk
  by_cases hkp : k = p
  · subst hkp
    rw [List.getElem?_set_self (List.getElem?_eq_some_iff.mp hp).1] at hk
    cases hk
    show H[a]? = some (vp_cell cA (N, .inr (.inl f')))
    rw [← e]
    exact hP k _ hp
  · rw [List.getElem?_set_ne (Ne.symm hkp)] at hk
    exact hP k q hk
theorem tn_out (o v : Int64) (j : Nat) (h : j < 1) : vp_updL (fun _ => o) (0 : Int32).toNatClampNeg v j = v := by
  obtain rfl : j = 0 := by omega
  simp [vp_updL, tn_0]
end
section
theorem d_Law_count_0 : decode b_Law_count 0 = .ok (.aload_n 2, 1) := by decide +kernel
theorem d_Law_count_1 : decode b_Law_count 1 = .ok (.iconst 0, 1) := by decide +kernel
theorem d_Law_count_2 : decode b_Law_count 2 = .ok (.aload_n 0, 1) := by decide +kernel
theorem d_Law_count_3 : decode b_Law_count 3 = .ok (.iload_n 1, 1) := by decide +kernel
theorem d_Law_count_4 : decode b_Law_count 4 = .ok (.invokevirtual 34, 3) := by decide +kernel
theorem d_Law_count_12 : decode b_Law_count 12 = .ok (.astore_n 3, 1) := by decide +kernel
theorem d_Law_count_13 : decode b_Law_count 13 = .ok (.iconst 1, 1) := by decide +kernel
theorem d_Law_count_14 : decode b_Law_count 14 = .ok (.ireturn, 1) := by decide +kernel
theorem d_Law_cut_0 : decode b_Law_cut 0 = .ok (.aload_n 2, 1) := by decide +kernel
theorem d_Law_cut_1 : decode b_Law_cut 1 = .ok (.iconst 0, 1) := by decide +kernel
theorem d_Law_cut_2 : decode b_Law_cut 2 = .ok (.aload_n 0, 1) := by decide +kernel
theorem d_Law_cut_3 : decode b_Law_cut 3 = .ok (.iload_n 1, 1) := by decide +kernel
theorem d_Law_cut_4 : decode b_Law_cut 4 = .ok (.invokevirtual 23, 3) := by decide +kernel
theorem d_Law_cut_7 : decode b_Law_cut 7 = .ok (.i2l, 1) := by decide +kernel
theorem d_Law_cut_8 : decode b_Law_cut 8 = .ok (.lastore, 1) := by decide +kernel
theorem d_Law_cut_9 : decode b_Law_cut 9 = .ok (.goto 6, 3) := by decide +kernel
theorem d_Law_cut_12 : decode b_Law_cut 12 = .ok (.astore_n 3, 1) := by decide +kernel
theorem d_Law_cut_13 : decode b_Law_cut 13 = .ok (.iconst 1, 1) := by decide +kernel
theorem d_Law_cut_14 : decode b_Law_cut 14 = .ok (.ireturn, 1) := by decide +kernel
theorem d_Law_cut_15 : decode b_Law_cut 15 = .ok (.iconst 0, 1) := by decide +kernel
theorem d_Law_cut_16 : decode b_Law_cut 16 = .ok (.ireturn, 1) := by decide +kernel
theorem d_Law_depth_0 : decode b_Law_depth 0 = .ok (.aload_n 3, 1) := by decide +kernel
theorem d_Law_depth_1 : decode b_Law_depth 1 = .ok (.iconst 0, 1) := by decide +kernel
theorem d_Law_depth_2 : decode b_Law_depth 2 = .ok (.aload_n 0, 1) := by decide +kernel
theorem d_Law_depth_3 : decode b_Law_depth 3 = .ok (.iload_n 1, 1) := by decide +kernel
theorem d_Law_depth_4 : decode b_Law_depth 4 = .ok (.iload_n 2, 1) := by decide +kernel
theorem d_Law_depth_5 : decode b_Law_depth 5 = .ok (.invokevirtual 41, 3) := by decide +kernel
theorem d_Law_depth_13 : decode b_Law_depth 13 = .ok (.astore 4, 2) := by decide +kernel
theorem d_Law_depth_15 : decode b_Law_depth 15 = .ok (.iconst 1, 1) := by decide +kernel
theorem d_Law_depth_16 : decode b_Law_depth 16 = .ok (.ireturn, 1) := by decide +kernel
theorem d_Law_feed_0 : decode b_Law_feed 0 = .ok (.aload 6, 2) := by decide +kernel
theorem d_Law_feed_2 : decode b_Law_feed 2 = .ok (.iconst 0, 1) := by decide +kernel
theorem d_Law_feed_3 : decode b_Law_feed 3 = .ok (.aload_n 0, 1) := by decide +kernel
theorem d_Law_feed_4 : decode b_Law_feed 4 = .ok (.iload_n 1, 1) := by decide +kernel
theorem d_Law_feed_5 : decode b_Law_feed 5 = .ok (.iload_n 2, 1) := by decide +kernel
theorem d_Law_feed_6 : decode b_Law_feed 6 = .ok (.iload_n 3, 1) := by decide +kernel
theorem d_Law_feed_7 : decode b_Law_feed 7 = .ok (.iload 4, 2) := by decide +kernel
theorem d_Law_feed_9 : decode b_Law_feed 9 = .ok (.iload 5, 2) := by decide +kernel
theorem d_Law_feed_11 : decode b_Law_feed 11 = .ok (.invokevirtual 7, 3) := by decide +kernel
theorem d_Law_feed_14 : decode b_Law_feed 14 = .ok (.i2l, 1) := by decide +kernel
theorem d_Law_feed_15 : decode b_Law_feed 15 = .ok (.lastore, 1) := by decide +kernel
theorem d_Law_feed_16 : decode b_Law_feed 16 = .ok (.goto 11, 3) := by decide +kernel
theorem d_Law_feed_19 : decode b_Law_feed 19 = .ok (.astore 7, 2) := by decide +kernel
theorem d_Law_feed_21 : decode b_Law_feed 21 = .ok (.iconst 1, 1) := by decide +kernel
theorem d_Law_feed_22 : decode b_Law_feed 22 = .ok (.ireturn, 1) := by decide +kernel
theorem d_Law_feed_23 : decode b_Law_feed 23 = .ok (.astore 7, 2) := by decide +kernel
theorem d_Law_feed_25 : decode b_Law_feed 25 = .ok (.iconst 2, 1) := by decide +kernel
theorem d_Law_feed_26 : decode b_Law_feed 26 = .ok (.ireturn, 1) := by decide +kernel
theorem d_Law_feed_27 : decode b_Law_feed 27 = .ok (.iconst 0, 1) := by decide +kernel
theorem d_Law_feed_28 : decode b_Law_feed 28 = .ok (.ireturn, 1) := by decide +kernel
theorem d_Law_kind_0 : decode b_Law_kind 0 = .ok (.aload 5, 2) := by decide +kernel
theorem d_Law_kind_2 : decode b_Law_kind 2 = .ok (.iconst 0, 1) := by decide +kernel
theorem d_Law_kind_3 : decode b_Law_kind 3 = .ok (.aload_n 0, 1) := by decide +kernel
theorem d_Law_kind_4 : decode b_Law_kind 4 = .ok (.iload_n 1, 1) := by decide +kernel
theorem d_Law_kind_5 : decode b_Law_kind 5 = .ok (.iload_n 2, 1) := by decide +kernel
theorem d_Law_kind_6 : decode b_Law_kind 6 = .ok (.iload_n 3, 1) := by decide +kernel
theorem d_Law_kind_7 : decode b_Law_kind 7 = .ok (.iload 4, 2) := by decide +kernel
theorem d_Law_kind_9 : decode b_Law_kind 9 = .ok (.invokevirtual 44, 3) := by decide +kernel
theorem d_Law_kind_17 : decode b_Law_kind 17 = .ok (.astore 6, 2) := by decide +kernel
theorem d_Law_kind_19 : decode b_Law_kind 19 = .ok (.iconst 1, 1) := by decide +kernel
theorem d_Law_kind_20 : decode b_Law_kind 20 = .ok (.ireturn, 1) := by decide +kernel
theorem d_Law_limit_0 : decode b_Law_limit 0 = .ok (.aload_n 3, 1) := by decide +kernel
theorem d_Law_limit_1 : decode b_Law_limit 1 = .ok (.iconst 0, 1) := by decide +kernel
theorem d_Law_limit_2 : decode b_Law_limit 2 = .ok (.aload_n 0, 1) := by decide +kernel
theorem d_Law_limit_3 : decode b_Law_limit 3 = .ok (.iload_n 1, 1) := by decide +kernel
theorem d_Law_limit_4 : decode b_Law_limit 4 = .ok (.iload_n 2, 1) := by decide +kernel
theorem d_Law_limit_5 : decode b_Law_limit 5 = .ok (.invokevirtual 31, 3) := by decide +kernel
theorem d_Law_limit_8 : decode b_Law_limit 8 = .ok (.i2l, 1) := by decide +kernel
theorem d_Law_limit_9 : decode b_Law_limit 9 = .ok (.lastore, 1) := by decide +kernel
theorem d_Law_limit_10 : decode b_Law_limit 10 = .ok (.goto 7, 3) := by decide +kernel
theorem d_Law_limit_13 : decode b_Law_limit 13 = .ok (.astore 4, 2) := by decide +kernel
theorem d_Law_limit_15 : decode b_Law_limit 15 = .ok (.iconst 1, 1) := by decide +kernel
theorem d_Law_limit_16 : decode b_Law_limit 16 = .ok (.ireturn, 1) := by decide +kernel
theorem d_Law_limit_17 : decode b_Law_limit 17 = .ok (.iconst 0, 1) := by decide +kernel
theorem d_Law_limit_18 : decode b_Law_limit 18 = .ok (.ireturn, 1) := by decide +kernel
theorem d_Law_put_0 : decode b_Law_put 0 = .ok (.aload_n 3, 1) := by decide +kernel
theorem d_Law_put_1 : decode b_Law_put 1 = .ok (.iconst 0, 1) := by decide +kernel
theorem d_Law_put_2 : decode b_Law_put 2 = .ok (.aload_n 0, 1) := by decide +kernel
theorem d_Law_put_3 : decode b_Law_put 3 = .ok (.iload_n 1, 1) := by decide +kernel
theorem d_Law_put_4 : decode b_Law_put 4 = .ok (.iload_n 2, 1) := by decide +kernel
theorem d_Law_put_5 : decode b_Law_put 5 = .ok (.invokevirtual 17, 3) := by decide +kernel
theorem d_Law_put_8 : decode b_Law_put 8 = .ok (.i2l, 1) := by decide +kernel
theorem d_Law_put_9 : decode b_Law_put 9 = .ok (.lastore, 1) := by decide +kernel
theorem d_Law_put_10 : decode b_Law_put 10 = .ok (.goto 11, 3) := by decide +kernel
theorem d_Law_put_13 : decode b_Law_put 13 = .ok (.astore 4, 2) := by decide +kernel
theorem d_Law_put_15 : decode b_Law_put 15 = .ok (.iconst 1, 1) := by decide +kernel
theorem d_Law_put_16 : decode b_Law_put 16 = .ok (.ireturn, 1) := by decide +kernel
theorem d_Law_put_17 : decode b_Law_put 17 = .ok (.astore 4, 2) := by decide +kernel
theorem d_Law_put_19 : decode b_Law_put 19 = .ok (.iconst 2, 1) := by decide +kernel
theorem d_Law_put_20 : decode b_Law_put 20 = .ok (.ireturn, 1) := by decide +kernel
theorem d_Law_put_21 : decode b_Law_put 21 = .ok (.iconst 0, 1) := by decide +kernel
theorem d_Law_put_22 : decode b_Law_put 22 = .ok (.ireturn, 1) := by decide +kernel
theorem d_Law_rule_0 : decode b_Law_rule 0 = .ok (.aload_n 3, 1) := by decide +kernel
theorem d_Law_rule_1 : decode b_Law_rule 1 = .ok (.iconst 0, 1) := by decide +kernel
theorem d_Law_rule_2 : decode b_Law_rule 2 = .ok (.aload_n 0, 1) := by decide +kernel
theorem d_Law_rule_3 : decode b_Law_rule 3 = .ok (.iload_n 1, 1) := by decide +kernel
theorem d_Law_rule_4 : decode b_Law_rule 4 = .ok (.iload_n 2, 1) := by decide +kernel
theorem d_Law_rule_5 : decode b_Law_rule 5 = .ok (.invokevirtual 27, 3) := by decide +kernel
theorem d_Law_rule_13 : decode b_Law_rule 13 = .ok (.astore 4, 2) := by decide +kernel
theorem d_Law_rule_15 : decode b_Law_rule 15 = .ok (.iconst 1, 1) := by decide +kernel
theorem d_Law_rule_16 : decode b_Law_rule 16 = .ok (.ireturn, 1) := by decide +kernel
theorem d_Law_text_0 : decode b_Law_text 0 = .ok (.aload 4, 2) := by decide +kernel
theorem d_Law_text_2 : decode b_Law_text 2 = .ok (.iconst 0, 1) := by decide +kernel
theorem d_Law_text_3 : decode b_Law_text 3 = .ok (.aload_n 0, 1) := by decide +kernel
theorem d_Law_text_4 : decode b_Law_text 4 = .ok (.iload_n 1, 1) := by decide +kernel
theorem d_Law_text_5 : decode b_Law_text 5 = .ok (.iload_n 2, 1) := by decide +kernel
theorem d_Law_text_6 : decode b_Law_text 6 = .ok (.iload_n 3, 1) := by decide +kernel
theorem d_Law_text_7 : decode b_Law_text 7 = .ok (.invokevirtual 37, 3) := by decide +kernel
theorem d_Law_text_15 : decode b_Law_text 15 = .ok (.astore 5, 2) := by decide +kernel
theorem d_Law_text_17 : decode b_Law_text 17 = .ok (.iconst 1, 1) := by decide +kernel
theorem d_Law_text_18 : decode b_Law_text 18 = .ok (.ireturn, 1) := by decide +kernel
end
