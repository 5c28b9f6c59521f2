set_option maxHeartbeats 4000000 in
set_option maxRecDepth 100000 in
theorem c_Mod_thrown (l : Launch) (g : tw_G) (sz : Nat) (h0 : Nat) (q : Nat → Nat) (v : Nat → Int32) (rf : Int32) : Met l y_Mod_thrown [.code y_Mod_thrown b_Mod_thrown 1 (some .int)] ({ frames := 0, cells := 0, slots := 0, locals := 0 }) (tw_P g [.ref h0] [(h0, .inr (10, mo q (upd v 0 rf)))] sz) (vp_Si (fun r => r = rf)) 0 0 (fun _ => False) := by
  refine tw_met (l := l) (g := g) (y := y_Mod_thrown) (cc := b_Mod_thrown) (maxL := 1) (ret := (some .int)) (rm := { frames := 0, cells := 0, slots := 0, locals := 0 }) (mc := 0) (ms := 0) (av := [.ref h0]) (ws := [(h0, .inr (10, mo q (upd v 0 rf)))]) (sz := sz) (Qc := fun _ => (vp_Si (fun r => r = rf))) (free := fun _ _ => False) (by decide) (Nat.le_of_ble_eq_true rfl) ?_
  intro p e s m below meth c ls A E hB hK hZ hP hD hS hA hl
  obtain ⟨hx, hb, hml, hr, hown, hts, hlocks, hin⟩ := id E
  have hl : lv_has ls 1 [(0, .ref h0)] := hl
  refine lv_aload_n hx hb d_Mod_thrown_0 rfl (lv_at hl 0 rfl) ?_
  refine va_get (D := g.1) (ci := 10) (v := .int rf) (C := R_Mod) (T := F_Mod) (N := 61) hx hb hts in_Mod hown hK hP 0 rfl rfl 0 (by decide) (hts _ wd_1250) (fun _ h9 => h9) rfl d_Mod_thrown_1 ?_
  exact tw_isret E rfl d_Mod_thrown_4
set_option maxHeartbeats 4000000 in
set_option maxRecDepth 100000 in
theorem c_Mod_refused (l : Launch) (g : tw_G) (sz : Nat) (h0 : Nat) (q : Nat → Nat) (v : Nat → Int32) (wh : Int32) : Met l y_Mod_refused [.code y_Mod_refused b_Mod_refused 2 (some .boolean)] ({ frames := 0, cells := 0, slots := 0, locals := 0 }) (tw_P g [.ref h0, .int wh] [(h0, .inr (10, mo q v))] sz) (tw_Qi g (fun r _ => r = if 0 < wh then 1 else 0) (fun u : Unit => [(h0, .inr (10, mo q (upd v 0 wh)))]) (va_A [(h0, .inr (10, mo q v))] sz)) 0 0 (va_A [(h0, .inr (10, mo q v))] sz) := by
  refine tw_metW (l := l) (g := g) (y := y_Mod_refused) (cc := b_Mod_refused) (maxL := 2) (ret := (some .boolean)) (rm := { frames := 0, cells := 0, slots := 0, locals := 0 }) (mc := 0) (ms := 0) (av := [.ref h0, .int wh]) (ws := [(h0, .inr (10, mo q v))]) (sz := sz) (Qc := fun A => (tw_Qi g (fun r _ => r = if 0 < wh then 1 else 0) (fun u : Unit => [(h0, .inr (10, mo q (upd v 0 wh)))]) A)) (by decide) (Nat.le_of_ble_eq_true rfl) ?_
  intro p e s m below meth c ls H A E hB hK hZ hP hD hS hA hl
  obtain ⟨hx, hb, hml, hr, hown, hts, hlocks, hin⟩ := id E
  have hl : lv_has ls 2 [(0, .ref h0), (1, .int wh)] := hl
  refine lv_aload_n hx hb d_Mod_refused_0 rfl (lv_at hl 0 rfl) ?_
  refine lv_iload_n hx hb d_Mod_refused_1 rfl (lv_at hl 1 rfl) ?_
  refine va_put (D := g.1) (ci := 10) (v := .int wh) (ty := .int) (C := R_Mod) (T := F_Mod) (N := 61) hx hb hts in_Mod t_Mod t_Mod_ok n_Mod hown hK hP hD hS 0 rfl rfl 0 (by decide) (hts _ wd_1250) (fun _ h9 => h9) rfl (t_Mod_ok 0 (by decide)) rfl rfl (Nat.le_of_ble_eq_true rfl) d_Mod_refused_2 (fun H locs hP hD hS => ?_)
  have hP : va_P g.1 classes [(h0, .inr (10, mo q (upd v 0 wh)))] H := hP
  have hD : va_D A [(h0, .inr (10, mo q (upd v 0 wh)))] := hD
  refine lv_iload_n hx hb d_Mod_refused_5 rfl (lv_at hl 1 rfl) ?_
  refine lv_if_le (tgt := 13) hx hb d_Mod_refused_6 (by decide) (fun h6 => ?_) (fun h6 => ?_)
  · refine lv_iconst (v := 0) hx hb d_Mod_refused_13 (by decide) ?_
    exact tw_zret E hS () rfl ((if_neg (Int32.not_lt.mpr h6)).symm) hP hD d_Mod_refused_14
  · refine lv_iconst (v := 1) hx hb d_Mod_refused_9 (by decide) ?_
    refine lv_goto (tgt := 14) hx hb d_Mod_refused_10 (by decide) ?_
    exact tw_zret E hS () rfl ((if_pos (Int32.not_le.mp h6)).symm) hP hD d_Mod_refused_14
set_option maxHeartbeats 4000000 in
set_option maxRecDepth 100000 in
theorem c_Mod_isIn (l : Launch) (g : tw_G) (sz : Nat) (x lo hi : Int32) : Met l y_Mod_isIn [.code y_Mod_isIn b_Mod_isIn 3 (some .boolean)] ({ frames := 0, cells := 0, slots := 0, locals := 0 }) (tw_P g [.int x, .int lo, .int hi] [] sz) (vp_Si (fun r => r = is_in x lo hi)) 0 0 (fun _ => False) := by
  refine tw_met (l := l) (g := g) (y := y_Mod_isIn) (cc := b_Mod_isIn) (maxL := 3) (ret := (some .boolean)) (rm := { frames := 0, cells := 0, slots := 0, locals := 0 }) (mc := 0) (ms := 0) (av := [.int x, .int lo, .int hi]) (ws := []) (sz := sz) (Qc := fun _ => (vp_Si (fun r => r = is_in x lo hi))) (free := fun _ _ => False) (by decide) (Nat.le_of_ble_eq_true rfl) ?_
  intro p e s m below meth c ls A E hB hK hZ hP hD hS hA hl
  obtain ⟨hx, hb, hml, hr, hown, hts, hlocks, hin⟩ := id E
  have hl : lv_has ls 3 [(0, .int x), (1, .int lo), (2, .int hi)] := hl
  refine lv_iload_n hx hb d_Mod_isIn_0 rfl (lv_at hl 0 rfl) ?_
  refine lv_iload_n hx hb d_Mod_isIn_1 rfl (lv_at hl 1 rfl) ?_
  refine lv_icmp_lt (tgt := 14) hx hb d_Mod_isIn_2 (by decide) (fun h2 => ?_) (fun h2 => ?_)
  · refine lv_iconst (v := 0) hx hb d_Mod_isIn_14 (by decide) ?_
    exact tw_zsret E rfl ((is_in0 (by first | exact Or.inl h2 | exact Or.inr h7)).symm) d_Mod_isIn_15
  · refine lv_iload_n hx hb d_Mod_isIn_5 rfl (lv_at hl 0 rfl) ?_
    refine lv_iload_n hx hb d_Mod_isIn_6 rfl (lv_at hl 2 rfl) ?_
    refine lv_icmp_gt (tgt := 14) hx hb d_Mod_isIn_7 (by decide) (fun h7 => ?_) (fun h7 => ?_)
    · refine lv_iconst (v := 0) hx hb d_Mod_isIn_14 (by decide) ?_
      exact tw_zsret E rfl ((is_in0 (by first | exact Or.inl h2 | exact Or.inr h7)).symm) d_Mod_isIn_15
    · refine lv_iconst (v := 1) hx hb d_Mod_isIn_10 (by decide) ?_
      refine lv_goto (tgt := 15) hx hb d_Mod_isIn_11 (by decide) ?_
      exact tw_zsret E rfl ((is_in1 h2 h7).symm) d_Mod_isIn_15
set_option maxHeartbeats 4000000 in
set_option maxRecDepth 100000 in
theorem c_Mod_feed (l : Launch) (g : tw_G) (sz : Nat) (h0 : Nat) (q : Nat → Nat) (v : Nat → Int32) (n : Nat) (f : Nat → Int32) (many a b c1 d : Int32) (hn : n ≤ 600) : Met l y_Mod_feed [.code y_Mod_feed b_Mod_feed 8 (some .int)] ({ frames := 1, cells := 0, slots := 0, locals := 22 }) (tw_P g [.ref h0, .int many, .int a, .int b, .int c1, .int d] [(h0, .inr (10, mo q (upd v 1 (nI n)))), ((q 2), aI g 600 f)] sz) (tw_Qi g (fun r (u : Int32 × Nat) => (u = (1, 0) ∧ (many < 0 ∨ 16 < many)) ∨ (u = (2, 0) ∧ ¬ many < 0 ∧ many ≤ 16 ∧ 600 < nI n + many) ∨ (u.1 = 0 ∧ many = nI u.2 ∧ u.2 ≤ 16 ∧ n + u.2 ≤ 600 ∧ r = nI (n + u.2))) (fun u : Int32 × Nat => [(h0, .inr (10, mo q (upd (upd v 0 u.1) 1 (nI (n + u.2))))), ((q 2), aI g 600 (mf_f f n a b c1 d u.2))]) (va_A [(h0, .inr (10, mo q (upd v 1 (nI n)))), ((q 2), aI g 600 f)] sz)) 0 0 (va_A [(h0, .inr (10, mo q (upd v 1 (nI n)))), ((q 2), aI g 600 f)] sz) := by
  refine tw_metW (l := l) (g := g) (y := y_Mod_feed) (cc := b_Mod_feed) (maxL := 8) (ret := (some .int)) (rm := { frames := 1, cells := 0, slots := 0, locals := 22 }) (mc := 0) (ms := 0) (av := [.ref h0, .int many, .int a, .int b, .int c1, .int d]) (ws := [(h0, .inr (10, mo q (upd v 1 (nI n)))), ((q 2), aI g 600 f)]) (sz := sz) (Qc := fun A => (tw_Qi g (fun r (u : Int32 × Nat) => (u = (1, 0) ∧ (many < 0 ∨ 16 < many)) ∨ (u = (2, 0) ∧ ¬ many < 0 ∧ many ≤ 16 ∧ 600 < nI n + many) ∨ (u.1 = 0 ∧ many = nI u.2 ∧ u.2 ≤ 16 ∧ n + u.2 ≤ 600 ∧ r = nI (n + u.2))) (fun u : Int32 × Nat => [(h0, .inr (10, mo q (upd (upd v 0 u.1) 1 (nI (n + u.2))))), ((q 2), aI g 600 (mf_f f n a b c1 d u.2))]) A)) (by decide) (Nat.le_of_ble_eq_true rfl) ?_
  intro p e s m below meth c ls H A E hB hK hZ hP hD hS hA hl
  obtain ⟨hx, hb, hml, hr, hown, hts, hlocks, hin⟩ := id E
  have hl : lv_has ls 8 [(0, .ref h0), (1, .int many), (2, .int a), (3, .int b), (4, .int c1), (5, .int d)] := hl
  refine lv_aload_n hx hb d_Mod_feed_0 rfl (lv_at hl 0 rfl) ?_
  refine lv_iload_n hx hb d_Mod_feed_1 rfl (lv_at hl 1 rfl) ?_
  refine lv_iconst (v := 0) hx hb d_Mod_feed_2 (by decide) ?_
  refine lv_bipush (v := 16) hx hb d_Mod_feed_3 (by decide) ?_
  refine tw_si (tw_runS (ws := [(h0, .inr (10, mo q (upd v 1 (nI n)))), ((q 2), aI g 600 f)]) (wc := []) (As := [.int many, .int 0, .int 16]) (rest := [.ref h0]) E hB hK hZ (c_Mod_isIn l g H.size many 0 16) mc_Mod_isIn ms_Mod_isIn wd_1443 hP hD hS hA [] rfl (by decide) rfl rfl (by decide) rfl hl.1 rfl (Nat.le_of_ble_eq_true rfl) (by decide) d_Mod_feed_5) (fun r1 hr1 => ?_)
  obtain rfl : r1 = is_in many 0 16 := hr1
  refine lv_if_ne (tgt := 15) hx hb d_Mod_feed_8 (by decide) (fun h8 => ?_) (fun h8 => ?_)
  · obtain ⟨i1, i2⟩ := is_inN h8
    refine lv_aload_n hx hb d_Mod_feed_15 rfl (lv_at hl 0 rfl) ?_
    refine va_get (D := g.1) (ci := 10) (v := .int (nI n)) (C := R_Mod) (T := F_Mod) (N := 61) hx hb hts in_Mod hown hK hP 0 rfl rfl 1 (by decide) (hts _ wd_1251) (fun _ h9 => h9) rfl d_Mod_feed_16 ?_
    refine lv_iload_n hx hb d_Mod_feed_19 rfl (lv_at hl 1 rfl) ?_
    refine lv_iadd hx hb d_Mod_feed_20 ?_
    refine lv_sipush (v := 600) hx hb d_Mod_feed_21 (by decide) ?_
    refine lv_icmp_le (tgt := 31) hx hb d_Mod_feed_24 (by decide) (fun h24 => ?_) (fun h24 => ?_)
    · obtain ⟨k0, hk0, hke⟩ := nI_of2 (n := 16) (by decide) i1 (Int32.not_lt.mp i2)
      have h24b := h24
      rw [hke, nI_add] at h24b
      have h24b := tn_le (b := 600) h24b (by omega) (by decide)
      subst hke
      refine lv_iconst (v := 0) hx hb d_Mod_feed_31 (by decide) ?_
      refine tw_wi (wr := [((q 2), aI g 600 f)]) (tw_runV (ws := [(h0, .inr (10, mo q (upd v 1 (nI n)))), ((q 2), aI g 600 f)]) (wc := [(h0, .inr (10, mo q (upd v 1 (nI n))))]) (As := [.int 0]) (rest := []) E hB hK hZ (c_Mod_refused l g H.size h0 q (upd v 1 (nI n)) 0) mc_Mod_refused mi_Mod_refused me_Mod_refused wd_1446 hP hD hS hA [0] rfl (by decide) 0 rfl rfl rfl rfl rfl (by decide) rfl hl.1 rfl (Nat.le_of_ble_eq_true rfl) (by decide) d_Mod_feed_32) hP hD hS hA [0] [1] rfl rfl (by decide) (by decide) (fun r2 u3 H locs hr2 hP hD hS => ?_)
      try dsimp only at hr2
      have hP : va_P g.1 classes [((q 2), aI g 600 f), (h0, .inr (10, mo q (upd (upd v 0 0) 1 (nI n))))] H := hP
      have hD : va_D A [((q 2), aI g 600 f), (h0, .inr (10, mo q (upd (upd v 0 0) 1 (nI n))))] := hD
      obtain rfl : r2 = 0 := hr2.trans (by decide)
      have hP : va_P g.1 classes [(h0, .inr (10, mo q (upd (upd v 0 0) 1 (nI n)))), ((q 2), aI g 600 f)] H := hP.sub [1, 0] rfl
      have hD : va_D A [(h0, .inr (10, mo q (upd (upd v 0 0) 1 (nI n)))), ((q 2), aI g 600 f)] := hD.sub [1, 0] (by decide) rfl
      refine lv_if_eq (tgt := 40) hx hb d_Mod_feed_35 (by decide) (fun h35 => ?_) (fun h35 => ?_)
      · refine lv_iconst (v := 0) hx hb d_Mod_feed_40 (by decide) ?_
        refine lv_istore hx hb d_Mod_feed_41 hl (by decide) rfl (fun ls hl => ?_)
        have hl : lv_has ls 8 [(6, .int 0), (0, .ref h0), (1, .int (nI k0)), (2, .int a), (3, .int b), (4, .int c1), (5, .int d)] := hl
        have loop43 : ∀ (k : Nat) (i : Nat) (ls : Array Slot) (H : Heap) (locs : List Loc) , k0 - i = k → (hi : i ≤ k0) → lv_has ls 8 [(6, .int (nI i)), (0, .ref h0), (1, .int (nI k0)), (2, .int a), (3, .int b), (4, .int c1), (5, .int d)] → va_P g.1 classes [(h0, .inr (10, mo q (upd (upd v 0 0) 1 (nI (n + i))))), ((q 2), aI g 600 (mf_f f n a b c1 d i))] H → va_D A [(h0, .inr (10, mo q (upd (upd v 0 0) 1 (nI (n + i))))), ((q 2), aI g 600 (mf_f f n a b c1 d i))] → va_S A s.heap H locs → W p l e ({ frames := 1, cells := 0, slots := 0, locals := 22 }) s m [.ref h0, .int (nI k0), .int a, .int b, .int c1, .int d].toArray below meth c H locs 0 0 (MQ below (tw_Qi g (fun r (u : Int32 × Nat) => (u = (1, 0) ∧ ((nI k0) < 0 ∨ 16 < (nI k0))) ∨ (u = (2, 0) ∧ ¬ (nI k0) < 0 ∧ (nI k0) ≤ 16 ∧ 600 < nI n + (nI k0)) ∨ (u.1 = 0 ∧ (nI k0) = nI u.2 ∧ u.2 ≤ 16 ∧ n + u.2 ≤ 600 ∧ r = nI (n + u.2))) (fun u : Int32 × Nat => [(h0, .inr (10, mo q (upd (upd v 0 u.1) 1 (nI (n + u.2))))), ((q 2), aI g 600 (mf_f f n a b c1 d u.2))]) A) [.ref h0, .int (nI k0), .int a, .int b, .int c1, .int d].toArray s 0 0 A) (F0 m 43 ls []) := by
          intro k
          induction k using Nat.strongRecOn with
          | _ k ih =>
            intro i ls H locs hk hi hl hP hD hS
            refine lv_iload hx hb d_Mod_feed_43 (lv_at hl 0 rfl) ?_
            refine lv_iload_n hx hb d_Mod_feed_45 rfl (lv_at hl 2 rfl) ?_
            refine lv_icmp_ge (tgt := 128) hx hb d_Mod_feed_46 (by decide) (fun h46 => ?_) (fun h46 => ?_)
            · have h46 := tn_le h46 (by omega) (by omega)
              obtain rfl : i = k0 := by omega
              refine lv_aload_n hx hb d_Mod_feed_128 rfl (lv_at hl 1 rfl) ?_
              refine va_get (D := g.1) (ci := 10) (v := .int (nI (n + i))) (C := R_Mod) (T := F_Mod) (N := 61) hx hb hts in_Mod hown hK hP 0 rfl rfl 1 (by decide) (hts _ wd_1251) (fun _ h9 => h9) rfl d_Mod_feed_129 ?_
              exact tw_iret E hS (0, i) (Or.inr (Or.inr ⟨rfl, rfl, by omega, by omega, rfl⟩)) hP hD d_Mod_feed_132
            · have h46 := tn_nle h46 (by omega) (by omega)
              refine lv_iload hx hb d_Mod_feed_49 (lv_at hl 0 rfl) ?_
              refine lv_iconst (v := 4) hx hb d_Mod_feed_51 (by decide) ?_
              refine lv_icmp_ge (tgt := 59) hx hb d_Mod_feed_52 (by decide) (fun h52 => ?_) (fun h52 => ?_)
              · have h52 := tn_le (a := 4) h52 (by decide) (by omega)
                refine lv_iload hx hb d_Mod_feed_59 (lv_at hl 0 rfl) ?_
                refine lv_bipush (v := 8) hx hb d_Mod_feed_61 (by decide) ?_
                refine lv_icmp_ge (tgt := 70) hx hb d_Mod_feed_63 (by decide) (fun h63 => ?_) (fun h63 => ?_)
                · have h63 := tn_le (a := 8) h63 (by decide) (by omega)
                  refine lv_iload hx hb d_Mod_feed_70 (lv_at hl 0 rfl) ?_
                  refine lv_bipush (v := 12) hx hb d_Mod_feed_72 (by decide) ?_
                  refine lv_icmp_ge (tgt := 82) hx hb d_Mod_feed_74 (by decide) (fun h74 => ?_) (fun h74 => ?_)
                  · have h74 := tn_le (a := 12) h74 (by decide) (by omega)
                    have ew : d = fd_w a b c1 d i := by simp [fd_w, show ¬ i < 4 by omega, show ¬ i < 8 by omega, show ¬ i < 12 by omega]
                    refine lv_iload hx hb d_Mod_feed_82 (lv_at hl 6 rfl) ?_
                    refine lv_istore hx hb d_Mod_feed_84 hl (by decide) rfl (fun ls hl => ?_)
                    have hl : lv_has ls 8 [(7, .int d), (6, .int (nI i)), (0, .ref h0), (1, .int (nI k0)), (2, .int a), (3, .int b), (4, .int c1), (5, .int d)] := hl
                    refine lv_aload_n hx hb d_Mod_feed_86 rfl (lv_at hl 2 rfl) ?_
                    refine va_get (D := g.1) (ci := 10) (v := .ref (q 2)) (C := R_Mod) (T := F_Mod) (N := 61) hx hb hts in_Mod hown hK hP 0 rfl rfl 2 (by decide) (hts _ wd_1252) (fun _ h9 => h9) rfl d_Mod_feed_87 ?_
                    refine lv_aload_n hx hb d_Mod_feed_90 rfl (lv_at hl 2 rfl) ?_
                    refine va_get (D := g.1) (ci := 10) (v := .int (nI (n + i))) (C := R_Mod) (T := F_Mod) (N := 61) hx hb hts in_Mod hown hK hP 0 rfl rfl 1 (by decide) (hts _ wd_1251) (fun _ h9 => h9) rfl d_Mod_feed_91 ?_
                    refine lv_iload hx hb d_Mod_feed_94 (lv_at hl 0 rfl) ?_
                    refine lv_bipush (v := 24) hx hb d_Mod_feed_96 (by decide) ?_
                    refine lv_bipush (v := 8) hx hb d_Mod_feed_98 (by decide) ?_
                    refine lv_iload hx hb d_Mod_feed_100 (lv_at hl 1 rfl) ?_
                    refine lv_iconst (v := 4) hx hb d_Mod_feed_102 (by decide) ?_
                    refine lv_irem hx hb d_Mod_feed_103 (by decide) ?_
                    refine lv_imul hx hb d_Mod_feed_104 ?_
                    refine lv_isub hx hb d_Mod_feed_105 ?_
                    refine lv_ishr hx hb d_Mod_feed_106 ?_
                    refine lv_sipush (v := 255) hx hb d_Mod_feed_107 (by decide) ?_
                    refine lv_iand hx hb d_Mod_feed_110 ?_
                    refine va_iast hx hb hK hP hD hS 1 0 rfl rfl (vp_in_nI (by omega) (by decide)) d_Mod_feed_111 (fun H locs hP hD hS => ?_)
                    have hP : va_P g.1 classes [(h0, .inr (10, mo q (upd (upd v 0 0) 1 (nI (n + i))))), ((q 2), aI g 600 (upd (mf_f f n a b c1 d i) (nI (n + i)).toNatClampNeg ((d >>> ((24 - (8 * ((nI i) - (nI i) / 4 * 4))) &&& 31)) &&& 255)))] H := hP
                    have hD : va_D A [(h0, .inr (10, mo q (upd (upd v 0 0) 1 (nI (n + i))))), ((q 2), aI g 600 (upd (mf_f f n a b c1 d i) (nI (n + i)).toNatClampNeg ((d >>> ((24 - (8 * ((nI i) - (nI i) / 4 * 4))) &&& 31)) &&& 255)))] := hD
                    refine lv_aload_n hx hb d_Mod_feed_112 rfl (lv_at hl 2 rfl) ?_
                    refine lv_dup hx hb d_Mod_feed_113 rfl ?_
                    refine va_get (D := g.1) (ci := 10) (v := .int (nI (n + i))) (C := R_Mod) (T := F_Mod) (N := 61) hx hb hts in_Mod hown hK hP 0 rfl rfl 1 (by decide) (hts _ wd_1251) (fun _ h9 => h9) rfl d_Mod_feed_114 ?_
                    refine lv_iconst (v := 1) hx hb d_Mod_feed_117 (by decide) ?_
                    refine lv_iadd hx hb d_Mod_feed_118 ?_
                    refine tw_ri (e2 := nI (n + (i + 1))) ((nI_succ (n + i)).symm) ?_
                    refine va_put (D := g.1) (ci := 10) (v := .int (nI (n + (i + 1)))) (ty := .int) (C := R_Mod) (T := F_Mod) (N := 61) hx hb hts in_Mod t_Mod t_Mod_ok n_Mod hown hK hP hD hS 0 rfl rfl 1 (by decide) (hts _ wd_1251) (fun _ h9 => h9) rfl (t_Mod_ok 1 (by decide)) rfl rfl (Nat.le_of_ble_eq_true rfl) d_Mod_feed_119 (fun H locs hP hD hS => ?_)
                    have hP : va_P g.1 classes [(h0, .inr (10, mo q (upd (upd v 0 0) 1 (nI (n + (i + 1)))))), ((q 2), aI g 600 (upd (mf_f f n a b c1 d i) (nI (n + i)).toNatClampNeg ((d >>> ((24 - (8 * ((nI i) - (nI i) / 4 * 4))) &&& 31)) &&& 255)))] H := hP
                    have hD : va_D A [(h0, .inr (10, mo q (upd (upd v 0 0) 1 (nI (n + (i + 1)))))), ((q 2), aI g 600 (upd (mf_f f n a b c1 d i) (nI (n + i)).toNatClampNeg ((d >>> ((24 - (8 * ((nI i) - (nI i) / 4 * 4))) &&& 31)) &&& 255)))] := hD
                    refine lv_iinc (k := 1) (v := nI (i + 1)) hx hb d_Mod_feed_122 hl rfl ((nI_succ i).symm) (by decide) rfl (fun ls hl => ?_)
                    have hl : lv_has ls 8 [(6, .int (nI (i + 1))), (7, .int d), (0, .ref h0), (1, .int (nI k0)), (2, .int a), (3, .int b), (4, .int c1), (5, .int d)] := hl
                    refine lv_goto (tgt := 43) hx hb d_Mod_feed_125 (by decide) ?_
                    have e8 : upd (mf_f f n a b c1 d i) (nI (n + i)).toNatClampNeg ((d >>> ((24 - (8 * ((nI i) - (nI i) / 4 * 4))) &&& 31)) &&& 255) = mf_f f n a b c1 d (i + 1) := by rw [mf_f, ← ew, nI_clamp (by omega)]; rfl
                    rw [e8] at hP hD
                    exact ih _ (by omega) (i + 1) ls _ _ rfl (by omega) (lv_sub hl [0, 2, 3, 4, 5, 6, 7] rfl) hP hD hS
                  · have h74 := tn_nle (a := 12) h74 (by decide) (by omega)
                    have ew : c1 = fd_w a b c1 d i := by simp [fd_w, show ¬ i < 4 by omega, show ¬ i < 8 by omega, h74]
                    refine lv_iload hx hb d_Mod_feed_77 (lv_at hl 5 rfl) ?_
                    refine lv_goto (tgt := 84) hx hb d_Mod_feed_79 (by decide) ?_
                    refine lv_istore hx hb d_Mod_feed_84 hl (by decide) rfl (fun ls hl => ?_)
                    have hl : lv_has ls 8 [(7, .int c1), (6, .int (nI i)), (0, .ref h0), (1, .int (nI k0)), (2, .int a), (3, .int b), (4, .int c1), (5, .int d)] := hl
                    refine lv_aload_n hx hb d_Mod_feed_86 rfl (lv_at hl 2 rfl) ?_
                    refine va_get (D := g.1) (ci := 10) (v := .ref (q 2)) (C := R_Mod) (T := F_Mod) (N := 61) hx hb hts in_Mod hown hK hP 0 rfl rfl 2 (by decide) (hts _ wd_1252) (fun _ h9 => h9) rfl d_Mod_feed_87 ?_
                    refine lv_aload_n hx hb d_Mod_feed_90 rfl (lv_at hl 2 rfl) ?_
                    refine va_get (D := g.1) (ci := 10) (v := .int (nI (n + i))) (C := R_Mod) (T := F_Mod) (N := 61) hx hb hts in_Mod hown hK hP 0 rfl rfl 1 (by decide) (hts _ wd_1251) (fun _ h9 => h9) rfl d_Mod_feed_91 ?_
                    refine lv_iload hx hb d_Mod_feed_94 (lv_at hl 0 rfl) ?_
                    refine lv_bipush (v := 24) hx hb d_Mod_feed_96 (by decide) ?_
                    refine lv_bipush (v := 8) hx hb d_Mod_feed_98 (by decide) ?_
                    refine lv_iload hx hb d_Mod_feed_100 (lv_at hl 1 rfl) ?_
                    refine lv_iconst (v := 4) hx hb d_Mod_feed_102 (by decide) ?_
                    refine lv_irem hx hb d_Mod_feed_103 (by decide) ?_
                    refine lv_imul hx hb d_Mod_feed_104 ?_
                    refine lv_isub hx hb d_Mod_feed_105 ?_
                    refine lv_ishr hx hb d_Mod_feed_106 ?_
                    refine lv_sipush (v := 255) hx hb d_Mod_feed_107 (by decide) ?_
                    refine lv_iand hx hb d_Mod_feed_110 ?_
                    refine va_iast hx hb hK hP hD hS 1 0 rfl rfl (vp_in_nI (by omega) (by decide)) d_Mod_feed_111 (fun H locs hP hD hS => ?_)
                    have hP : va_P g.1 classes [(h0, .inr (10, mo q (upd (upd v 0 0) 1 (nI (n + i))))), ((q 2), aI g 600 (upd (mf_f f n a b c1 d i) (nI (n + i)).toNatClampNeg ((c1 >>> ((24 - (8 * ((nI i) - (nI i) / 4 * 4))) &&& 31)) &&& 255)))] H := hP
                    have hD : va_D A [(h0, .inr (10, mo q (upd (upd v 0 0) 1 (nI (n + i))))), ((q 2), aI g 600 (upd (mf_f f n a b c1 d i) (nI (n + i)).toNatClampNeg ((c1 >>> ((24 - (8 * ((nI i) - (nI i) / 4 * 4))) &&& 31)) &&& 255)))] := hD
                    refine lv_aload_n hx hb d_Mod_feed_112 rfl (lv_at hl 2 rfl) ?_
                    refine lv_dup hx hb d_Mod_feed_113 rfl ?_
                    refine va_get (D := g.1) (ci := 10) (v := .int (nI (n + i))) (C := R_Mod) (T := F_Mod) (N := 61) hx hb hts in_Mod hown hK hP 0 rfl rfl 1 (by decide) (hts _ wd_1251) (fun _ h9 => h9) rfl d_Mod_feed_114 ?_
                    refine lv_iconst (v := 1) hx hb d_Mod_feed_117 (by decide) ?_
                    refine lv_iadd hx hb d_Mod_feed_118 ?_
                    refine tw_ri (e2 := nI (n + (i + 1))) ((nI_succ (n + i)).symm) ?_
                    refine va_put (D := g.1) (ci := 10) (v := .int (nI (n + (i + 1)))) (ty := .int) (C := R_Mod) (T := F_Mod) (N := 61) hx hb hts in_Mod t_Mod t_Mod_ok n_Mod hown hK hP hD hS 0 rfl rfl 1 (by decide) (hts _ wd_1251) (fun _ h9 => h9) rfl (t_Mod_ok 1 (by decide)) rfl rfl (Nat.le_of_ble_eq_true rfl) d_Mod_feed_119 (fun H locs hP hD hS => ?_)
                    have hP : va_P g.1 classes [(h0, .inr (10, mo q (upd (upd v 0 0) 1 (nI (n + (i + 1)))))), ((q 2), aI g 600 (upd (mf_f f n a b c1 d i) (nI (n + i)).toNatClampNeg ((c1 >>> ((24 - (8 * ((nI i) - (nI i) / 4 * 4))) &&& 31)) &&& 255)))] H := hP
                    have hD : va_D A [(h0, .inr (10, mo q (upd (upd v 0 0) 1 (nI (n + (i + 1)))))), ((q 2), aI g 600 (upd (mf_f f n a b c1 d i) (nI (n + i)).toNatClampNeg ((c1 >>> ((24 - (8 * ((nI i) - (nI i) / 4 * 4))) &&& 31)) &&& 255)))] := hD
                    refine lv_iinc (k := 1) (v := nI (i + 1)) hx hb d_Mod_feed_122 hl rfl ((nI_succ i).symm) (by decide) rfl (fun ls hl => ?_)
                    have hl : lv_has ls 8 [(6, .int (nI (i + 1))), (7, .int c1), (0, .ref h0), (1, .int (nI k0)), (2, .int a), (3, .int b), (4, .int c1), (5, .int d)] := hl
                    refine lv_goto (tgt := 43) hx hb d_Mod_feed_125 (by decide) ?_
                    have e8 : upd (mf_f f n a b c1 d i) (nI (n + i)).toNatClampNeg ((c1 >>> ((24 - (8 * ((nI i) - (nI i) / 4 * 4))) &&& 31)) &&& 255) = mf_f f n a b c1 d (i + 1) := by rw [mf_f, ← ew, nI_clamp (by omega)]; rfl
                    rw [e8] at hP hD
                    exact ih _ (by omega) (i + 1) ls _ _ rfl (by omega) (lv_sub hl [0, 2, 3, 4, 5, 6, 7] rfl) hP hD hS
                · have h63 := tn_nle (a := 8) h63 (by decide) (by omega)
                  have ew : b = fd_w a b c1 d i := by simp [fd_w, show ¬ i < 4 by omega, h63]
                  refine lv_iload_n hx hb d_Mod_feed_66 rfl (lv_at hl 4 rfl) ?_
                  refine lv_goto (tgt := 84) hx hb d_Mod_feed_67 (by decide) ?_
                  refine lv_istore hx hb d_Mod_feed_84 hl (by decide) rfl (fun ls hl => ?_)
                  have hl : lv_has ls 8 [(7, .int b), (6, .int (nI i)), (0, .ref h0), (1, .int (nI k0)), (2, .int a), (3, .int b), (4, .int c1), (5, .int d)] := hl
                  refine lv_aload_n hx hb d_Mod_feed_86 rfl (lv_at hl 2 rfl) ?_
                  refine va_get (D := g.1) (ci := 10) (v := .ref (q 2)) (C := R_Mod) (T := F_Mod) (N := 61) hx hb hts in_Mod hown hK hP 0 rfl rfl 2 (by decide) (hts _ wd_1252) (fun _ h9 => h9) rfl d_Mod_feed_87 ?_
                  refine lv_aload_n hx hb d_Mod_feed_90 rfl (lv_at hl 2 rfl) ?_
                  refine va_get (D := g.1) (ci := 10) (v := .int (nI (n + i))) (C := R_Mod) (T := F_Mod) (N := 61) hx hb hts in_Mod hown hK hP 0 rfl rfl 1 (by decide) (hts _ wd_1251) (fun _ h9 => h9) rfl d_Mod_feed_91 ?_
                  refine lv_iload hx hb d_Mod_feed_94 (lv_at hl 0 rfl) ?_
                  refine lv_bipush (v := 24) hx hb d_Mod_feed_96 (by decide) ?_
                  refine lv_bipush (v := 8) hx hb d_Mod_feed_98 (by decide) ?_
                  refine lv_iload hx hb d_Mod_feed_100 (lv_at hl 1 rfl) ?_
                  refine lv_iconst (v := 4) hx hb d_Mod_feed_102 (by decide) ?_
                  refine lv_irem hx hb d_Mod_feed_103 (by decide) ?_
                  refine lv_imul hx hb d_Mod_feed_104 ?_
                  refine lv_isub hx hb d_Mod_feed_105 ?_
                  refine lv_ishr hx hb d_Mod_feed_106 ?_
                  refine lv_sipush (v := 255) hx hb d_Mod_feed_107 (by decide) ?_
                  refine lv_iand hx hb d_Mod_feed_110 ?_
                  refine va_iast hx hb hK hP hD hS 1 0 rfl rfl (vp_in_nI (by omega) (by decide)) d_Mod_feed_111 (fun H locs hP hD hS => ?_)
                  have hP : va_P g.1 classes [(h0, .inr (10, mo q (upd (upd v 0 0) 1 (nI (n + i))))), ((q 2), aI g 600 (upd (mf_f f n a b c1 d i) (nI (n + i)).toNatClampNeg ((b >>> ((24 - (8 * ((nI i) - (nI i) / 4 * 4))) &&& 31)) &&& 255)))] H := hP
                  have hD : va_D A [(h0, .inr (10, mo q (upd (upd v 0 0) 1 (nI (n + i))))), ((q 2), aI g 600 (upd (mf_f f n a b c1 d i) (nI (n + i)).toNatClampNeg ((b >>> ((24 - (8 * ((nI i) - (nI i) / 4 * 4))) &&& 31)) &&& 255)))] := hD
                  refine lv_aload_n hx hb d_Mod_feed_112 rfl (lv_at hl 2 rfl) ?_
                  refine lv_dup hx hb d_Mod_feed_113 rfl ?_
                  refine va_get (D := g.1) (ci := 10) (v := .int (nI (n + i))) (C := R_Mod) (T := F_Mod) (N := 61) hx hb hts in_Mod hown hK hP 0 rfl rfl 1 (by decide) (hts _ wd_1251) (fun _ h9 => h9) rfl d_Mod_feed_114 ?_
                  refine lv_iconst (v := 1) hx hb d_Mod_feed_117 (by decide) ?_
                  refine lv_iadd hx hb d_Mod_feed_118 ?_
                  refine tw_ri (e2 := nI (n + (i + 1))) ((nI_succ (n + i)).symm) ?_
                  refine va_put (D := g.1) (ci := 10) (v := .int (nI (n + (i + 1)))) (ty := .int) (C := R_Mod) (T := F_Mod) (N := 61) hx hb hts in_Mod t_Mod t_Mod_ok n_Mod hown hK hP hD hS 0 rfl rfl 1 (by decide) (hts _ wd_1251) (fun _ h9 => h9) rfl (t_Mod_ok 1 (by decide)) rfl rfl (Nat.le_of_ble_eq_true rfl) d_Mod_feed_119 (fun H locs hP hD hS => ?_)
                  have hP : va_P g.1 classes [(h0, .inr (10, mo q (upd (upd v 0 0) 1 (nI (n + (i + 1)))))), ((q 2), aI g 600 (upd (mf_f f n a b c1 d i) (nI (n + i)).toNatClampNeg ((b >>> ((24 - (8 * ((nI i) - (nI i) / 4 * 4))) &&& 31)) &&& 255)))] H := hP
                  have hD : va_D A [(h0, .inr (10, mo q (upd (upd v 0 0) 1 (nI (n + (i + 1)))))), ((q 2), aI g 600 (upd (mf_f f n a b c1 d i) (nI (n + i)).toNatClampNeg ((b >>> ((24 - (8 * ((nI i) - (nI i) / 4 * 4))) &&& 31)) &&& 255)))] := hD
                  refine lv_iinc (k := 1) (v := nI (i + 1)) hx hb d_Mod_feed_122 hl rfl ((nI_succ i).symm) (by decide) rfl (fun ls hl => ?_)
                  have hl : lv_has ls 8 [(6, .int (nI (i + 1))), (7, .int b), (0, .ref h0), (1, .int (nI k0)), (2, .int a), (3, .int b), (4, .int c1), (5, .int d)] := hl
                  refine lv_goto (tgt := 43) hx hb d_Mod_feed_125 (by decide) ?_
                  have e8 : upd (mf_f f n a b c1 d i) (nI (n + i)).toNatClampNeg ((b >>> ((24 - (8 * ((nI i) - (nI i) / 4 * 4))) &&& 31)) &&& 255) = mf_f f n a b c1 d (i + 1) := by rw [mf_f, ← ew, nI_clamp (by omega)]; rfl
                  rw [e8] at hP hD
                  exact ih _ (by omega) (i + 1) ls _ _ rfl (by omega) (lv_sub hl [0, 2, 3, 4, 5, 6, 7] rfl) hP hD hS
              · have h52 := tn_nle (a := 4) h52 (by decide) (by omega)
                have ew : a = fd_w a b c1 d i := by simp [fd_w, h52]
                refine lv_iload_n hx hb d_Mod_feed_55 rfl (lv_at hl 3 rfl) ?_
                refine lv_goto (tgt := 84) hx hb d_Mod_feed_56 (by decide) ?_
                refine lv_istore hx hb d_Mod_feed_84 hl (by decide) rfl (fun ls hl => ?_)
                have hl : lv_has ls 8 [(7, .int a), (6, .int (nI i)), (0, .ref h0), (1, .int (nI k0)), (2, .int a), (3, .int b), (4, .int c1), (5, .int d)] := hl
                refine lv_aload_n hx hb d_Mod_feed_86 rfl (lv_at hl 2 rfl) ?_
                refine va_get (D := g.1) (ci := 10) (v := .ref (q 2)) (C := R_Mod) (T := F_Mod) (N := 61) hx hb hts in_Mod hown hK hP 0 rfl rfl 2 (by decide) (hts _ wd_1252) (fun _ h9 => h9) rfl d_Mod_feed_87 ?_
                refine lv_aload_n hx hb d_Mod_feed_90 rfl (lv_at hl 2 rfl) ?_
                refine va_get (D := g.1) (ci := 10) (v := .int (nI (n + i))) (C := R_Mod) (T := F_Mod) (N := 61) hx hb hts in_Mod hown hK hP 0 rfl rfl 1 (by decide) (hts _ wd_1251) (fun _ h9 => h9) rfl d_Mod_feed_91 ?_
                refine lv_iload hx hb d_Mod_feed_94 (lv_at hl 0 rfl) ?_
                refine lv_bipush (v := 24) hx hb d_Mod_feed_96 (by decide) ?_
                refine lv_bipush (v := 8) hx hb d_Mod_feed_98 (by decide) ?_
                refine lv_iload hx hb d_Mod_feed_100 (lv_at hl 1 rfl) ?_
                refine lv_iconst (v := 4) hx hb d_Mod_feed_102 (by decide) ?_
                refine lv_irem hx hb d_Mod_feed_103 (by decide) ?_
                refine lv_imul hx hb d_Mod_feed_104 ?_
                refine lv_isub hx hb d_Mod_feed_105 ?_
                refine lv_ishr hx hb d_Mod_feed_106 ?_
                refine lv_sipush (v := 255) hx hb d_Mod_feed_107 (by decide) ?_
                refine lv_iand hx hb d_Mod_feed_110 ?_
                refine va_iast hx hb hK hP hD hS 1 0 rfl rfl (vp_in_nI (by omega) (by decide)) d_Mod_feed_111 (fun H locs hP hD hS => ?_)
                have hP : va_P g.1 classes [(h0, .inr (10, mo q (upd (upd v 0 0) 1 (nI (n + i))))), ((q 2), aI g 600 (upd (mf_f f n a b c1 d i) (nI (n + i)).toNatClampNeg ((a >>> ((24 - (8 * ((nI i) - (nI i) / 4 * 4))) &&& 31)) &&& 255)))] H := hP
                have hD : va_D A [(h0, .inr (10, mo q (upd (upd v 0 0) 1 (nI (n + i))))), ((q 2), aI g 600 (upd (mf_f f n a b c1 d i) (nI (n + i)).toNatClampNeg ((a >>> ((24 - (8 * ((nI i) - (nI i) / 4 * 4))) &&& 31)) &&& 255)))] := hD
                refine lv_aload_n hx hb d_Mod_feed_112 rfl (lv_at hl 2 rfl) ?_
                refine lv_dup hx hb d_Mod_feed_113 rfl ?_
                refine va_get (D := g.1) (ci := 10) (v := .int (nI (n + i))) (C := R_Mod) (T := F_Mod) (N := 61) hx hb hts in_Mod hown hK hP 0 rfl rfl 1 (by decide) (hts _ wd_1251) (fun _ h9 => h9) rfl d_Mod_feed_114 ?_
                refine lv_iconst (v := 1) hx hb d_Mod_feed_117 (by decide) ?_
                refine lv_iadd hx hb d_Mod_feed_118 ?_
                refine tw_ri (e2 := nI (n + (i + 1))) ((nI_succ (n + i)).symm) ?_
                refine va_put (D := g.1) (ci := 10) (v := .int (nI (n + (i + 1)))) (ty := .int) (C := R_Mod) (T := F_Mod) (N := 61) hx hb hts in_Mod t_Mod t_Mod_ok n_Mod hown hK hP hD hS 0 rfl rfl 1 (by decide) (hts _ wd_1251) (fun _ h9 => h9) rfl (t_Mod_ok 1 (by decide)) rfl rfl (Nat.le_of_ble_eq_true rfl) d_Mod_feed_119 (fun H locs hP hD hS => ?_)
                have hP : va_P g.1 classes [(h0, .inr (10, mo q (upd (upd v 0 0) 1 (nI (n + (i + 1)))))), ((q 2), aI g 600 (upd (mf_f f n a b c1 d i) (nI (n + i)).toNatClampNeg ((a >>> ((24 - (8 * ((nI i) - (nI i) / 4 * 4))) &&& 31)) &&& 255)))] H := hP
                have hD : va_D A [(h0, .inr (10, mo q (upd (upd v 0 0) 1 (nI (n + (i + 1)))))), ((q 2), aI g 600 (upd (mf_f f n a b c1 d i) (nI (n + i)).toNatClampNeg ((a >>> ((24 - (8 * ((nI i) - (nI i) / 4 * 4))) &&& 31)) &&& 255)))] := hD
                refine lv_iinc (k := 1) (v := nI (i + 1)) hx hb d_Mod_feed_122 hl rfl ((nI_succ i).symm) (by decide) rfl (fun ls hl => ?_)
                have hl : lv_has ls 8 [(6, .int (nI (i + 1))), (7, .int a), (0, .ref h0), (1, .int (nI k0)), (2, .int a), (3, .int b), (4, .int c1), (5, .int d)] := hl
                refine lv_goto (tgt := 43) hx hb d_Mod_feed_125 (by decide) ?_
                have e8 : upd (mf_f f n a b c1 d i) (nI (n + i)).toNatClampNeg ((a >>> ((24 - (8 * ((nI i) - (nI i) / 4 * 4))) &&& 31)) &&& 255) = mf_f f n a b c1 d (i + 1) := by rw [mf_f, ← ew, nI_clamp (by omega)]; rfl
                rw [e8] at hP hD
                exact ih _ (by omega) (i + 1) ls _ _ rfl (by omega) (lv_sub hl [0, 2, 3, 4, 5, 6, 7] rfl) hP hD hS
        exact loop43 _ 0 ls _ _ rfl (Nat.zero_le _) (hl) hP hD hS
      · exact absurd rfl h35
    · refine lv_iconst (v := 2) hx hb d_Mod_feed_27 (by decide) ?_
      refine lv_goto (tgt := 32) hx hb d_Mod_feed_28 (by decide) ?_
      refine tw_wi (wr := [((q 2), aI g 600 f)]) (tw_runV (ws := [(h0, .inr (10, mo q (upd v 1 (nI n)))), ((q 2), aI g 600 f)]) (wc := [(h0, .inr (10, mo q (upd v 1 (nI n))))]) (As := [.int 2]) (rest := []) E hB hK hZ (c_Mod_refused l g H.size h0 q (upd v 1 (nI n)) 2) mc_Mod_refused mi_Mod_refused me_Mod_refused wd_1446 hP hD hS hA [0] rfl (by decide) 0 rfl rfl rfl rfl rfl (by decide) rfl hl.1 rfl (Nat.le_of_ble_eq_true rfl) (by decide) d_Mod_feed_32) hP hD hS hA [0] [1] rfl rfl (by decide) (by decide) (fun r4 u5 H locs hr4 hP hD hS => ?_)
      try dsimp only at hr4
      have hP : va_P g.1 classes [((q 2), aI g 600 f), (h0, .inr (10, mo q (upd (upd v 0 2) 1 (nI n))))] H := hP
      have hD : va_D A [((q 2), aI g 600 f), (h0, .inr (10, mo q (upd (upd v 0 2) 1 (nI n))))] := hD
      obtain rfl : r4 = 1 := hr4.trans (by decide)
      have hP : va_P g.1 classes [(h0, .inr (10, mo q (upd (upd v 0 2) 1 (nI n)))), ((q 2), aI g 600 f)] H := hP.sub [1, 0] rfl
      have hD : va_D A [(h0, .inr (10, mo q (upd (upd v 0 2) 1 (nI n)))), ((q 2), aI g 600 f)] := hD.sub [1, 0] (by decide) rfl
      refine lv_if_eq (tgt := 40) hx hb d_Mod_feed_35 (by decide) (fun h35 => ?_) (fun h35 => ?_)
      · exact absurd h35 (by decide)
      · refine lv_iconst (v := 0) hx hb d_Mod_feed_38 (by decide) ?_
        exact tw_iret E hS (2, 0) (Or.inr (Or.inl ⟨rfl, i1, Int32.not_lt.mp i2, Int32.not_le.mp h24⟩)) hP hD d_Mod_feed_39
  · refine lv_iconst (v := 1) hx hb d_Mod_feed_11 (by decide) ?_
    refine lv_goto (tgt := 32) hx hb d_Mod_feed_12 (by decide) ?_
    refine tw_wi (wr := [((q 2), aI g 600 f)]) (tw_runV (ws := [(h0, .inr (10, mo q (upd v 1 (nI n)))), ((q 2), aI g 600 f)]) (wc := [(h0, .inr (10, mo q (upd v 1 (nI n))))]) (As := [.int 1]) (rest := []) E hB hK hZ (c_Mod_refused l g H.size h0 q (upd v 1 (nI n)) 1) mc_Mod_refused mi_Mod_refused me_Mod_refused wd_1446 hP hD hS hA [0] rfl (by decide) 0 rfl rfl rfl rfl rfl (by decide) rfl hl.1 rfl (Nat.le_of_ble_eq_true rfl) (by decide) d_Mod_feed_32) hP hD hS hA [0] [1] rfl rfl (by decide) (by decide) (fun r6 u7 H locs hr6 hP hD hS => ?_)
    try dsimp only at hr6
    have hP : va_P g.1 classes [((q 2), aI g 600 f), (h0, .inr (10, mo q (upd (upd v 0 1) 1 (nI n))))] H := hP
    have hD : va_D A [((q 2), aI g 600 f), (h0, .inr (10, mo q (upd (upd v 0 1) 1 (nI n))))] := hD
    obtain rfl : r6 = 1 := hr6.trans (by decide)
    have hP : va_P g.1 classes [(h0, .inr (10, mo q (upd (upd v 0 1) 1 (nI n)))), ((q 2), aI g 600 f)] H := hP.sub [1, 0] rfl
    have hD : va_D A [(h0, .inr (10, mo q (upd (upd v 0 1) 1 (nI n)))), ((q 2), aI g 600 f)] := hD.sub [1, 0] (by decide) rfl
    refine lv_if_eq (tgt := 40) hx hb d_Mod_feed_35 (by decide) (fun h35 => ?_) (fun h35 => ?_)
    · exact absurd h35 (by decide)
    · refine lv_iconst (v := 0) hx hb d_Mod_feed_38 (by decide) ?_
      exact tw_iret E hS (1, 0) (Or.inl ⟨rfl, is_inZ h8⟩) hP hD d_Mod_feed_39
set_option maxHeartbeats 4000000 in
set_option maxRecDepth 100000 in
theorem c_Mod_put (l : Launch) (g : tw_G) (sz : Nat) (h0 : Nat) (q : Nat → Nat) (v : Nat → Int32) (n : Nat) (f : Nat → Int32) (pl x : Int32) (hn : n ≤ 600) : Met l y_Mod_put [.code y_Mod_put b_Mod_put 4 (some .int)] ({ frames := 1, cells := 0, slots := 0, locals := 22 }) (tw_P g [.ref h0, .int pl, .int x] [(h0, .inr (10, mo q (upd v 1 (nI n)))), ((q 2), aI g 600 f)] sz) (tw_Qi g (fun r (u : Int32 × Nat) => (u.1 = 1 ∧ (pl < 0 ∨ nI n ≤ pl)) ∨ (u.1 = 2 ∧ ¬ pl < 0 ∧ pl < nI n ∧ (x < 0 ∨ 255 < x)) ∨ (u.1 = 0 ∧ pl = nI u.2 ∧ u.2 < n ∧ ¬ x < 0 ∧ x ≤ 255 ∧ r = f u.2)) (fun u : Int32 × Nat => [(h0, .inr (10, mo q (upd (upd v 0 u.1) 1 (nI n)))), ((q 2), aI g 600 (if u.1 = 0 then upd f u.2 x else f))]) (va_A [(h0, .inr (10, mo q (upd v 1 (nI n)))), ((q 2), aI g 600 f)] sz)) 0 0 (va_A [(h0, .inr (10, mo q (upd v 1 (nI n)))), ((q 2), aI g 600 f)] sz) := by
  refine tw_metW (l := l) (g := g) (y := y_Mod_put) (cc := b_Mod_put) (maxL := 4) (ret := (some .int)) (rm := { frames := 1, cells := 0, slots := 0, locals := 22 }) (mc := 0) (ms := 0) (av := [.ref h0, .int pl, .int x]) (ws := [(h0, .inr (10, mo q (upd v 1 (nI n)))), ((q 2), aI g 600 f)]) (sz := sz) (Qc := fun A => (tw_Qi g (fun r (u : Int32 × Nat) => (u.1 = 1 ∧ (pl < 0 ∨ nI n ≤ pl)) ∨ (u.1 = 2 ∧ ¬ pl < 0 ∧ pl < nI n ∧ (x < 0 ∨ 255 < x)) ∨ (u.1 = 0 ∧ pl = nI u.2 ∧ u.2 < n ∧ ¬ x < 0 ∧ x ≤ 255 ∧ r = f u.2)) (fun u : Int32 × Nat => [(h0, .inr (10, mo q (upd (upd v 0 u.1) 1 (nI n)))), ((q 2), aI g 600 (if u.1 = 0 then upd f u.2 x else f))]) A)) (by decide) (Nat.le_of_ble_eq_true rfl) ?_
  intro p e s m below meth c ls H A E hB hK hZ hP hD hS hA hl
  obtain ⟨hx, hb, hml, hr, hown, hts, hlocks, hin⟩ := id E
  have hl : lv_has ls 4 [(0, .ref h0), (1, .int pl), (2, .int x)] := hl
  refine lv_aload_n hx hb d_Mod_put_0 rfl (lv_at hl 0 rfl) ?_
  refine lv_iload_n hx hb d_Mod_put_1 rfl (lv_at hl 1 rfl) ?_
  refine lv_iconst (v := 0) hx hb d_Mod_put_2 (by decide) ?_
  refine lv_aload_n hx hb d_Mod_put_3 rfl (lv_at hl 0 rfl) ?_
  refine va_get (D := g.1) (ci := 10) (v := .int (nI n)) (C := R_Mod) (T := F_Mod) (N := 61) hx hb hts in_Mod hown hK hP 0 rfl rfl 1 (by decide) (hts _ wd_1251) (fun _ h9 => h9) rfl d_Mod_put_4 ?_
  refine lv_iconst (v := 1) hx hb d_Mod_put_7 (by decide) ?_
  refine lv_isub hx hb d_Mod_put_8 ?_
  refine tw_si (tw_runS (ws := [(h0, .inr (10, mo q (upd v 1 (nI n)))), ((q 2), aI g 600 f)]) (wc := []) (As := [.int pl, .int 0, .int ((nI n) - 1)]) (rest := [.ref h0]) E hB hK hZ (c_Mod_isIn l g H.size pl 0 (nI n - 1)) mc_Mod_isIn ms_Mod_isIn wd_1443 hP hD hS hA [] rfl (by decide) rfl rfl (by decide) rfl hl.1 rfl (Nat.le_of_ble_eq_true rfl) (by decide) d_Mod_put_9) (fun r1 hr1 => ?_)
  obtain rfl : r1 = is_in pl 0 (nI n - 1) := hr1
  refine lv_if_ne (tgt := 19) hx hb d_Mod_put_12 (by decide) (fun h12 => ?_) (fun h12 => ?_)
  · obtain ⟨i1, i2⟩ := is_inN h12
    have i2 := tn_isubN i1 i2 hn
    refine lv_iload_n hx hb d_Mod_put_19 rfl (lv_at hl 2 rfl) ?_
    refine lv_iconst (v := 0) hx hb d_Mod_put_20 (by decide) ?_
    refine lv_sipush (v := 255) hx hb d_Mod_put_21 (by decide) ?_
    refine tw_si (tw_runS (ws := [(h0, .inr (10, mo q (upd v 1 (nI n)))), ((q 2), aI g 600 f)]) (wc := []) (As := [.int x, .int 0, .int 255]) (rest := [.ref h0]) E hB hK hZ (c_Mod_isIn l g H.size x 0 255) mc_Mod_isIn ms_Mod_isIn wd_1443 hP hD hS hA [] rfl (by decide) rfl rfl (by decide) rfl hl.1 rfl (Nat.le_of_ble_eq_true rfl) (by decide) d_Mod_put_24) (fun r2 hr2 => ?_)
    obtain rfl : r2 = is_in x 0 255 := hr2
    refine lv_if_ne (tgt := 34) hx hb d_Mod_put_27 (by decide) (fun h27 => ?_) (fun h27 => ?_)
    · obtain ⟨i3, i4⟩ := is_inN h27
      obtain ⟨j, hj, hje⟩ := nI_of i1
      subst hje
      have hj := tn_lt i2 (by omega) (by omega)
      refine lv_iconst (v := 0) hx hb d_Mod_put_34 (by decide) ?_
      refine tw_wi (wr := [((q 2), aI g 600 f)]) (tw_runV (ws := [(h0, .inr (10, mo q (upd v 1 (nI n)))), ((q 2), aI g 600 f)]) (wc := [(h0, .inr (10, mo q (upd v 1 (nI n))))]) (As := [.int 0]) (rest := []) E hB hK hZ (c_Mod_refused l g H.size h0 q (upd v 1 (nI n)) 0) mc_Mod_refused mi_Mod_refused me_Mod_refused wd_1446 hP hD hS hA [0] rfl (by decide) 0 rfl rfl rfl rfl rfl (by decide) rfl hl.1 rfl (Nat.le_of_ble_eq_true rfl) (by decide) d_Mod_put_35) hP hD hS hA [0] [1] rfl rfl (by decide) (by decide) (fun r3 u4 H locs hr3 hP hD hS => ?_)
      try dsimp only at hr3
      have hP : va_P g.1 classes [((q 2), aI g 600 f), (h0, .inr (10, mo q (upd (upd v 0 0) 1 (nI n))))] H := hP
      have hD : va_D A [((q 2), aI g 600 f), (h0, .inr (10, mo q (upd (upd v 0 0) 1 (nI n))))] := hD
      obtain rfl : r3 = 0 := hr3.trans (by decide)
      have hP : va_P g.1 classes [(h0, .inr (10, mo q (upd (upd v 0 0) 1 (nI n)))), ((q 2), aI g 600 f)] H := hP.sub [1, 0] rfl
      have hD : va_D A [(h0, .inr (10, mo q (upd (upd v 0 0) 1 (nI n)))), ((q 2), aI g 600 f)] := hD.sub [1, 0] (by decide) rfl
      refine lv_if_eq (tgt := 43) hx hb d_Mod_put_38 (by decide) (fun h38 => ?_) (fun h38 => ?_)
      · refine lv_aload_n hx hb d_Mod_put_43 rfl (lv_at hl 0 rfl) ?_
        refine va_get (D := g.1) (ci := 10) (v := .ref (q 2)) (C := R_Mod) (T := F_Mod) (N := 61) hx hb hts in_Mod hown hK hP 0 rfl rfl 2 (by decide) (hts _ wd_1252) (fun _ h9 => h9) rfl d_Mod_put_44 ?_
        refine lv_iload_n hx hb d_Mod_put_47 rfl (lv_at hl 1 rfl) ?_
        refine va_iald hx hb hK hP 1 0 rfl rfl (vp_in_nI (by omega) (by decide)) d_Mod_put_48 ?_
        refine lv_istore_n hx hb d_Mod_put_49 rfl hl (by decide) rfl (fun ls hl => ?_)
        have hl : lv_has ls 4 [(3, .int (f (nI j).toNatClampNeg)), (0, .ref h0), (1, .int (nI j)), (2, .int x)] := hl
        refine lv_aload_n hx hb d_Mod_put_50 rfl (lv_at hl 1 rfl) ?_
        refine va_get (D := g.1) (ci := 10) (v := .ref (q 2)) (C := R_Mod) (T := F_Mod) (N := 61) hx hb hts in_Mod hown hK hP 0 rfl rfl 2 (by decide) (hts _ wd_1252) (fun _ h9 => h9) rfl d_Mod_put_51 ?_
        refine lv_iload_n hx hb d_Mod_put_54 rfl (lv_at hl 2 rfl) ?_
        refine lv_iload_n hx hb d_Mod_put_55 rfl (lv_at hl 3 rfl) ?_
        refine va_iast hx hb hK hP hD hS 1 0 rfl rfl (vp_in_nI (by omega) (by decide)) d_Mod_put_56 (fun H locs hP hD hS => ?_)
        have hP : va_P g.1 classes [(h0, .inr (10, mo q (upd (upd v 0 0) 1 (nI n)))), ((q 2), aI g 600 (upd f (nI j).toNatClampNeg x))] H := hP
        have hD : va_D A [(h0, .inr (10, mo q (upd (upd v 0 0) 1 (nI n)))), ((q 2), aI g 600 (upd f (nI j).toNatClampNeg x))] := hD
        refine lv_iload_n hx hb d_Mod_put_57 rfl (lv_at hl 0 rfl) ?_
        rw [nI_clamp (by omega)] at hP hD
        exact tw_iret E hS (0, j) (Or.inr (Or.inr ⟨rfl, rfl, hj, i3, Int32.not_lt.mp i4, by rw [nI_clamp (by omega)]⟩)) hP hD d_Mod_put_58
      · exact absurd rfl h38
    · refine lv_iconst (v := 2) hx hb d_Mod_put_30 (by decide) ?_
      refine lv_goto (tgt := 35) hx hb d_Mod_put_31 (by decide) ?_
      refine tw_wi (wr := [((q 2), aI g 600 f)]) (tw_runV (ws := [(h0, .inr (10, mo q (upd v 1 (nI n)))), ((q 2), aI g 600 f)]) (wc := [(h0, .inr (10, mo q (upd v 1 (nI n))))]) (As := [.int 2]) (rest := []) E hB hK hZ (c_Mod_refused l g H.size h0 q (upd v 1 (nI n)) 2) mc_Mod_refused mi_Mod_refused me_Mod_refused wd_1446 hP hD hS hA [0] rfl (by decide) 0 rfl rfl rfl rfl rfl (by decide) rfl hl.1 rfl (Nat.le_of_ble_eq_true rfl) (by decide) d_Mod_put_35) hP hD hS hA [0] [1] rfl rfl (by decide) (by decide) (fun r5 u6 H locs hr5 hP hD hS => ?_)
      try dsimp only at hr5
      have hP : va_P g.1 classes [((q 2), aI g 600 f), (h0, .inr (10, mo q (upd (upd v 0 2) 1 (nI n))))] H := hP
      have hD : va_D A [((q 2), aI g 600 f), (h0, .inr (10, mo q (upd (upd v 0 2) 1 (nI n))))] := hD
      obtain rfl : r5 = 1 := hr5.trans (by decide)
      have hP : va_P g.1 classes [(h0, .inr (10, mo q (upd (upd v 0 2) 1 (nI n)))), ((q 2), aI g 600 f)] H := hP.sub [1, 0] rfl
      have hD : va_D A [(h0, .inr (10, mo q (upd (upd v 0 2) 1 (nI n)))), ((q 2), aI g 600 f)] := hD.sub [1, 0] (by decide) rfl
      refine lv_if_eq (tgt := 43) hx hb d_Mod_put_38 (by decide) (fun h38 => ?_) (fun h38 => ?_)
      · exact absurd h38 (by decide)
      · refine lv_iconst (v := 0) hx hb d_Mod_put_41 (by decide) ?_
        exact tw_iret E hS (2, 0) (Or.inr (Or.inl ⟨rfl, i1, i2, is_inZ h27⟩)) hP hD d_Mod_put_42
  · refine lv_iconst (v := 1) hx hb d_Mod_put_15 (by decide) ?_
    refine lv_goto (tgt := 35) hx hb d_Mod_put_16 (by decide) ?_
    refine tw_wi (wr := [((q 2), aI g 600 f)]) (tw_runV (ws := [(h0, .inr (10, mo q (upd v 1 (nI n)))), ((q 2), aI g 600 f)]) (wc := [(h0, .inr (10, mo q (upd v 1 (nI n))))]) (As := [.int 1]) (rest := []) E hB hK hZ (c_Mod_refused l g H.size h0 q (upd v 1 (nI n)) 1) mc_Mod_refused mi_Mod_refused me_Mod_refused wd_1446 hP hD hS hA [0] rfl (by decide) 0 rfl rfl rfl rfl rfl (by decide) rfl hl.1 rfl (Nat.le_of_ble_eq_true rfl) (by decide) d_Mod_put_35) hP hD hS hA [0] [1] rfl rfl (by decide) (by decide) (fun r7 u8 H locs hr7 hP hD hS => ?_)
    try dsimp only at hr7
    have hP : va_P g.1 classes [((q 2), aI g 600 f), (h0, .inr (10, mo q (upd (upd v 0 1) 1 (nI n))))] H := hP
    have hD : va_D A [((q 2), aI g 600 f), (h0, .inr (10, mo q (upd (upd v 0 1) 1 (nI n))))] := hD
    obtain rfl : r7 = 1 := hr7.trans (by decide)
    have hP : va_P g.1 classes [(h0, .inr (10, mo q (upd (upd v 0 1) 1 (nI n)))), ((q 2), aI g 600 f)] H := hP.sub [1, 0] rfl
    have hD : va_D A [(h0, .inr (10, mo q (upd (upd v 0 1) 1 (nI n)))), ((q 2), aI g 600 f)] := hD.sub [1, 0] (by decide) rfl
    refine lv_if_eq (tgt := 43) hx hb d_Mod_put_38 (by decide) (fun h38 => ?_) (fun h38 => ?_)
    · exact absurd h38 (by decide)
    · refine lv_iconst (v := 0) hx hb d_Mod_put_41 (by decide) ?_
      exact tw_iret E hS (1, 0) (Or.inl ⟨rfl, tn_isubZ (is_inZ h12) hn⟩) hP hD d_Mod_put_42
set_option maxHeartbeats 4000000 in
set_option maxRecDepth 100000 in
theorem c_Mod_cut (l : Launch) (g : tw_G) (sz : Nat) (h0 : Nat) (q : Nat → Nat) (v : Nat → Int32) (n : Nat) (kc : Int32) (hn : n ≤ 600) : Met l y_Mod_cut [.code y_Mod_cut b_Mod_cut 3 (some .int)] ({ frames := 1, cells := 0, slots := 0, locals := 22 }) (tw_P g [.ref h0, .int kc] [(h0, .inr (10, mo q (upd v 1 (nI n))))] sz) (tw_Qi g (fun r (u : Int32 × Nat) => (u = (1, n) ∧ (kc < 0 ∨ nI n < kc)) ∨ (u.1 = 0 ∧ kc = nI u.2 ∧ u.2 ≤ n ∧ r = nI (n - u.2))) (fun u : Int32 × Nat => [(h0, .inr (10, mo q (upd (upd v 0 u.1) 1 (nI u.2))))]) (va_A [(h0, .inr (10, mo q (upd v 1 (nI n))))] sz)) 0 0 (va_A [(h0, .inr (10, mo q (upd v 1 (nI n))))] sz) := by
  refine tw_metW (l := l) (g := g) (y := y_Mod_cut) (cc := b_Mod_cut) (maxL := 3) (ret := (some .int)) (rm := { frames := 1, cells := 0, slots := 0, locals := 22 }) (mc := 0) (ms := 0) (av := [.ref h0, .int kc]) (ws := [(h0, .inr (10, mo q (upd v 1 (nI n))))]) (sz := sz) (Qc := fun A => (tw_Qi g (fun r (u : Int32 × Nat) => (u = (1, n) ∧ (kc < 0 ∨ nI n < kc)) ∨ (u.1 = 0 ∧ kc = nI u.2 ∧ u.2 ≤ n ∧ r = nI (n - u.2))) (fun u : Int32 × Nat => [(h0, .inr (10, mo q (upd (upd v 0 u.1) 1 (nI u.2))))]) A)) (by decide) (Nat.le_of_ble_eq_true rfl) ?_
  intro p e s m below meth c ls H A E hB hK hZ hP hD hS hA hl
  obtain ⟨hx, hb, hml, hr, hown, hts, hlocks, hin⟩ := id E
  have hl : lv_has ls 3 [(0, .ref h0), (1, .int kc)] := hl
  refine lv_aload_n hx hb d_Mod_cut_0 rfl (lv_at hl 0 rfl) ?_
  refine lv_iload_n hx hb d_Mod_cut_1 rfl (lv_at hl 1 rfl) ?_
  refine lv_iconst (v := 0) hx hb d_Mod_cut_2 (by decide) ?_
  refine lv_aload_n hx hb d_Mod_cut_3 rfl (lv_at hl 0 rfl) ?_
  refine va_get (D := g.1) (ci := 10) (v := .int (nI n)) (C := R_Mod) (T := F_Mod) (N := 61) hx hb hts in_Mod hown hK hP 0 rfl rfl 1 (by decide) (hts _ wd_1251) (fun _ h9 => h9) rfl d_Mod_cut_4 ?_
  refine tw_si (tw_runS (ws := [(h0, .inr (10, mo q (upd v 1 (nI n))))]) (wc := []) (As := [.int kc, .int 0, .int (nI n)]) (rest := [.ref h0]) E hB hK hZ (c_Mod_isIn l g H.size kc 0 (nI n)) mc_Mod_isIn ms_Mod_isIn wd_1443 hP hD hS hA [] rfl (by decide) rfl rfl (by decide) rfl hl.1 rfl (Nat.le_of_ble_eq_true rfl) (by decide) d_Mod_cut_7) (fun r1 hr1 => ?_)
  obtain rfl : r1 = is_in kc 0 (nI n) := hr1
  refine lv_if_eq (tgt := 17) hx hb d_Mod_cut_10 (by decide) (fun h10 => ?_) (fun h10 => ?_)
  · refine lv_iconst (v := 1) hx hb d_Mod_cut_17 (by decide) ?_
    refine tw_wi (wr := []) (tw_runV (ws := [(h0, .inr (10, mo q (upd v 1 (nI n))))]) (wc := [(h0, .inr (10, mo q (upd v 1 (nI n))))]) (As := [.int 1]) (rest := []) E hB hK hZ (c_Mod_refused l g H.size h0 q (upd v 1 (nI n)) 1) mc_Mod_refused mi_Mod_refused me_Mod_refused wd_1446 hP hD hS hA [0] rfl (by decide) 0 rfl rfl rfl rfl rfl (by decide) rfl hl.1 rfl (Nat.le_of_ble_eq_true rfl) (by decide) d_Mod_cut_18) hP hD hS hA [0] [] rfl rfl (by decide) (by decide) (fun r2 u3 H locs hr2 hP hD hS => ?_)
    try dsimp only at hr2
    have hP : va_P g.1 classes [(h0, .inr (10, mo q (upd (upd v 0 1) 1 (nI n))))] H := hP
    have hD : va_D A [(h0, .inr (10, mo q (upd (upd v 0 1) 1 (nI n))))] := hD
    obtain rfl : r2 = 1 := hr2.trans (by decide)
    have hP : va_P g.1 classes [(h0, .inr (10, mo q (upd (upd v 0 1) 1 (nI n))))] H := hP.sub [0] rfl
    have hD : va_D A [(h0, .inr (10, mo q (upd (upd v 0 1) 1 (nI n))))] := hD.sub [0] (by decide) rfl
    refine lv_if_eq (tgt := 26) hx hb d_Mod_cut_21 (by decide) (fun h21 => ?_) (fun h21 => ?_)
    · exact absurd h21 (by decide)
    · refine lv_iconst (v := 0) hx hb d_Mod_cut_24 (by decide) ?_
      exact tw_iret E hS (1, n) (Or.inl ⟨rfl, is_inZ h10⟩) hP hD d_Mod_cut_25
  · obtain ⟨i1, i2⟩ := is_inN h10
    obtain ⟨j, hj, hje⟩ := nI_of i1
    subst hje
    have hj := tn_nlt i2 (by omega) (by omega)
    refine lv_iconst (v := 0) hx hb d_Mod_cut_13 (by decide) ?_
    refine lv_goto (tgt := 18) hx hb d_Mod_cut_14 (by decide) ?_
    refine tw_wi (wr := []) (tw_runV (ws := [(h0, .inr (10, mo q (upd v 1 (nI n))))]) (wc := [(h0, .inr (10, mo q (upd v 1 (nI n))))]) (As := [.int 0]) (rest := []) E hB hK hZ (c_Mod_refused l g H.size h0 q (upd v 1 (nI n)) 0) mc_Mod_refused mi_Mod_refused me_Mod_refused wd_1446 hP hD hS hA [0] rfl (by decide) 0 rfl rfl rfl rfl rfl (by decide) rfl hl.1 rfl (Nat.le_of_ble_eq_true rfl) (by decide) d_Mod_cut_18) hP hD hS hA [0] [] rfl rfl (by decide) (by decide) (fun r4 u5 H locs hr4 hP hD hS => ?_)
    try dsimp only at hr4
    have hP : va_P g.1 classes [(h0, .inr (10, mo q (upd (upd v 0 0) 1 (nI n))))] H := hP
    have hD : va_D A [(h0, .inr (10, mo q (upd (upd v 0 0) 1 (nI n))))] := hD
    obtain rfl : r4 = 0 := hr4.trans (by decide)
    have hP : va_P g.1 classes [(h0, .inr (10, mo q (upd (upd v 0 0) 1 (nI n))))] H := hP.sub [0] rfl
    have hD : va_D A [(h0, .inr (10, mo q (upd (upd v 0 0) 1 (nI n))))] := hD.sub [0] (by decide) rfl
    refine lv_if_eq (tgt := 26) hx hb d_Mod_cut_21 (by decide) (fun h21 => ?_) (fun h21 => ?_)
    · refine lv_aload_n hx hb d_Mod_cut_26 rfl (lv_at hl 0 rfl) ?_
      refine va_get (D := g.1) (ci := 10) (v := .int (nI n)) (C := R_Mod) (T := F_Mod) (N := 61) hx hb hts in_Mod hown hK hP 0 rfl rfl 1 (by decide) (hts _ wd_1251) (fun _ h9 => h9) rfl d_Mod_cut_27 ?_
      refine lv_iload_n hx hb d_Mod_cut_30 rfl (lv_at hl 1 rfl) ?_
      refine lv_isub hx hb d_Mod_cut_31 ?_
      refine tw_ri (e2 := nI (n - j)) (pk_sub hj) ?_
      refine lv_istore_n hx hb d_Mod_cut_32 rfl hl (by decide) rfl (fun ls hl => ?_)
      have hl : lv_has ls 3 [(2, .int (nI (n - j))), (0, .ref h0), (1, .int (nI j))] := hl
      refine lv_aload_n hx hb d_Mod_cut_33 rfl (lv_at hl 1 rfl) ?_
      refine lv_iload_n hx hb d_Mod_cut_34 rfl (lv_at hl 2 rfl) ?_
      refine va_put (D := g.1) (ci := 10) (v := .int (nI j)) (ty := .int) (C := R_Mod) (T := F_Mod) (N := 61) hx hb hts in_Mod t_Mod t_Mod_ok n_Mod hown hK hP hD hS 0 rfl rfl 1 (by decide) (hts _ wd_1251) (fun _ h9 => h9) rfl (t_Mod_ok 1 (by decide)) rfl rfl (Nat.le_of_ble_eq_true rfl) d_Mod_cut_35 (fun H locs hP hD hS => ?_)
      have hP : va_P g.1 classes [(h0, .inr (10, mo q (upd (upd v 0 0) 1 (nI j))))] H := hP
      have hD : va_D A [(h0, .inr (10, mo q (upd (upd v 0 0) 1 (nI j))))] := hD
      refine lv_iload_n hx hb d_Mod_cut_38 rfl (lv_at hl 0 rfl) ?_
      exact tw_iret E hS (0, j) (Or.inr ⟨rfl, rfl, hj, rfl⟩) hP hD d_Mod_cut_39
    · exact absurd rfl h21
set_option maxHeartbeats 4000000 in
set_option maxRecDepth 100000 in
theorem c_Mod_limit (l : Launch) (g : tw_G) (sz : Nat) (h0 : Nat) (q : Nat → Nat) (v : Nat → Int32) (mm mb wh k : Int32) : Met l y_Mod_limit [.code y_Mod_limit b_Mod_limit 4 (some .int)] ({ frames := 1, cells := 0, slots := 0, locals := 22 }) (tw_P g [.ref h0, .int wh, .int k] [(h0, .inr (10, mo q (upd (upd v 6 mm) 7 mb)))] sz) (tw_Qi g (fun r (u : Int32 × Int32 × Int32) => (u = (1, mm, mb) ∧ (wh < 0 ∨ 1 < wh ∨ k < 0 ∨ 600 < k)) ∨ (u.1 = 0 ∧ ¬ k < 0 ∧ k ≤ 600 ∧ ((wh = 0 ∧ r = mm ∧ u.2 = (k, mb)) ∨ (wh = 1 ∧ r = mb ∧ u.2 = (mm, k))))) (fun u : Int32 × Int32 × Int32 => [(h0, .inr (10, mo q (upd (upd (upd v 0 u.1) 6 u.2.1) 7 u.2.2)))]) (va_A [(h0, .inr (10, mo q (upd (upd v 6 mm) 7 mb)))] sz)) 0 0 (va_A [(h0, .inr (10, mo q (upd (upd v 6 mm) 7 mb)))] sz) := by
  refine tw_metW (l := l) (g := g) (y := y_Mod_limit) (cc := b_Mod_limit) (maxL := 4) (ret := (some .int)) (rm := { frames := 1, cells := 0, slots := 0, locals := 22 }) (mc := 0) (ms := 0) (av := [.ref h0, .int wh, .int k]) (ws := [(h0, .inr (10, mo q (upd (upd v 6 mm) 7 mb)))]) (sz := sz) (Qc := fun A => (tw_Qi g (fun r (u : Int32 × Int32 × Int32) => (u = (1, mm, mb) ∧ (wh < 0 ∨ 1 < wh ∨ k < 0 ∨ 600 < k)) ∨ (u.1 = 0 ∧ ¬ k < 0 ∧ k ≤ 600 ∧ ((wh = 0 ∧ r = mm ∧ u.2 = (k, mb)) ∨ (wh = 1 ∧ r = mb ∧ u.2 = (mm, k))))) (fun u : Int32 × Int32 × Int32 => [(h0, .inr (10, mo q (upd (upd (upd v 0 u.1) 6 u.2.1) 7 u.2.2)))]) A)) (by decide) (Nat.le_of_ble_eq_true rfl) ?_
  intro p e s m below meth c ls H A E hB hK hZ hP hD hS hA hl
  obtain ⟨hx, hb, hml, hr, hown, hts, hlocks, hin⟩ := id E
  have hl : lv_has ls 4 [(0, .ref h0), (1, .int wh), (2, .int k)] := hl
  refine lv_aload_n hx hb d_Mod_limit_0 rfl (lv_at hl 0 rfl) ?_
  refine lv_iload_n hx hb d_Mod_limit_1 rfl (lv_at hl 1 rfl) ?_
  refine lv_iconst (v := 0) hx hb d_Mod_limit_2 (by decide) ?_
  refine lv_iconst (v := 1) hx hb d_Mod_limit_3 (by decide) ?_
  refine tw_si (tw_runS (ws := [(h0, .inr (10, mo q (upd (upd v 6 mm) 7 mb)))]) (wc := []) (As := [.int wh, .int 0, .int 1]) (rest := [.ref h0]) E hB hK hZ (c_Mod_isIn l g H.size wh 0 1) mc_Mod_isIn ms_Mod_isIn wd_1443 hP hD hS hA [] rfl (by decide) rfl rfl (by decide) rfl hl.1 rfl (Nat.le_of_ble_eq_true rfl) (by decide) d_Mod_limit_4) (fun r1 hr1 => ?_)
  obtain rfl : r1 = is_in wh 0 1 := hr1
  refine lv_if_eq (tgt := 25) hx hb d_Mod_limit_7 (by decide) (fun h7 => ?_) (fun h7 => ?_)
  · refine lv_iconst (v := 1) hx hb d_Mod_limit_25 (by decide) ?_
    refine tw_wi (wr := []) (tw_runV (ws := [(h0, .inr (10, mo q (upd (upd v 6 mm) 7 mb)))]) (wc := [(h0, .inr (10, mo q (upd (upd v 6 mm) 7 mb)))]) (As := [.int 1]) (rest := []) E hB hK hZ (c_Mod_refused l g H.size h0 q (upd (upd v 6 mm) 7 mb) 1) mc_Mod_refused mi_Mod_refused me_Mod_refused wd_1446 hP hD hS hA [0] rfl (by decide) 0 rfl rfl rfl rfl rfl (by decide) rfl hl.1 rfl (Nat.le_of_ble_eq_true rfl) (by decide) d_Mod_limit_26) hP hD hS hA [0] [] rfl rfl (by decide) (by decide) (fun r2 u3 H locs hr2 hP hD hS => ?_)
    try dsimp only at hr2
    have hP : va_P g.1 classes [(h0, .inr (10, mo q (upd (upd (upd v 0 1) 6 mm) 7 mb)))] H := hP
    have hD : va_D A [(h0, .inr (10, mo q (upd (upd (upd v 0 1) 6 mm) 7 mb)))] := hD
    obtain rfl : r2 = 1 := hr2.trans (by decide)
    have hP : va_P g.1 classes [(h0, .inr (10, mo q (upd (upd (upd v 0 1) 6 mm) 7 mb)))] H := hP.sub [0] rfl
    have hD : va_D A [(h0, .inr (10, mo q (upd (upd (upd v 0 1) 6 mm) 7 mb)))] := hD.sub [0] (by decide) rfl
    refine lv_if_eq (tgt := 34) hx hb d_Mod_limit_29 (by decide) (fun h29 => ?_) (fun h29 => ?_)
    · exact absurd h29 (by decide)
    · refine lv_iconst (v := 0) hx hb d_Mod_limit_32 (by decide) ?_
      exact tw_iret E hS (1, mm, mb) (Or.inl ⟨rfl, by first | exact (is_inZ h7).elim Or.inl (fun h => Or.inr (Or.inl h)) | exact (is_inZ h18).elim (fun h => Or.inr (Or.inr (Or.inl h))) (fun h => Or.inr (Or.inr (Or.inr h)))⟩) hP hD d_Mod_limit_33
  · obtain ⟨i1, i2⟩ := is_inN h7
    refine lv_iload_n hx hb d_Mod_limit_10 rfl (lv_at hl 2 rfl) ?_
    refine lv_iconst (v := 0) hx hb d_Mod_limit_11 (by decide) ?_
    refine lv_sipush (v := 600) hx hb d_Mod_limit_12 (by decide) ?_
    refine tw_si (tw_runS (ws := [(h0, .inr (10, mo q (upd (upd v 6 mm) 7 mb)))]) (wc := []) (As := [.int k, .int 0, .int 600]) (rest := [.ref h0]) E hB hK hZ (c_Mod_isIn l g H.size k 0 600) mc_Mod_isIn ms_Mod_isIn wd_1443 hP hD hS hA [] rfl (by decide) rfl rfl (by decide) rfl hl.1 rfl (Nat.le_of_ble_eq_true rfl) (by decide) d_Mod_limit_15) (fun r4 hr4 => ?_)
    obtain rfl : r4 = is_in k 0 600 := hr4
    refine lv_if_eq (tgt := 25) hx hb d_Mod_limit_18 (by decide) (fun h18 => ?_) (fun h18 => ?_)
    · refine lv_iconst (v := 1) hx hb d_Mod_limit_25 (by decide) ?_
      refine tw_wi (wr := []) (tw_runV (ws := [(h0, .inr (10, mo q (upd (upd v 6 mm) 7 mb)))]) (wc := [(h0, .inr (10, mo q (upd (upd v 6 mm) 7 mb)))]) (As := [.int 1]) (rest := []) E hB hK hZ (c_Mod_refused l g H.size h0 q (upd (upd v 6 mm) 7 mb) 1) mc_Mod_refused mi_Mod_refused me_Mod_refused wd_1446 hP hD hS hA [0] rfl (by decide) 0 rfl rfl rfl rfl rfl (by decide) rfl hl.1 rfl (Nat.le_of_ble_eq_true rfl) (by decide) d_Mod_limit_26) hP hD hS hA [0] [] rfl rfl (by decide) (by decide) (fun r5 u6 H locs hr5 hP hD hS => ?_)
      try dsimp only at hr5
      have hP : va_P g.1 classes [(h0, .inr (10, mo q (upd (upd (upd v 0 1) 6 mm) 7 mb)))] H := hP
      have hD : va_D A [(h0, .inr (10, mo q (upd (upd (upd v 0 1) 6 mm) 7 mb)))] := hD
      obtain rfl : r5 = 1 := hr5.trans (by decide)
      have hP : va_P g.1 classes [(h0, .inr (10, mo q (upd (upd (upd v 0 1) 6 mm) 7 mb)))] H := hP.sub [0] rfl
      have hD : va_D A [(h0, .inr (10, mo q (upd (upd (upd v 0 1) 6 mm) 7 mb)))] := hD.sub [0] (by decide) rfl
      refine lv_if_eq (tgt := 34) hx hb d_Mod_limit_29 (by decide) (fun h29 => ?_) (fun h29 => ?_)
      · exact absurd h29 (by decide)
      · refine lv_iconst (v := 0) hx hb d_Mod_limit_32 (by decide) ?_
        exact tw_iret E hS (1, mm, mb) (Or.inl ⟨rfl, by first | exact (is_inZ h7).elim Or.inl (fun h => Or.inr (Or.inl h)) | exact (is_inZ h18).elim (fun h => Or.inr (Or.inr (Or.inl h))) (fun h => Or.inr (Or.inr (Or.inr h)))⟩) hP hD d_Mod_limit_33
    · obtain ⟨i3, i4⟩ := is_inN h18
      refine lv_iconst (v := 0) hx hb d_Mod_limit_21 (by decide) ?_
      refine lv_goto (tgt := 26) hx hb d_Mod_limit_22 (by decide) ?_
      refine tw_wi (wr := []) (tw_runV (ws := [(h0, .inr (10, mo q (upd (upd v 6 mm) 7 mb)))]) (wc := [(h0, .inr (10, mo q (upd (upd v 6 mm) 7 mb)))]) (As := [.int 0]) (rest := []) E hB hK hZ (c_Mod_refused l g H.size h0 q (upd (upd v 6 mm) 7 mb) 0) mc_Mod_refused mi_Mod_refused me_Mod_refused wd_1446 hP hD hS hA [0] rfl (by decide) 0 rfl rfl rfl rfl rfl (by decide) rfl hl.1 rfl (Nat.le_of_ble_eq_true rfl) (by decide) d_Mod_limit_26) hP hD hS hA [0] [] rfl rfl (by decide) (by decide) (fun r7 u8 H locs hr7 hP hD hS => ?_)
      try dsimp only at hr7
      have hP : va_P g.1 classes [(h0, .inr (10, mo q (upd (upd (upd v 0 0) 6 mm) 7 mb)))] H := hP
      have hD : va_D A [(h0, .inr (10, mo q (upd (upd (upd v 0 0) 6 mm) 7 mb)))] := hD
      obtain rfl : r7 = 0 := hr7.trans (by decide)
      have hP : va_P g.1 classes [(h0, .inr (10, mo q (upd (upd (upd v 0 0) 6 mm) 7 mb)))] H := hP.sub [0] rfl
      have hD : va_D A [(h0, .inr (10, mo q (upd (upd (upd v 0 0) 6 mm) 7 mb)))] := hD.sub [0] (by decide) rfl
      refine lv_if_eq (tgt := 34) hx hb d_Mod_limit_29 (by decide) (fun h29 => ?_) (fun h29 => ?_)
      · refine lv_iload_n hx hb d_Mod_limit_34 rfl (lv_at hl 1 rfl) ?_
        refine lv_if_ne (tgt := 45) hx hb d_Mod_limit_35 (by decide) (fun h35 => ?_) (fun h35 => ?_)
        · refine lv_aload_n hx hb d_Mod_limit_45 rfl (lv_at hl 0 rfl) ?_
          refine va_get (D := g.1) (ci := 10) (v := .int mb) (C := R_Mod) (T := F_Mod) (N := 61) hx hb hts in_Mod hown hK hP 0 rfl rfl 7 (by decide) (hts _ wd_1257) (fun _ h9 => h9) rfl d_Mod_limit_46 ?_
          refine lv_istore_n hx hb d_Mod_limit_49 rfl hl (by decide) rfl (fun ls hl => ?_)
          have hl : lv_has ls 4 [(3, .int mb), (0, .ref h0), (1, .int wh), (2, .int k)] := hl
          refine lv_aload_n hx hb d_Mod_limit_50 rfl (lv_at hl 1 rfl) ?_
          refine lv_iload_n hx hb d_Mod_limit_51 rfl (lv_at hl 2 rfl) ?_
          refine lv_if_ne (tgt := 59) hx hb d_Mod_limit_52 (by decide) (fun h52 => ?_) (fun h52 => ?_)
          · refine lv_aload_n hx hb d_Mod_limit_59 rfl (lv_at hl 1 rfl) ?_
            refine va_get (D := g.1) (ci := 10) (v := .int mm) (C := R_Mod) (T := F_Mod) (N := 61) hx hb hts in_Mod hown hK hP 0 rfl rfl 6 (by decide) (hts _ wd_1256) (fun _ h9 => h9) rfl d_Mod_limit_60 ?_
            refine va_put (D := g.1) (ci := 10) (v := .int mm) (ty := .int) (C := R_Mod) (T := F_Mod) (N := 61) hx hb hts in_Mod t_Mod t_Mod_ok n_Mod hown hK hP hD hS 0 rfl rfl 6 (by decide) (hts _ wd_1256) (fun _ h9 => h9) rfl (t_Mod_ok 6 (by decide)) rfl rfl (Nat.le_of_ble_eq_true rfl) d_Mod_limit_63 (fun H locs hP hD hS => ?_)
            have hP : va_P g.1 classes [(h0, .inr (10, mo q (upd (upd (upd v 0 0) 6 mm) 7 mb)))] H := hP
            have hD : va_D A [(h0, .inr (10, mo q (upd (upd (upd v 0 0) 6 mm) 7 mb)))] := hD
            refine lv_aload_n hx hb d_Mod_limit_66 rfl (lv_at hl 1 rfl) ?_
            refine lv_iload_n hx hb d_Mod_limit_67 rfl (lv_at hl 2 rfl) ?_
            refine lv_iconst (v := 1) hx hb d_Mod_limit_68 (by decide) ?_
            refine lv_icmp_ne (tgt := 76) hx hb d_Mod_limit_69 (by decide) (fun h69 => ?_) (fun h69 => ?_)
            · exact absurd (tn_1 i1 i2 h35) h69
            · refine lv_iload_n hx hb d_Mod_limit_72 rfl (lv_at hl 3 rfl) ?_
              refine lv_goto (tgt := 80) hx hb d_Mod_limit_73 (by decide) ?_
              refine va_put (D := g.1) (ci := 10) (v := .int k) (ty := .int) (C := R_Mod) (T := F_Mod) (N := 61) hx hb hts in_Mod t_Mod t_Mod_ok n_Mod hown hK hP hD hS 0 rfl rfl 7 (by decide) (hts _ wd_1257) (fun _ h9 => h9) rfl (t_Mod_ok 7 (by decide)) rfl rfl (Nat.le_of_ble_eq_true rfl) d_Mod_limit_80 (fun H locs hP hD hS => ?_)
              have hP : va_P g.1 classes [(h0, .inr (10, mo q (upd (upd (upd v 0 0) 6 mm) 7 k)))] H := hP
              have hD : va_D A [(h0, .inr (10, mo q (upd (upd (upd v 0 0) 6 mm) 7 k)))] := hD
              refine lv_iload_n hx hb d_Mod_limit_83 rfl (lv_at hl 0 rfl) ?_
              exact tw_iret E hS (0, mm, k) (Or.inr ⟨rfl, i3, Int32.not_lt.mp i4, Or.inr ⟨tn_1 i1 i2 h35, rfl, rfl⟩⟩) hP hD d_Mod_limit_84
          · exact absurd h52 h35
        · refine lv_aload_n hx hb d_Mod_limit_38 rfl (lv_at hl 0 rfl) ?_
          refine va_get (D := g.1) (ci := 10) (v := .int mm) (C := R_Mod) (T := F_Mod) (N := 61) hx hb hts in_Mod hown hK hP 0 rfl rfl 6 (by decide) (hts _ wd_1256) (fun _ h9 => h9) rfl d_Mod_limit_39 ?_
          refine lv_goto (tgt := 49) hx hb d_Mod_limit_42 (by decide) ?_
          refine lv_istore_n hx hb d_Mod_limit_49 rfl hl (by decide) rfl (fun ls hl => ?_)
          have hl : lv_has ls 4 [(3, .int mm), (0, .ref h0), (1, .int wh), (2, .int k)] := hl
          refine lv_aload_n hx hb d_Mod_limit_50 rfl (lv_at hl 1 rfl) ?_
          refine lv_iload_n hx hb d_Mod_limit_51 rfl (lv_at hl 2 rfl) ?_
          refine lv_if_ne (tgt := 59) hx hb d_Mod_limit_52 (by decide) (fun h52 => ?_) (fun h52 => ?_)
          · exact absurd h35 h52
          · refine lv_iload_n hx hb d_Mod_limit_55 rfl (lv_at hl 3 rfl) ?_
            refine lv_goto (tgt := 63) hx hb d_Mod_limit_56 (by decide) ?_
            refine va_put (D := g.1) (ci := 10) (v := .int k) (ty := .int) (C := R_Mod) (T := F_Mod) (N := 61) hx hb hts in_Mod t_Mod t_Mod_ok n_Mod hown hK hP hD hS 0 rfl rfl 6 (by decide) (hts _ wd_1256) (fun _ h9 => h9) rfl (t_Mod_ok 6 (by decide)) rfl rfl (Nat.le_of_ble_eq_true rfl) d_Mod_limit_63 (fun H locs hP hD hS => ?_)
            have hP : va_P g.1 classes [(h0, .inr (10, mo q (upd (upd (upd v 0 0) 6 k) 7 mb)))] H := hP
            have hD : va_D A [(h0, .inr (10, mo q (upd (upd (upd v 0 0) 6 k) 7 mb)))] := hD
            refine lv_aload_n hx hb d_Mod_limit_66 rfl (lv_at hl 1 rfl) ?_
            refine lv_iload_n hx hb d_Mod_limit_67 rfl (lv_at hl 2 rfl) ?_
            refine lv_iconst (v := 1) hx hb d_Mod_limit_68 (by decide) ?_
            refine lv_icmp_ne (tgt := 76) hx hb d_Mod_limit_69 (by decide) (fun h69 => ?_) (fun h69 => ?_)
            · refine lv_aload_n hx hb d_Mod_limit_76 rfl (lv_at hl 1 rfl) ?_
              refine va_get (D := g.1) (ci := 10) (v := .int mb) (C := R_Mod) (T := F_Mod) (N := 61) hx hb hts in_Mod hown hK hP 0 rfl rfl 7 (by decide) (hts _ wd_1257) (fun _ h9 => h9) rfl d_Mod_limit_77 ?_
              refine va_put (D := g.1) (ci := 10) (v := .int mb) (ty := .int) (C := R_Mod) (T := F_Mod) (N := 61) hx hb hts in_Mod t_Mod t_Mod_ok n_Mod hown hK hP hD hS 0 rfl rfl 7 (by decide) (hts _ wd_1257) (fun _ h9 => h9) rfl (t_Mod_ok 7 (by decide)) rfl rfl (Nat.le_of_ble_eq_true rfl) d_Mod_limit_80 (fun H locs hP hD hS => ?_)
              have hP : va_P g.1 classes [(h0, .inr (10, mo q (upd (upd (upd v 0 0) 6 k) 7 mb)))] H := hP
              have hD : va_D A [(h0, .inr (10, mo q (upd (upd (upd v 0 0) 6 k) 7 mb)))] := hD
              refine lv_iload_n hx hb d_Mod_limit_83 rfl (lv_at hl 0 rfl) ?_
              exact tw_iret E hS (0, k, mb) (Or.inr ⟨rfl, i3, Int32.not_lt.mp i4, Or.inl ⟨h35, rfl, rfl⟩⟩) hP hD d_Mod_limit_84
            · exact absurd (h35.symm.trans h69) (by decide)
      · exact absurd rfl h29
set_option maxHeartbeats 4000000 in
set_option maxRecDepth 100000 in
theorem c_Mod_place (l : Launch) (g : tw_G) (sz : Nat) (h0 : Nat) (q : Nat → Nat) (v : Nat → Int32) (fp : Int32) : Met l y_Mod_place [.code y_Mod_place b_Mod_place 1 (some .int)] ({ frames := 0, cells := 0, slots := 0, locals := 0 }) (tw_P g [.ref h0] [(h0, .inr (10, mo q (upd v 9 fp)))] sz) (tw_Qi g (fun r _ => r = fp) (fun u : Unit => [(h0, .inr (10, mo q (upd (upd v 0 0) 9 fp)))]) (va_A [(h0, .inr (10, mo q (upd v 9 fp)))] sz)) 0 0 (va_A [(h0, .inr (10, mo q (upd v 9 fp)))] sz) := by
  refine tw_metW (l := l) (g := g) (y := y_Mod_place) (cc := b_Mod_place) (maxL := 1) (ret := (some .int)) (rm := { frames := 0, cells := 0, slots := 0, locals := 0 }) (mc := 0) (ms := 0) (av := [.ref h0]) (ws := [(h0, .inr (10, mo q (upd v 9 fp)))]) (sz := sz) (Qc := fun A => (tw_Qi g (fun r _ => r = fp) (fun u : Unit => [(h0, .inr (10, mo q (upd (upd v 0 0) 9 fp)))]) A)) (by decide) (Nat.le_of_ble_eq_true rfl) ?_
  intro p e s m below meth c ls H A E hB hK hZ hP hD hS hA hl
  obtain ⟨hx, hb, hml, hr, hown, hts, hlocks, hin⟩ := id E
  have hl : lv_has ls 1 [(0, .ref h0)] := hl
  refine lv_aload_n hx hb d_Mod_place_0 rfl (lv_at hl 0 rfl) ?_
  refine lv_iconst (v := 0) hx hb d_Mod_place_1 (by decide) ?_
  refine va_put (D := g.1) (ci := 10) (v := .int 0) (ty := .int) (C := R_Mod) (T := F_Mod) (N := 61) hx hb hts in_Mod t_Mod t_Mod_ok n_Mod hown hK hP hD hS 0 rfl rfl 0 (by decide) (hts _ wd_1250) (fun _ h9 => h9) rfl (t_Mod_ok 0 (by decide)) rfl rfl (Nat.le_of_ble_eq_true rfl) d_Mod_place_2 (fun H locs hP hD hS => ?_)
  have hP : va_P g.1 classes [(h0, .inr (10, mo q (upd (upd v 0 0) 9 fp)))] H := hP
  have hD : va_D A [(h0, .inr (10, mo q (upd (upd v 0 0) 9 fp)))] := hD
  refine lv_aload_n hx hb d_Mod_place_5 rfl (lv_at hl 0 rfl) ?_
  refine va_get (D := g.1) (ci := 10) (v := .int fp) (C := R_Mod) (T := F_Mod) (N := 61) hx hb hts in_Mod hown hK hP 0 rfl rfl 9 (by decide) (hts _ wd_1259) (fun _ h9 => h9) rfl d_Mod_place_6 ?_
  exact tw_iret E hS () rfl hP hD d_Mod_place_9
set_option maxHeartbeats 4000000 in
set_option maxRecDepth 100000 in
theorem c_Mod_count0 (l : Launch) (g : tw_G) (sz : Nat) (h0 : Nat) (q : Nat → Nat) (v : Nat → Int32) (a0 : Int32) : Met l y_Mod_count [.code y_Mod_count b_Mod_count 2 (some .int)] ({ frames := 1, cells := 0, slots := 0, locals := 21 }) (tw_P g [.ref h0, .int a0] [(h0, .inr (10, mo q (upd v 52 0)))] sz) (tw_Qi g (fun _ _ => True) (fun u : Unit => [(h0, .inr (10, mo q (upd (upd v 0 1) 52 0)))]) (va_A [(h0, .inr (10, mo q (upd v 52 0)))] sz)) 0 0 (va_A [(h0, .inr (10, mo q (upd v 52 0)))] sz) := by
  refine tw_metW (l := l) (g := g) (y := y_Mod_count) (cc := b_Mod_count) (maxL := 2) (ret := (some .int)) (rm := { frames := 1, cells := 0, slots := 0, locals := 21 }) (mc := 0) (ms := 0) (av := [.ref h0, .int a0]) (ws := [(h0, .inr (10, mo q (upd v 52 0)))]) (sz := sz) (Qc := fun A => (tw_Qi g (fun _ _ => True) (fun u : Unit => [(h0, .inr (10, mo q (upd (upd v 0 1) 52 0)))]) A)) (by decide) (Nat.le_of_ble_eq_true rfl) ?_
  intro p e s m below meth c ls H A E hB hK hZ hP hD hS hA hl
  obtain ⟨hx, hb, hml, hr, hown, hts, hlocks, hin⟩ := id E
  have hl : lv_has ls 2 [(0, .ref h0), (1, .int a0)] := hl
  refine lv_aload_n hx hb d_Mod_count_0 rfl (lv_at hl 0 rfl) ?_
  refine lv_aload_n hx hb d_Mod_count_1 rfl (lv_at hl 0 rfl) ?_
  refine va_get (D := g.1) (ci := 10) (v := .int 0) (C := R_Mod) (T := F_Mod) (N := 61) hx hb hts in_Mod hown hK hP 0 rfl rfl 52 (by decide) (hts _ wd_1302) (fun _ h9 => h9) rfl d_Mod_count_2 ?_
  refine lv_if_ne (tgt := 12) hx hb d_Mod_count_5 (by decide) (fun h5 => ?_) (fun h5 => ?_)
  · exact absurd rfl h5
  · refine lv_iconst (v := 1) hx hb d_Mod_count_8 (by decide) ?_
    refine lv_goto (tgt := 27) hx hb d_Mod_count_9 (by decide) ?_
    refine tw_wi (wr := []) (tw_runV (ws := [(h0, .inr (10, mo q (upd v 52 0)))]) (wc := [(h0, .inr (10, mo q (upd v 52 0)))]) (As := [.int 1]) (rest := []) E hB hK hZ (c_Mod_refused l g H.size h0 q (upd v 52 0) 1) mc_Mod_refused mi_Mod_refused me_Mod_refused wd_1446 hP hD hS hA [0] rfl (by decide) 0 rfl rfl rfl rfl rfl (by decide) rfl hl.1 rfl (Nat.le_of_ble_eq_true rfl) (by decide) d_Mod_count_27) hP hD hS hA [0] [] rfl rfl (by decide) (by decide) (fun r1 u2 H locs hr1 hP hD hS => ?_)
    try dsimp only at hr1
    have hP : va_P g.1 classes [(h0, .inr (10, mo q (upd (upd v 0 1) 52 0)))] H := hP
    have hD : va_D A [(h0, .inr (10, mo q (upd (upd v 0 1) 52 0)))] := hD
    obtain rfl : r1 = 1 := hr1.trans (by decide)
    have hP : va_P g.1 classes [(h0, .inr (10, mo q (upd (upd v 0 1) 52 0)))] H := hP.sub [0] rfl
    have hD : va_D A [(h0, .inr (10, mo q (upd (upd v 0 1) 52 0)))] := hD.sub [0] (by decide) rfl
    refine lv_if_eq (tgt := 37) hx hb d_Mod_count_30 (by decide) (fun h30 => ?_) (fun h30 => ?_)
    · exact absurd h30 (by decide)
    · refine lv_iconst (v := 0) hx hb d_Mod_count_33 (by decide) ?_
      refine lv_goto (tgt := 43) hx hb d_Mod_count_34 (by decide) ?_
      exact tw_iret E hS () trivial hP hD d_Mod_count_43
set_option maxHeartbeats 4000000 in
set_option maxRecDepth 100000 in
theorem c_Mod_text0 (l : Launch) (g : tw_G) (sz : Nat) (h0 : Nat) (q : Nat → Nat) (v : Nat → Int32) (a0 : Int32) (a1 : Int32) (a2 : Int32) : Met l y_Mod_text [.code y_Mod_text b_Mod_text 6 (some .char)] ({ frames := 1, cells := 0, slots := 0, locals := 21 }) (tw_P g [.ref h0, .int a0, .int a1, .int a2] [(h0, .inr (10, mo q (upd v 52 0)))] sz) (tw_Qi g (fun _ _ => True) (fun u : Unit => [(h0, .inr (10, mo q (upd (upd v 0 1) 52 0)))]) (va_A [(h0, .inr (10, mo q (upd v 52 0)))] sz)) 0 0 (va_A [(h0, .inr (10, mo q (upd v 52 0)))] sz) := by
  refine tw_metW (l := l) (g := g) (y := y_Mod_text) (cc := b_Mod_text) (maxL := 6) (ret := (some .char)) (rm := { frames := 1, cells := 0, slots := 0, locals := 21 }) (mc := 0) (ms := 0) (av := [.ref h0, .int a0, .int a1, .int a2]) (ws := [(h0, .inr (10, mo q (upd v 52 0)))]) (sz := sz) (Qc := fun A => (tw_Qi g (fun _ _ => True) (fun u : Unit => [(h0, .inr (10, mo q (upd (upd v 0 1) 52 0)))]) A)) (by decide) (Nat.le_of_ble_eq_true rfl) ?_
  intro p e s m below meth c ls H A E hB hK hZ hP hD hS hA hl
  obtain ⟨hx, hb, hml, hr, hown, hts, hlocks, hin⟩ := id E
  have hl : lv_has ls 6 [(0, .ref h0), (1, .int a0), (2, .int a1), (3, .int a2)] := hl
  refine lv_aload_n hx hb d_Mod_text_0 rfl (lv_at hl 0 rfl) ?_
  refine lv_aload_n hx hb d_Mod_text_1 rfl (lv_at hl 0 rfl) ?_
  refine va_get (D := g.1) (ci := 10) (v := .int 0) (C := R_Mod) (T := F_Mod) (N := 61) hx hb hts in_Mod hown hK hP 0 rfl rfl 52 (by decide) (hts _ wd_1302) (fun _ h9 => h9) rfl d_Mod_text_2 ?_
  refine lv_if_ne (tgt := 12) hx hb d_Mod_text_5 (by decide) (fun h5 => ?_) (fun h5 => ?_)
  · exact absurd rfl h5
  · refine lv_iconst (v := 1) hx hb d_Mod_text_8 (by decide) ?_
    refine lv_goto (tgt := 27) hx hb d_Mod_text_9 (by decide) ?_
    refine tw_wi (wr := []) (tw_runV (ws := [(h0, .inr (10, mo q (upd v 52 0)))]) (wc := [(h0, .inr (10, mo q (upd v 52 0)))]) (As := [.int 1]) (rest := []) E hB hK hZ (c_Mod_refused l g H.size h0 q (upd v 52 0) 1) mc_Mod_refused mi_Mod_refused me_Mod_refused wd_1446 hP hD hS hA [0] rfl (by decide) 0 rfl rfl rfl rfl rfl (by decide) rfl hl.1 rfl (Nat.le_of_ble_eq_true rfl) (by decide) d_Mod_text_27) hP hD hS hA [0] [] rfl rfl (by decide) (by decide) (fun r1 u2 H locs hr1 hP hD hS => ?_)
    try dsimp only at hr1
    have hP : va_P g.1 classes [(h0, .inr (10, mo q (upd (upd v 0 1) 52 0)))] H := hP
    have hD : va_D A [(h0, .inr (10, mo q (upd (upd v 0 1) 52 0)))] := hD
    obtain rfl : r1 = 1 := hr1.trans (by decide)
    have hP : va_P g.1 classes [(h0, .inr (10, mo q (upd (upd v 0 1) 52 0)))] H := hP.sub [0] rfl
    have hD : va_D A [(h0, .inr (10, mo q (upd (upd v 0 1) 52 0)))] := hD.sub [0] (by decide) rfl
    refine lv_if_eq (tgt := 36) hx hb d_Mod_text_30 (by decide) (fun h30 => ?_) (fun h30 => ?_)
    · exact absurd h30 (by decide)
    · refine lv_bipush (v := 32) hx hb d_Mod_text_33 (by decide) ?_
      exact tw_zret E hS () (by decide) trivial hP hD d_Mod_text_35
set_option maxHeartbeats 4000000 in
set_option maxRecDepth 100000 in
theorem c_Mod_depth0 (l : Launch) (g : tw_G) (sz : Nat) (h0 : Nat) (q : Nat → Nat) (v : Nat → Int32) (a0 : Int32) (a1 : Int32) : Met l y_Mod_depth [.code y_Mod_depth b_Mod_depth 4 (some .int)] ({ frames := 1, cells := 0, slots := 0, locals := 21 }) (tw_P g [.ref h0, .int a0, .int a1] [(h0, .inr (10, mo q (upd v 52 0)))] sz) (tw_Qi g (fun _ _ => True) (fun u : Unit => [(h0, .inr (10, mo q (upd (upd v 0 1) 52 0)))]) (va_A [(h0, .inr (10, mo q (upd v 52 0)))] sz)) 0 0 (va_A [(h0, .inr (10, mo q (upd v 52 0)))] sz) := by
  refine tw_metW (l := l) (g := g) (y := y_Mod_depth) (cc := b_Mod_depth) (maxL := 4) (ret := (some .int)) (rm := { frames := 1, cells := 0, slots := 0, locals := 21 }) (mc := 0) (ms := 0) (av := [.ref h0, .int a0, .int a1]) (ws := [(h0, .inr (10, mo q (upd v 52 0)))]) (sz := sz) (Qc := fun A => (tw_Qi g (fun _ _ => True) (fun u : Unit => [(h0, .inr (10, mo q (upd (upd v 0 1) 52 0)))]) A)) (by decide) (Nat.le_of_ble_eq_true rfl) ?_
  intro p e s m below meth c ls H A E hB hK hZ hP hD hS hA hl
  obtain ⟨hx, hb, hml, hr, hown, hts, hlocks, hin⟩ := id E
  have hl : lv_has ls 4 [(0, .ref h0), (1, .int a0), (2, .int a1)] := hl
  refine lv_aload_n hx hb d_Mod_depth_0 rfl (lv_at hl 0 rfl) ?_
  refine lv_aload_n hx hb d_Mod_depth_1 rfl (lv_at hl 0 rfl) ?_
  refine va_get (D := g.1) (ci := 10) (v := .int 0) (C := R_Mod) (T := F_Mod) (N := 61) hx hb hts in_Mod hown hK hP 0 rfl rfl 52 (by decide) (hts _ wd_1302) (fun _ h9 => h9) rfl d_Mod_depth_2 ?_
  refine lv_if_eq (tgt := 12) hx hb d_Mod_depth_5 (by decide) (fun h5 => ?_) (fun h5 => ?_)
  · refine lv_iconst (v := 1) hx hb d_Mod_depth_12 (by decide) ?_
    refine tw_wi (wr := []) (tw_runV (ws := [(h0, .inr (10, mo q (upd v 52 0)))]) (wc := [(h0, .inr (10, mo q (upd v 52 0)))]) (As := [.int 1]) (rest := []) E hB hK hZ (c_Mod_refused l g H.size h0 q (upd v 52 0) 1) mc_Mod_refused mi_Mod_refused me_Mod_refused wd_1446 hP hD hS hA [0] rfl (by decide) 0 rfl rfl rfl rfl rfl (by decide) rfl hl.1 rfl (Nat.le_of_ble_eq_true rfl) (by decide) d_Mod_depth_13) hP hD hS hA [0] [] rfl rfl (by decide) (by decide) (fun r1 u2 H locs hr1 hP hD hS => ?_)
    try dsimp only at hr1
    have hP : va_P g.1 classes [(h0, .inr (10, mo q (upd (upd v 0 1) 52 0)))] H := hP
    have hD : va_D A [(h0, .inr (10, mo q (upd (upd v 0 1) 52 0)))] := hD
    obtain rfl : r1 = 1 := hr1.trans (by decide)
    have hP : va_P g.1 classes [(h0, .inr (10, mo q (upd (upd v 0 1) 52 0)))] H := hP.sub [0] rfl
    have hD : va_D A [(h0, .inr (10, mo q (upd (upd v 0 1) 52 0)))] := hD.sub [0] (by decide) rfl
    refine lv_if_eq (tgt := 21) hx hb d_Mod_depth_16 (by decide) (fun h16 => ?_) (fun h16 => ?_)
    · exact absurd h16 (by decide)
    · refine lv_iconst (v := 0) hx hb d_Mod_depth_19 (by decide) ?_
      exact tw_iret E hS () trivial hP hD d_Mod_depth_20
  · exact absurd rfl h5
set_option maxHeartbeats 4000000 in
set_option maxRecDepth 100000 in
theorem c_Mod_kind0 (l : Launch) (g : tw_G) (sz : Nat) (h0 : Nat) (q : Nat → Nat) (v : Nat → Int32) (a0 : Int32) (a1 : Int32) (a2 : Int32) (a3 : Int32) : Met l y_Mod_kind [.code y_Mod_kind b_Mod_kind 6 (some .int)] ({ frames := 1, cells := 0, slots := 0, locals := 21 }) (tw_P g [.ref h0, .int a0, .int a1, .int a2, .int a3] [(h0, .inr (10, mo q (upd v 52 0)))] sz) (tw_Qi g (fun _ _ => True) (fun u : Unit => [(h0, .inr (10, mo q (upd (upd v 0 1) 52 0)))]) (va_A [(h0, .inr (10, mo q (upd v 52 0)))] sz)) 0 0 (va_A [(h0, .inr (10, mo q (upd v 52 0)))] sz) := by
  refine tw_metW (l := l) (g := g) (y := y_Mod_kind) (cc := b_Mod_kind) (maxL := 6) (ret := (some .int)) (rm := { frames := 1, cells := 0, slots := 0, locals := 21 }) (mc := 0) (ms := 0) (av := [.ref h0, .int a0, .int a1, .int a2, .int a3]) (ws := [(h0, .inr (10, mo q (upd v 52 0)))]) (sz := sz) (Qc := fun A => (tw_Qi g (fun _ _ => True) (fun u : Unit => [(h0, .inr (10, mo q (upd (upd v 0 1) 52 0)))]) A)) (by decide) (Nat.le_of_ble_eq_true rfl) ?_
  intro p e s m below meth c ls H A E hB hK hZ hP hD hS hA hl
  obtain ⟨hx, hb, hml, hr, hown, hts, hlocks, hin⟩ := id E
  have hl : lv_has ls 6 [(0, .ref h0), (1, .int a0), (2, .int a1), (3, .int a2), (4, .int a3)] := hl
  refine lv_aload_n hx hb d_Mod_kind_0 rfl (lv_at hl 0 rfl) ?_
  refine lv_aload_n hx hb d_Mod_kind_1 rfl (lv_at hl 0 rfl) ?_
  refine va_get (D := g.1) (ci := 10) (v := .int 0) (C := R_Mod) (T := F_Mod) (N := 61) hx hb hts in_Mod hown hK hP 0 rfl rfl 52 (by decide) (hts _ wd_1302) (fun _ h9 => h9) rfl d_Mod_kind_2 ?_
  refine lv_if_eq (tgt := 12) hx hb d_Mod_kind_5 (by decide) (fun h5 => ?_) (fun h5 => ?_)
  · refine lv_iconst (v := 1) hx hb d_Mod_kind_12 (by decide) ?_
    refine tw_wi (wr := []) (tw_runV (ws := [(h0, .inr (10, mo q (upd v 52 0)))]) (wc := [(h0, .inr (10, mo q (upd v 52 0)))]) (As := [.int 1]) (rest := []) E hB hK hZ (c_Mod_refused l g H.size h0 q (upd v 52 0) 1) mc_Mod_refused mi_Mod_refused me_Mod_refused wd_1446 hP hD hS hA [0] rfl (by decide) 0 rfl rfl rfl rfl rfl (by decide) rfl hl.1 rfl (Nat.le_of_ble_eq_true rfl) (by decide) d_Mod_kind_13) hP hD hS hA [0] [] rfl rfl (by decide) (by decide) (fun r1 u2 H locs hr1 hP hD hS => ?_)
    try dsimp only at hr1
    have hP : va_P g.1 classes [(h0, .inr (10, mo q (upd (upd v 0 1) 52 0)))] H := hP
    have hD : va_D A [(h0, .inr (10, mo q (upd (upd v 0 1) 52 0)))] := hD
    obtain rfl : r1 = 1 := hr1.trans (by decide)
    have hP : va_P g.1 classes [(h0, .inr (10, mo q (upd (upd v 0 1) 52 0)))] H := hP.sub [0] rfl
    have hD : va_D A [(h0, .inr (10, mo q (upd (upd v 0 1) 52 0)))] := hD.sub [0] (by decide) rfl
    refine lv_if_eq (tgt := 21) hx hb d_Mod_kind_16 (by decide) (fun h16 => ?_) (fun h16 => ?_)
    · exact absurd h16 (by decide)
    · refine lv_iconst (v := 0) hx hb d_Mod_kind_19 (by decide) ?_
      exact tw_iret E hS () trivial hP hD d_Mod_kind_20
  · exact absurd rfl h5
set_option maxHeartbeats 4000000 in
set_option maxRecDepth 100000 in
theorem c_Mod_rule0 (l : Launch) (g : tw_G) (sz : Nat) (h0 : Nat) (q : Nat → Nat) (v : Nat → Int32) (al k : Int32) : Met l y_Mod_rule [.code y_Mod_rule b_Mod_rule 7 (some .int)] ({ frames := 1, cells := 0, slots := 0, locals := 22 }) (tw_P g [.ref h0, .int al, .int k] [(h0, .inr (10, mo q (upd v 1 0)))] sz) (tw_Qi g (fun _ _ => True) (fun u : Unit => [(h0, .inr (10, mo q (upd (upd v 0 1) 1 0)))]) (va_A [(h0, .inr (10, mo q (upd v 1 0)))] sz)) 0 0 (va_A [(h0, .inr (10, mo q (upd v 1 0)))] sz) := by
  refine tw_metW (l := l) (g := g) (y := y_Mod_rule) (cc := b_Mod_rule) (maxL := 7) (ret := (some .int)) (rm := { frames := 1, cells := 0, slots := 0, locals := 22 }) (mc := 0) (ms := 0) (av := [.ref h0, .int al, .int k]) (ws := [(h0, .inr (10, mo q (upd v 1 0)))]) (sz := sz) (Qc := fun A => (tw_Qi g (fun _ _ => True) (fun u : Unit => [(h0, .inr (10, mo q (upd (upd v 0 1) 1 0)))]) A)) (by decide) (Nat.le_of_ble_eq_true rfl) ?_
  intro p e s m below meth c ls H A E hB hK hZ hP hD hS hA hl
  obtain ⟨hx, hb, hml, hr, hown, hts, hlocks, hin⟩ := id E
  have hl : lv_has ls 7 [(0, .ref h0), (1, .int al), (2, .int k)] := hl
  refine lv_iload_n hx hb d_Mod_rule_0 rfl (lv_at hl 1 rfl) ?_
  refine lv_if_eq (tgt := 8) hx hb d_Mod_rule_1 (by decide) (fun h1 => ?_) (fun h1 => ?_)
  · refine lv_iconst (v := 0) hx hb d_Mod_rule_8 (by decide) ?_
    refine lv_istore_n hx hb d_Mod_rule_9 rfl hl (by decide) rfl (fun ls hl => ?_)
    have hl : lv_has ls 7 [(3, .int 0), (0, .ref h0), (1, .int al), (2, .int k)] := hl
    refine lv_iload_n hx hb d_Mod_rule_10 rfl (lv_at hl 3 rfl) ?_
    refine lv_iconst (v := 1) hx hb d_Mod_rule_11 (by decide) ?_
    refine lv_bipush (v := 40) hx hb d_Mod_rule_12 (by decide) ?_
    refine tw_si (tw_runS (ws := [(h0, .inr (10, mo q (upd v 1 0)))]) (wc := []) (As := [.int k, .int 1, .int 40]) (rest := []) E hB hK hZ (c_Mod_isIn l g H.size k 1 40) mc_Mod_isIn ms_Mod_isIn wd_1443 hP hD hS hA [] rfl (by decide) rfl rfl (by decide) rfl hl.1 rfl (Nat.le_of_ble_eq_true rfl) (by decide) d_Mod_rule_14) (fun r1 hr1 => ?_)
    obtain rfl : r1 = is_in k 1 40 := hr1
    refine lv_if_eq (tgt := 32) hx hb d_Mod_rule_17 (by decide) (fun h17 => ?_) (fun h17 => ?_)
    · refine lv_iconst (v := 0) hx hb d_Mod_rule_32 (by decide) ?_
      refine lv_istore hx hb d_Mod_rule_33 hl (by decide) rfl (fun ls hl => ?_)
      have hl : lv_has ls 7 [(4, .int 0), (3, .int 0), (0, .ref h0), (1, .int al), (2, .int k)] := hl
      refine lv_aload_n hx hb d_Mod_rule_35 rfl (lv_at hl 2 rfl) ?_
      refine va_get (D := g.1) (ci := 10) (v := .int 0) (C := R_Mod) (T := F_Mod) (N := 61) hx hb hts in_Mod hown hK hP 0 rfl rfl 1 (by decide) (hts _ wd_1251) (fun _ h9 => h9) rfl d_Mod_rule_36 ?_
      refine lv_iload_n hx hb d_Mod_rule_39 rfl (lv_at hl 4 rfl) ?_
      refine lv_isub hx hb d_Mod_rule_40 ?_
      refine lv_istore hx hb d_Mod_rule_41 hl (by decide) rfl (fun ls hl => ?_)
      have hl : lv_has ls 7 [(5, .int (0 - k)), (4, .int 0), (3, .int 0), (0, .ref h0), (1, .int al), (2, .int k)] := hl
      refine lv_iload hx hb d_Mod_rule_43 (lv_at hl 1 rfl) ?_
      refine lv_if_eq (tgt := 79) hx hb d_Mod_rule_45 (by decide) (fun h45 => ?_) (fun h45 => ?_)
      · refine lv_aload_n hx hb d_Mod_rule_79 rfl (lv_at hl 3 rfl) ?_
        refine lv_iload hx hb d_Mod_rule_80 (lv_at hl 1 rfl) ?_
        refine lv_if_ne (tgt := 89) hx hb d_Mod_rule_82 (by decide) (fun h82 => ?_) (fun h82 => ?_)
        · exact absurd rfl h82
        · refine lv_iconst (v := 1) hx hb d_Mod_rule_85 (by decide) ?_
          refine lv_goto (tgt := 105) hx hb d_Mod_rule_86 (by decide) ?_
          refine tw_wi (wr := []) (tw_runV (ws := [(h0, .inr (10, mo q (upd v 1 0)))]) (wc := [(h0, .inr (10, mo q (upd v 1 0)))]) (As := [.int 1]) (rest := []) E hB hK hZ (c_Mod_refused l g H.size h0 q (upd v 1 0) 1) mc_Mod_refused mi_Mod_refused me_Mod_refused wd_1446 hP hD hS hA [0] rfl (by decide) 0 rfl rfl rfl rfl rfl (by decide) rfl hl.1 rfl (Nat.le_of_ble_eq_true rfl) (by decide) d_Mod_rule_105) hP hD hS hA [0] [] rfl rfl (by decide) (by decide) (fun r2 u3 H locs hr2 hP hD hS => ?_)
          try dsimp only at hr2
          have hP : va_P g.1 classes [(h0, .inr (10, mo q (upd (upd v 0 1) 1 0)))] H := hP
          have hD : va_D A [(h0, .inr (10, mo q (upd (upd v 0 1) 1 0)))] := hD
          obtain rfl : r2 = 1 := hr2.trans (by decide)
          have hP : va_P g.1 classes [(h0, .inr (10, mo q (upd (upd v 0 1) 1 0)))] H := hP.sub [0] rfl
          have hD : va_D A [(h0, .inr (10, mo q (upd (upd v 0 1) 1 0)))] := hD.sub [0] (by decide) rfl
          refine lv_if_eq (tgt := 113) hx hb d_Mod_rule_108 (by decide) (fun h108 => ?_) (fun h108 => ?_)
          · exact absurd h108 (by decide)
          · refine lv_iconst (v := 0) hx hb d_Mod_rule_111 (by decide) ?_
            exact tw_iret E hS () trivial hP hD d_Mod_rule_112
      · exact absurd rfl h45
    · obtain ⟨i1, i2⟩ := is_inN h17
      refine lv_iload_n hx hb d_Mod_rule_20 rfl (lv_at hl 3 rfl) ?_
      refine lv_aload_n hx hb d_Mod_rule_21 rfl (lv_at hl 1 rfl) ?_
      refine va_get (D := g.1) (ci := 10) (v := .int 0) (C := R_Mod) (T := F_Mod) (N := 61) hx hb hts in_Mod hown hK hP 0 rfl rfl 1 (by decide) (hts _ wd_1251) (fun _ h9 => h9) rfl d_Mod_rule_22 ?_
      refine lv_icmp_gt (tgt := 32) hx hb d_Mod_rule_25 (by decide) (fun h25 => ?_) (fun h25 => ?_)
      · refine lv_iconst (v := 0) hx hb d_Mod_rule_32 (by decide) ?_
        refine lv_istore hx hb d_Mod_rule_33 hl (by decide) rfl (fun ls hl => ?_)
        have hl : lv_has ls 7 [(4, .int 0), (3, .int 0), (0, .ref h0), (1, .int al), (2, .int k)] := hl
        refine lv_aload_n hx hb d_Mod_rule_35 rfl (lv_at hl 2 rfl) ?_
        refine va_get (D := g.1) (ci := 10) (v := .int 0) (C := R_Mod) (T := F_Mod) (N := 61) hx hb hts in_Mod hown hK hP 0 rfl rfl 1 (by decide) (hts _ wd_1251) (fun _ h9 => h9) rfl d_Mod_rule_36 ?_
        refine lv_iload_n hx hb d_Mod_rule_39 rfl (lv_at hl 4 rfl) ?_
        refine lv_isub hx hb d_Mod_rule_40 ?_
        refine lv_istore hx hb d_Mod_rule_41 hl (by decide) rfl (fun ls hl => ?_)
        have hl : lv_has ls 7 [(5, .int (0 - k)), (4, .int 0), (3, .int 0), (0, .ref h0), (1, .int al), (2, .int k)] := hl
        refine lv_iload hx hb d_Mod_rule_43 (lv_at hl 1 rfl) ?_
        refine lv_if_eq (tgt := 79) hx hb d_Mod_rule_45 (by decide) (fun h45 => ?_) (fun h45 => ?_)
        · refine lv_aload_n hx hb d_Mod_rule_79 rfl (lv_at hl 3 rfl) ?_
          refine lv_iload hx hb d_Mod_rule_80 (lv_at hl 1 rfl) ?_
          refine lv_if_ne (tgt := 89) hx hb d_Mod_rule_82 (by decide) (fun h82 => ?_) (fun h82 => ?_)
          · exact absurd rfl h82
          · refine lv_iconst (v := 1) hx hb d_Mod_rule_85 (by decide) ?_
            refine lv_goto (tgt := 105) hx hb d_Mod_rule_86 (by decide) ?_
            refine tw_wi (wr := []) (tw_runV (ws := [(h0, .inr (10, mo q (upd v 1 0)))]) (wc := [(h0, .inr (10, mo q (upd v 1 0)))]) (As := [.int 1]) (rest := []) E hB hK hZ (c_Mod_refused l g H.size h0 q (upd v 1 0) 1) mc_Mod_refused mi_Mod_refused me_Mod_refused wd_1446 hP hD hS hA [0] rfl (by decide) 0 rfl rfl rfl rfl rfl (by decide) rfl hl.1 rfl (Nat.le_of_ble_eq_true rfl) (by decide) d_Mod_rule_105) hP hD hS hA [0] [] rfl rfl (by decide) (by decide) (fun r4 u5 H locs hr4 hP hD hS => ?_)
            try dsimp only at hr4
            have hP : va_P g.1 classes [(h0, .inr (10, mo q (upd (upd v 0 1) 1 0)))] H := hP
            have hD : va_D A [(h0, .inr (10, mo q (upd (upd v 0 1) 1 0)))] := hD
            obtain rfl : r4 = 1 := hr4.trans (by decide)
            have hP : va_P g.1 classes [(h0, .inr (10, mo q (upd (upd v 0 1) 1 0)))] H := hP.sub [0] rfl
            have hD : va_D A [(h0, .inr (10, mo q (upd (upd v 0 1) 1 0)))] := hD.sub [0] (by decide) rfl
            refine lv_if_eq (tgt := 113) hx hb d_Mod_rule_108 (by decide) (fun h108 => ?_) (fun h108 => ?_)
            · exact absurd h108 (by decide)
            · refine lv_iconst (v := 0) hx hb d_Mod_rule_111 (by decide) ?_
              exact tw_iret E hS () trivial hP hD d_Mod_rule_112
        · exact absurd rfl h45
      · exact (tn_01 i1 h25).elim
  · refine lv_iconst (v := 1) hx hb d_Mod_rule_4 (by decide) ?_
    refine lv_goto (tgt := 9) hx hb d_Mod_rule_5 (by decide) ?_
    refine lv_istore_n hx hb d_Mod_rule_9 rfl hl (by decide) rfl (fun ls hl => ?_)
    have hl : lv_has ls 7 [(3, .int 1), (0, .ref h0), (1, .int al), (2, .int k)] := hl
    refine lv_iload_n hx hb d_Mod_rule_10 rfl (lv_at hl 3 rfl) ?_
    refine lv_iconst (v := 1) hx hb d_Mod_rule_11 (by decide) ?_
    refine lv_bipush (v := 40) hx hb d_Mod_rule_12 (by decide) ?_
    refine tw_si (tw_runS (ws := [(h0, .inr (10, mo q (upd v 1 0)))]) (wc := []) (As := [.int k, .int 1, .int 40]) (rest := []) E hB hK hZ (c_Mod_isIn l g H.size k 1 40) mc_Mod_isIn ms_Mod_isIn wd_1443 hP hD hS hA [] rfl (by decide) rfl rfl (by decide) rfl hl.1 rfl (Nat.le_of_ble_eq_true rfl) (by decide) d_Mod_rule_14) (fun r6 hr6 => ?_)
    obtain rfl : r6 = is_in k 1 40 := hr6
    refine lv_if_eq (tgt := 32) hx hb d_Mod_rule_17 (by decide) (fun h17 => ?_) (fun h17 => ?_)
    · refine lv_iconst (v := 0) hx hb d_Mod_rule_32 (by decide) ?_
      refine lv_istore hx hb d_Mod_rule_33 hl (by decide) rfl (fun ls hl => ?_)
      have hl : lv_has ls 7 [(4, .int 0), (3, .int 1), (0, .ref h0), (1, .int al), (2, .int k)] := hl
      refine lv_aload_n hx hb d_Mod_rule_35 rfl (lv_at hl 2 rfl) ?_
      refine va_get (D := g.1) (ci := 10) (v := .int 0) (C := R_Mod) (T := F_Mod) (N := 61) hx hb hts in_Mod hown hK hP 0 rfl rfl 1 (by decide) (hts _ wd_1251) (fun _ h9 => h9) rfl d_Mod_rule_36 ?_
      refine lv_iload_n hx hb d_Mod_rule_39 rfl (lv_at hl 4 rfl) ?_
      refine lv_isub hx hb d_Mod_rule_40 ?_
      refine lv_istore hx hb d_Mod_rule_41 hl (by decide) rfl (fun ls hl => ?_)
      have hl : lv_has ls 7 [(5, .int (0 - k)), (4, .int 0), (3, .int 1), (0, .ref h0), (1, .int al), (2, .int k)] := hl
      refine lv_iload hx hb d_Mod_rule_43 (lv_at hl 1 rfl) ?_
      refine lv_if_eq (tgt := 79) hx hb d_Mod_rule_45 (by decide) (fun h45 => ?_) (fun h45 => ?_)
      · refine lv_aload_n hx hb d_Mod_rule_79 rfl (lv_at hl 3 rfl) ?_
        refine lv_iload hx hb d_Mod_rule_80 (lv_at hl 1 rfl) ?_
        refine lv_if_ne (tgt := 89) hx hb d_Mod_rule_82 (by decide) (fun h82 => ?_) (fun h82 => ?_)
        · exact absurd rfl h82
        · refine lv_iconst (v := 1) hx hb d_Mod_rule_85 (by decide) ?_
          refine lv_goto (tgt := 105) hx hb d_Mod_rule_86 (by decide) ?_
          refine tw_wi (wr := []) (tw_runV (ws := [(h0, .inr (10, mo q (upd v 1 0)))]) (wc := [(h0, .inr (10, mo q (upd v 1 0)))]) (As := [.int 1]) (rest := []) E hB hK hZ (c_Mod_refused l g H.size h0 q (upd v 1 0) 1) mc_Mod_refused mi_Mod_refused me_Mod_refused wd_1446 hP hD hS hA [0] rfl (by decide) 0 rfl rfl rfl rfl rfl (by decide) rfl hl.1 rfl (Nat.le_of_ble_eq_true rfl) (by decide) d_Mod_rule_105) hP hD hS hA [0] [] rfl rfl (by decide) (by decide) (fun r7 u8 H locs hr7 hP hD hS => ?_)
          try dsimp only at hr7
          have hP : va_P g.1 classes [(h0, .inr (10, mo q (upd (upd v 0 1) 1 0)))] H := hP
          have hD : va_D A [(h0, .inr (10, mo q (upd (upd v 0 1) 1 0)))] := hD
          obtain rfl : r7 = 1 := hr7.trans (by decide)
          have hP : va_P g.1 classes [(h0, .inr (10, mo q (upd (upd v 0 1) 1 0)))] H := hP.sub [0] rfl
          have hD : va_D A [(h0, .inr (10, mo q (upd (upd v 0 1) 1 0)))] := hD.sub [0] (by decide) rfl
          refine lv_if_eq (tgt := 113) hx hb d_Mod_rule_108 (by decide) (fun h108 => ?_) (fun h108 => ?_)
          · exact absurd h108 (by decide)
          · refine lv_iconst (v := 0) hx hb d_Mod_rule_111 (by decide) ?_
            exact tw_iret E hS () trivial hP hD d_Mod_rule_112
      · exact absurd rfl h45
    · obtain ⟨i1, i2⟩ := is_inN h17
      refine lv_iload_n hx hb d_Mod_rule_20 rfl (lv_at hl 3 rfl) ?_
      refine lv_aload_n hx hb d_Mod_rule_21 rfl (lv_at hl 1 rfl) ?_
      refine va_get (D := g.1) (ci := 10) (v := .int 0) (C := R_Mod) (T := F_Mod) (N := 61) hx hb hts in_Mod hown hK hP 0 rfl rfl 1 (by decide) (hts _ wd_1251) (fun _ h9 => h9) rfl d_Mod_rule_22 ?_
      refine lv_icmp_gt (tgt := 32) hx hb d_Mod_rule_25 (by decide) (fun h25 => ?_) (fun h25 => ?_)
      · refine lv_iconst (v := 0) hx hb d_Mod_rule_32 (by decide) ?_
        refine lv_istore hx hb d_Mod_rule_33 hl (by decide) rfl (fun ls hl => ?_)
        have hl : lv_has ls 7 [(4, .int 0), (3, .int 1), (0, .ref h0), (1, .int al), (2, .int k)] := hl
        refine lv_aload_n hx hb d_Mod_rule_35 rfl (lv_at hl 2 rfl) ?_
        refine va_get (D := g.1) (ci := 10) (v := .int 0) (C := R_Mod) (T := F_Mod) (N := 61) hx hb hts in_Mod hown hK hP 0 rfl rfl 1 (by decide) (hts _ wd_1251) (fun _ h9 => h9) rfl d_Mod_rule_36 ?_
        refine lv_iload_n hx hb d_Mod_rule_39 rfl (lv_at hl 4 rfl) ?_
        refine lv_isub hx hb d_Mod_rule_40 ?_
        refine lv_istore hx hb d_Mod_rule_41 hl (by decide) rfl (fun ls hl => ?_)
        have hl : lv_has ls 7 [(5, .int (0 - k)), (4, .int 0), (3, .int 1), (0, .ref h0), (1, .int al), (2, .int k)] := hl
        refine lv_iload hx hb d_Mod_rule_43 (lv_at hl 1 rfl) ?_
        refine lv_if_eq (tgt := 79) hx hb d_Mod_rule_45 (by decide) (fun h45 => ?_) (fun h45 => ?_)
        · refine lv_aload_n hx hb d_Mod_rule_79 rfl (lv_at hl 3 rfl) ?_
          refine lv_iload hx hb d_Mod_rule_80 (lv_at hl 1 rfl) ?_
          refine lv_if_ne (tgt := 89) hx hb d_Mod_rule_82 (by decide) (fun h82 => ?_) (fun h82 => ?_)
          · exact absurd rfl h82
          · refine lv_iconst (v := 1) hx hb d_Mod_rule_85 (by decide) ?_
            refine lv_goto (tgt := 105) hx hb d_Mod_rule_86 (by decide) ?_
            refine tw_wi (wr := []) (tw_runV (ws := [(h0, .inr (10, mo q (upd v 1 0)))]) (wc := [(h0, .inr (10, mo q (upd v 1 0)))]) (As := [.int 1]) (rest := []) E hB hK hZ (c_Mod_refused l g H.size h0 q (upd v 1 0) 1) mc_Mod_refused mi_Mod_refused me_Mod_refused wd_1446 hP hD hS hA [0] rfl (by decide) 0 rfl rfl rfl rfl rfl (by decide) rfl hl.1 rfl (Nat.le_of_ble_eq_true rfl) (by decide) d_Mod_rule_105) hP hD hS hA [0] [] rfl rfl (by decide) (by decide) (fun r9 u10 H locs hr9 hP hD hS => ?_)
            try dsimp only at hr9
            have hP : va_P g.1 classes [(h0, .inr (10, mo q (upd (upd v 0 1) 1 0)))] H := hP
            have hD : va_D A [(h0, .inr (10, mo q (upd (upd v 0 1) 1 0)))] := hD
            obtain rfl : r9 = 1 := hr9.trans (by decide)
            have hP : va_P g.1 classes [(h0, .inr (10, mo q (upd (upd v 0 1) 1 0)))] H := hP.sub [0] rfl
            have hD : va_D A [(h0, .inr (10, mo q (upd (upd v 0 1) 1 0)))] := hD.sub [0] (by decide) rfl
            refine lv_if_eq (tgt := 113) hx hb d_Mod_rule_108 (by decide) (fun h108 => ?_) (fun h108 => ?_)
            · exact absurd h108 (by decide)
            · refine lv_iconst (v := 0) hx hb d_Mod_rule_111 (by decide) ?_
              exact tw_iret E hS () trivial hP hD d_Mod_rule_112
        · exact absurd rfl h45
      · exact (tn_01 i1 h25).elim
set_option maxHeartbeats 4000000 in
set_option maxRecDepth 100000 in
theorem c_Mod_numberF (l : Launch) (g : tw_G) (sz : Nat) (h0 : Nat) (q : Nat → Nat) (v : Nat → Int32) (fa k : Int32) (hf : ¬ fa = 0) : Met l y_Mod_number [.code y_Mod_number b_Mod_number 5 (some .long)] ({ frames := 0, cells := 0, slots := 0, locals := 0 }) (tw_P g [.ref h0, .int k] [(h0, .inr (10, mo q (upd v 8 fa)))] sz) (vp_Sl (fun r => r = 0)) 0 0 (fun _ => False) := by
  refine tw_met (l := l) (g := g) (y := y_Mod_number) (cc := b_Mod_number) (maxL := 5) (ret := (some .long)) (rm := { frames := 0, cells := 0, slots := 0, locals := 0 }) (mc := 0) (ms := 0) (av := [.ref h0, .int k]) (ws := [(h0, .inr (10, mo q (upd v 8 fa)))]) (sz := sz) (Qc := fun _ => (vp_Sl (fun r => r = 0))) (free := fun _ _ => False) (by decide) (Nat.le_of_ble_eq_true rfl) ?_
  intro p e s m below meth c ls A E hB hK hZ hP hD hS hA hl
  obtain ⟨hx, hb, hml, hr, hown, hts, hlocks, hin⟩ := id E
  have hl : lv_has ls 5 [(0, .ref h0), (1, .int k)] := hl
  refine lv_aload_n hx hb d_Mod_number_0 rfl (lv_at hl 0 rfl) ?_
  refine va_get (D := g.1) (ci := 10) (v := .int fa) (C := R_Mod) (T := F_Mod) (N := 61) hx hb hts in_Mod hown hK hP 0 rfl rfl 8 (by decide) (hts _ wd_1258) (fun _ h9 => h9) rfl d_Mod_number_1 ?_
  refine lv_if_eq (tgt := 9) hx hb d_Mod_number_4 (by decide) (fun h4 => ?_) (fun h4 => ?_)
  · exact absurd h4 hf
  · refine lv_lconst (v := 0) hx hb d_Mod_number_7 (by decide) ?_
    exact tw_lsret E rfl d_Mod_number_8
set_option maxHeartbeats 4000000 in
set_option maxRecDepth 100000 in
theorem c_Mod_u2F (l : Launch) (g : tw_G) (sz : Nat) (h0 : Nat) (q : Nat → Nat) (v : Nat → Int32) (fa : Int32) (hf : ¬ fa = 0) : Met l y_Mod_u2 [.code y_Mod_u2 b_Mod_u2 1 (some .int)] ({ frames := 1, cells := 0, slots := 0, locals := 24 }) (tw_P g [.ref h0] [(h0, .inr (10, mo q (upd v 8 fa)))] sz) (vp_Si (fun r => r = 0)) 0 0 (fun _ => False) := by
  refine tw_met (l := l) (g := g) (y := y_Mod_u2) (cc := b_Mod_u2) (maxL := 1) (ret := (some .int)) (rm := { frames := 1, cells := 0, slots := 0, locals := 24 }) (mc := 0) (ms := 0) (av := [.ref h0]) (ws := [(h0, .inr (10, mo q (upd v 8 fa)))]) (sz := sz) (Qc := fun _ => (vp_Si (fun r => r = 0))) (free := fun _ _ => False) (by decide) (Nat.le_of_ble_eq_true rfl) ?_
  intro p e s m below meth c ls A E hB hK hZ hP hD hS hA hl
  obtain ⟨hx, hb, hml, hr, hown, hts, hlocks, hin⟩ := id E
  have hl : lv_has ls 1 [(0, .ref h0)] := hl
  refine lv_aload_n hx hb d_Mod_u2_0 rfl (lv_at hl 0 rfl) ?_
  refine lv_iconst (v := 2) hx hb d_Mod_u2_1 (by decide) ?_
  refine tw_sl (tw_runV (ws := [(h0, .inr (10, mo q (upd v 8 fa)))]) (wc := [(h0, .inr (10, mo q (upd v 8 fa)))]) (As := [.int 2]) (rest := []) E hB hK hZ (c_Mod_numberF l g s.heap.size h0 q (upd v 8 fa) fa 2 hf) mc_Mod_number mi_Mod_number me_Mod_number wd_1474 hP hD hS hA [0] rfl (by decide) 0 rfl rfl rfl rfl rfl (by decide) rfl hl.1 rfl (Nat.le_of_ble_eq_true rfl) (by decide) d_Mod_u2_2) (fun r1 hr1 => ?_)
  obtain rfl : r1 = 0 := hr1
  refine lv_l2i (v := 0) hx hb d_Mod_u2_5 (by decide) ?_
  exact tw_isret E rfl d_Mod_u2_6
set_option maxHeartbeats 4000000 in
set_option maxRecDepth 100000 in
theorem c_Mod_fail (l : Launch) (g : tw_G) (sz : Nat) (h0 : Nat) (q : Nat → Nat) (v : Nat → Int32) (a b : Int32) : Met l y_Mod_fail [.code y_Mod_fail b_Mod_fail 3 none] ({ frames := 0, cells := 0, slots := 0, locals := 0 }) (tw_P g [.ref h0, .int a, .int b] [(h0, .inr (10, mo q (upd v 8 0)))] sz) (tw_Qv g (fun _ => True) (fun u : Unit => [(h0, .inr (10, mo q (upd (upd v 8 a) 9 b)))]) (va_A [(h0, .inr (10, mo q (upd v 8 0)))] sz)) 0 0 (va_A [(h0, .inr (10, mo q (upd v 8 0)))] sz) := by
  refine tw_metW (l := l) (g := g) (y := y_Mod_fail) (cc := b_Mod_fail) (maxL := 3) (ret := none) (rm := { frames := 0, cells := 0, slots := 0, locals := 0 }) (mc := 0) (ms := 0) (av := [.ref h0, .int a, .int b]) (ws := [(h0, .inr (10, mo q (upd v 8 0)))]) (sz := sz) (Qc := fun A => (tw_Qv g (fun _ => True) (fun u : Unit => [(h0, .inr (10, mo q (upd (upd v 8 a) 9 b)))]) A)) (by decide) (Nat.le_of_ble_eq_true rfl) ?_
  intro p e s m below meth c ls H A E hB hK hZ hP hD hS hA hl
  obtain ⟨hx, hb, hml, hr, hown, hts, hlocks, hin⟩ := id E
  have hl : lv_has ls 3 [(0, .ref h0), (1, .int a), (2, .int b)] := hl
  refine lv_aload_n hx hb d_Mod_fail_0 rfl (lv_at hl 0 rfl) ?_
  refine va_get (D := g.1) (ci := 10) (v := .int 0) (C := R_Mod) (T := F_Mod) (N := 61) hx hb hts in_Mod hown hK hP 0 rfl rfl 8 (by decide) (hts _ wd_1258) (fun _ h9 => h9) rfl d_Mod_fail_1 ?_
  refine lv_if_ne (tgt := 17) hx hb d_Mod_fail_4 (by decide) (fun h4 => ?_) (fun h4 => ?_)
  · exact absurd rfl h4
  · refine lv_aload_n hx hb d_Mod_fail_7 rfl (lv_at hl 0 rfl) ?_
    refine lv_iload_n hx hb d_Mod_fail_8 rfl (lv_at hl 1 rfl) ?_
    refine va_put (D := g.1) (ci := 10) (v := .int a) (ty := .int) (C := R_Mod) (T := F_Mod) (N := 61) hx hb hts in_Mod t_Mod t_Mod_ok n_Mod hown hK hP hD hS 0 rfl rfl 8 (by decide) (hts _ wd_1258) (fun _ h9 => h9) rfl (t_Mod_ok 8 (by decide)) rfl rfl (Nat.le_of_ble_eq_true rfl) d_Mod_fail_9 (fun H locs hP hD hS => ?_)
    have hP : va_P g.1 classes [(h0, .inr (10, mo q (upd v 8 a)))] H := hP
    have hD : va_D A [(h0, .inr (10, mo q (upd v 8 a)))] := hD
    refine lv_aload_n hx hb d_Mod_fail_12 rfl (lv_at hl 0 rfl) ?_
    refine lv_iload_n hx hb d_Mod_fail_13 rfl (lv_at hl 2 rfl) ?_
    refine va_put (D := g.1) (ci := 10) (v := .int b) (ty := .int) (C := R_Mod) (T := F_Mod) (N := 61) hx hb hts in_Mod t_Mod t_Mod_ok n_Mod hown hK hP hD hS 0 rfl rfl 9 (by decide) (hts _ wd_1259) (fun _ h9 => h9) rfl (t_Mod_ok 9 (by decide)) rfl rfl (Nat.le_of_ble_eq_true rfl) d_Mod_fail_14 (fun H locs hP hD hS => ?_)
    have hP : va_P g.1 classes [(h0, .inr (10, mo q (upd (upd v 8 a) 9 b)))] H := hP
    have hD : va_D A [(h0, .inr (10, mo q (upd (upd v 8 a) 9 b)))] := hD
    exact tw_vret E hS () trivial hP hD d_Mod_fail_17
set_option maxHeartbeats 4000000 in
set_option maxRecDepth 100000 in
theorem c_Mod_number0 (l : Launch) (g : tw_G) (sz : Nat) (h0 : Nat) (q : Nat → Nat) (v : Nat → Int32) : Met l y_Mod_number [.code y_Mod_number b_Mod_number 5 (some .long)] ({ frames := 1, cells := 0, slots := 0, locals := 22 }) (tw_P g [.ref h0, .int 4] [(h0, .inr (10, mo q (upd (upd (upd (upd v 8 0) 10 0) 11 0) 12 0)))] sz) (tw_Ql g (fun r _ => r = 0) (fun u : Unit => [(h0, .inr (10, mo q (upd (upd (upd (upd (upd v 8 1) 9 0) 10 0) 11 0) 12 0)))]) (va_A [(h0, .inr (10, mo q (upd (upd (upd (upd v 8 0) 10 0) 11 0) 12 0)))] sz)) 0 0 (va_A [(h0, .inr (10, mo q (upd (upd (upd (upd v 8 0) 10 0) 11 0) 12 0)))] sz) := by
  refine tw_metW (l := l) (g := g) (y := y_Mod_number) (cc := b_Mod_number) (maxL := 5) (ret := (some .long)) (rm := { frames := 1, cells := 0, slots := 0, locals := 22 }) (mc := 0) (ms := 0) (av := [.ref h0, .int 4]) (ws := [(h0, .inr (10, mo q (upd (upd (upd (upd v 8 0) 10 0) 11 0) 12 0)))]) (sz := sz) (Qc := fun A => (tw_Ql g (fun r _ => r = 0) (fun u : Unit => [(h0, .inr (10, mo q (upd (upd (upd (upd (upd v 8 1) 9 0) 10 0) 11 0) 12 0)))]) A)) (by decide) (Nat.le_of_ble_eq_true rfl) ?_
  intro p e s m below meth c ls H A E hB hK hZ hP hD hS hA hl
  obtain ⟨hx, hb, hml, hr, hown, hts, hlocks, hin⟩ := id E
  have hl : lv_has ls 5 [(0, .ref h0), (1, .int 4)] := hl
  refine lv_aload_n hx hb d_Mod_number_0 rfl (lv_at hl 0 rfl) ?_
  refine va_get (D := g.1) (ci := 10) (v := .int 0) (C := R_Mod) (T := F_Mod) (N := 61) hx hb hts in_Mod hown hK hP 0 rfl rfl 8 (by decide) (hts _ wd_1258) (fun _ h9 => h9) rfl d_Mod_number_1 ?_
  refine lv_if_eq (tgt := 9) hx hb d_Mod_number_4 (by decide) (fun h4 => ?_) (fun h4 => ?_)
  · refine lv_aload_n hx hb d_Mod_number_9 rfl (lv_at hl 0 rfl) ?_
    refine va_get (D := g.1) (ci := 10) (v := .int 0) (C := R_Mod) (T := F_Mod) (N := 61) hx hb hts in_Mod hown hK hP 0 rfl rfl 10 (by decide) (hts _ wd_1260) (fun _ h9 => h9) rfl d_Mod_number_10 ?_
    refine lv_iload_n hx hb d_Mod_number_13 rfl (lv_at hl 1 rfl) ?_
    refine lv_iadd hx hb d_Mod_number_14 ?_
    refine lv_aload_n hx hb d_Mod_number_15 rfl (lv_at hl 0 rfl) ?_
    refine va_get (D := g.1) (ci := 10) (v := .int 0) (C := R_Mod) (T := F_Mod) (N := 61) hx hb hts in_Mod hown hK hP 0 rfl rfl 11 (by decide) (hts _ wd_1261) (fun _ h9 => h9) rfl d_Mod_number_16 ?_
    refine lv_icmp_le (tgt := 59) hx hb d_Mod_number_19 (by decide) (fun h19 => ?_) (fun h19 => ?_)
    · exact absurd h19 (by decide)
    · refine lv_aload_n hx hb d_Mod_number_22 rfl (lv_at hl 0 rfl) ?_
      refine lv_aload_n hx hb d_Mod_number_23 rfl (lv_at hl 0 rfl) ?_
      refine va_get (D := g.1) (ci := 10) (v := .int 0) (C := R_Mod) (T := F_Mod) (N := 61) hx hb hts in_Mod hown hK hP 0 rfl rfl 12 (by decide) (hts _ wd_1262) (fun _ h9 => h9) rfl d_Mod_number_24 ?_
      refine lv_if_le (tgt := 35) hx hb d_Mod_number_27 (by decide) (fun h27 => ?_) (fun h27 => ?_)
      · refine lv_iconst (v := 1) hx hb d_Mod_number_35 (by decide) ?_
        refine lv_aload_n hx hb d_Mod_number_36 rfl (lv_at hl 0 rfl) ?_
        refine va_get (D := g.1) (ci := 10) (v := .int 0) (C := R_Mod) (T := F_Mod) (N := 61) hx hb hts in_Mod hown hK hP 0 rfl rfl 12 (by decide) (hts _ wd_1262) (fun _ h9 => h9) rfl d_Mod_number_37 ?_
        refine lv_if_le (tgt := 50) hx hb d_Mod_number_40 (by decide) (fun h40 => ?_) (fun h40 => ?_)
        · refine lv_aload_n hx hb d_Mod_number_50 rfl (lv_at hl 0 rfl) ?_
          refine va_get (D := g.1) (ci := 10) (v := .int 0) (C := R_Mod) (T := F_Mod) (N := 61) hx hb hts in_Mod hown hK hP 0 rfl rfl 10 (by decide) (hts _ wd_1260) (fun _ h9 => h9) rfl d_Mod_number_51 ?_
          refine tw_wv (wr := []) (tw_runV (ws := [(h0, .inr (10, mo q (upd (upd (upd (upd v 8 0) 10 0) 11 0) 12 0)))]) (wc := [(h0, .inr (10, mo q (upd (upd (upd (upd v 8 0) 10 0) 11 0) 12 0)))]) (As := [.int 1, .int 0]) (rest := []) E hB hK hZ (c_Mod_fail l g H.size h0 q (upd (upd (upd (upd v 8 0) 10 0) 11 0) 12 0) 1 0) mc_Mod_fail mi_Mod_fail me_Mod_fail wd_1478 hP hD hS hA [0] rfl (by decide) 0 rfl rfl rfl rfl rfl (by decide) rfl hl.1 rfl (Nat.le_of_ble_eq_true rfl) (by decide) d_Mod_number_54) hP hD hS hA [0] [] rfl rfl (by decide) (by decide) (fun u2 H locs hr1 hP hD hS => ?_)
          try dsimp only at hr1
          have hP : va_P g.1 classes [(h0, .inr (10, mo q (upd (upd (upd (upd (upd v 8 1) 9 0) 10 0) 11 0) 12 0)))] H := hP
          have hD : va_D A [(h0, .inr (10, mo q (upd (upd (upd (upd (upd v 8 1) 9 0) 10 0) 11 0) 12 0)))] := hD
          have hP : va_P g.1 classes [(h0, .inr (10, mo q (upd (upd (upd (upd (upd v 8 1) 9 0) 10 0) 11 0) 12 0)))] H := hP.sub [0] rfl
          have hD : va_D A [(h0, .inr (10, mo q (upd (upd (upd (upd (upd v 8 1) 9 0) 10 0) 11 0) 12 0)))] := hD.sub [0] (by decide) rfl
          refine lv_lconst (v := 0) hx hb d_Mod_number_57 (by decide) ?_
          exact tw_lret E hS () rfl hP hD d_Mod_number_58
        · exact absurd h40 (by decide)
      · exact absurd h27 (by decide)
  · exact absurd rfl h4
set_option maxHeartbeats 4000000 in
set_option maxRecDepth 100000 in
theorem c_Mod_readConstantsF (l : Launch) (g : tw_G) (sz : Nat) (h0 : Nat) (q : Nat → Nat) (v : Nat → Int32) (fa : Int32) (ft : Nat → Int32) (hf : ¬ fa = 0) : Met l y_Mod_readConstants [.code y_Mod_readConstants b_Mod_readConstants 4 none] ({ frames := 2, cells := 0, slots := 0, locals := 44 }) (tw_P g [.ref h0] [(h0, .inr (10, mo q (upd v 8 fa))), ((q 14), aI g 620 ft)] sz) (tw_Qv g (fun _ => True) (fun u : Unit => [(h0, .inr (10, mo q (upd (upd v 8 fa) 13 0))), ((q 14), aI g 620 (fun _ => 0))]) (va_A [(h0, .inr (10, mo q (upd v 8 fa))), ((q 14), aI g 620 ft)] sz)) 0 0 (va_A [(h0, .inr (10, mo q (upd v 8 fa))), ((q 14), aI g 620 ft)] sz) := by
  refine tw_metW (l := l) (g := g) (y := y_Mod_readConstants) (cc := b_Mod_readConstants) (maxL := 4) (ret := none) (rm := { frames := 2, cells := 0, slots := 0, locals := 44 }) (mc := 0) (ms := 0) (av := [.ref h0]) (ws := [(h0, .inr (10, mo q (upd v 8 fa))), ((q 14), aI g 620 ft)]) (sz := sz) (Qc := fun A => (tw_Qv g (fun _ => True) (fun u : Unit => [(h0, .inr (10, mo q (upd (upd v 8 fa) 13 0))), ((q 14), aI g 620 (fun _ => 0))]) A)) (by decide) (Nat.le_of_ble_eq_true rfl) ?_
  intro p e s m below meth c ls H A E hB hK hZ hP hD hS hA hl
  obtain ⟨hx, hb, hml, hr, hown, hts, hlocks, hin⟩ := id E
  have hl : lv_has ls 4 [(0, .ref h0)] := hl
  refine lv_aload_n hx hb d_Mod_readConstants_0 rfl (lv_at hl 0 rfl) ?_
  refine lv_aload_n hx hb d_Mod_readConstants_1 rfl (lv_at hl 0 rfl) ?_
  refine tw_si (tw_runV (ws := [(h0, .inr (10, mo q (upd v 8 fa))), ((q 14), aI g 620 ft)]) (wc := [(h0, .inr (10, mo q (upd v 8 fa)))]) (As := []) (rest := [.ref h0]) E hB hK hZ (c_Mod_u2F l g H.size h0 q (upd v 8 fa) fa hf) mc_Mod_u2 mi_Mod_u2 me_Mod_u2 wd_1484 hP hD hS hA [0] rfl (by decide) 0 rfl rfl rfl rfl rfl (by decide) rfl hl.1 rfl (Nat.le_of_ble_eq_true rfl) (by decide) d_Mod_readConstants_2) (fun r1 hr1 => ?_)
  obtain rfl : r1 = 0 := hr1
  refine va_put (D := g.1) (ci := 10) (v := .int 0) (ty := .int) (C := R_Mod) (T := F_Mod) (N := 61) hx hb hts in_Mod t_Mod t_Mod_ok n_Mod hown hK hP hD hS 0 rfl rfl 13 (by decide) (hts _ wd_1263) (fun _ h9 => h9) rfl (t_Mod_ok 13 (by decide)) rfl rfl (Nat.le_of_ble_eq_true rfl) d_Mod_readConstants_5 (fun H locs hP hD hS => ?_)
  have hP : va_P g.1 classes [(h0, .inr (10, mo q (upd (upd v 8 fa) 13 0))), ((q 14), aI g 620 ft)] H := hP
  have hD : va_D A [(h0, .inr (10, mo q (upd (upd v 8 fa) 13 0))), ((q 14), aI g 620 ft)] := hD
  refine lv_iconst (v := 0) hx hb d_Mod_readConstants_8 (by decide) ?_
  refine lv_istore_n hx hb d_Mod_readConstants_9 rfl hl (by decide) rfl (fun ls hl => ?_)
  have hl : lv_has ls 4 [(1, .int 0), (0, .ref h0)] := hl
  have loop10 : ∀ (k : Nat) (i : Nat) (ls : Array Slot) (H : Heap) (locs : List Loc) , 620 - i = k → (hi : i ≤ 620) → lv_has ls 4 [(1, .int (nI i)), (0, .ref h0)] → va_P g.1 classes [(h0, .inr (10, mo q (upd (upd v 8 fa) 13 0))), ((q 14), aI g 620 (fl_f ft 0 i))] H → va_D A [(h0, .inr (10, mo q (upd (upd v 8 fa) 13 0))), ((q 14), aI g 620 (fl_f ft 0 i))] → va_S A s.heap H locs → W p l e ({ frames := 2, cells := 0, slots := 0, locals := 44 }) s m [.ref h0].toArray below meth c H locs 0 0 (MQ below (tw_Qv g (fun _ => True) (fun u : Unit => [(h0, .inr (10, mo q (upd (upd v 8 fa) 13 0))), ((q 14), aI g 620 (fun _ => 0))]) A) [.ref h0].toArray s 0 0 A) (F0 m 10 ls []) := by
    intro k
    induction k using Nat.strongRecOn with
    | _ k ih =>
      intro i ls H locs hk hi hl hP hD hS
      refine lv_iload_n hx hb d_Mod_readConstants_10 rfl (lv_at hl 0 rfl) ?_
      refine lv_sipush (v := 620) hx hb d_Mod_readConstants_11 (by decide) ?_
      refine lv_icmp_ge (tgt := 30) hx hb d_Mod_readConstants_14 (by decide) (fun h14 => ?_) (fun h14 => ?_)
      · have h14 := tn_le (a := 620) h14 (by decide) (by omega)
        obtain rfl : i = 620 := by omega
        refine lv_iconst (v := 1) hx hb d_Mod_readConstants_30 (by decide) ?_
        refine lv_istore_n hx hb d_Mod_readConstants_31 rfl hl (by decide) rfl (fun ls hl => ?_)
        have hl : lv_has ls 4 [(1, .int 1), (0, .ref h0)] := hl
        refine lv_iload_n hx hb d_Mod_readConstants_32 rfl (lv_at hl 0 rfl) ?_
        refine lv_aload_n hx hb d_Mod_readConstants_33 rfl (lv_at hl 1 rfl) ?_
        refine va_get (D := g.1) (ci := 10) (v := .int 0) (C := R_Mod) (T := F_Mod) (N := 61) hx hb hts in_Mod hown hK hP 0 rfl rfl 13 (by decide) (hts _ wd_1263) (fun _ h9 => h9) rfl d_Mod_readConstants_34 ?_
        refine lv_icmp_ge (tgt := 91) hx hb d_Mod_readConstants_37 (by decide) (fun h37 => ?_) (fun h37 => ?_)
        · exact tw_vret E hS () trivial (tw_Pext hP 1 rfl fl_fN) (hD.set (p := 1) rfl) d_Mod_readConstants_91
        · exact absurd h37 (by decide)
      · have h14 := tn_nle (a := 620) h14 (by decide) (by omega)
        refine lv_aload_n hx hb d_Mod_readConstants_17 rfl (lv_at hl 1 rfl) ?_
        refine va_get (D := g.1) (ci := 10) (v := .ref (q 14)) (C := R_Mod) (T := F_Mod) (N := 61) hx hb hts in_Mod hown hK hP 0 rfl rfl 14 (by decide) (hts _ wd_1264) (fun _ h9 => h9) rfl d_Mod_readConstants_18 ?_
        refine lv_iload_n hx hb d_Mod_readConstants_21 rfl (lv_at hl 0 rfl) ?_
        refine lv_iconst (v := 0) hx hb d_Mod_readConstants_22 (by decide) ?_
        refine va_iast hx hb hK hP hD hS 1 0 rfl rfl (vp_in_nI h14 (by decide)) d_Mod_readConstants_23 (fun H locs hP hD hS => ?_)
        have hP : va_P g.1 classes [(h0, .inr (10, mo q (upd (upd v 8 fa) 13 0))), ((q 14), aI g 620 (upd (fl_f ft 0 i) (nI i).toNatClampNeg 0))] H := hP
        have hD : va_D A [(h0, .inr (10, mo q (upd (upd v 8 fa) 13 0))), ((q 14), aI g 620 (upd (fl_f ft 0 i) (nI i).toNatClampNeg 0))] := hD
        have e9 : upd (fl_f ft 0 i) (nI i).toNatClampNeg 0 = fl_f ft 0 (i + 1) := by rw [nI_clamp (by omega), fl_fs]
        rw [e9] at hP hD
        refine lv_iinc (k := 0) (v := nI (i + 1)) hx hb d_Mod_readConstants_24 hl rfl ((nI_succ i).symm) (by decide) rfl (fun ls hl => ?_)
        have hl : lv_has ls 4 [(1, .int (nI (i + 1))), (0, .ref h0)] := hl
        refine lv_goto (tgt := 10) hx hb d_Mod_readConstants_27 (by decide) ?_
        exact ih _ (by omega) (i + 1) ls _ _ rfl (by omega) (lv_sub hl [0, 1] rfl) hP hD hS
  rw [fl_f0 ft 0] at hP hD
  exact loop10 _ 0 ls _ _ rfl (Nat.zero_le _) (hl) hP hD hS
set_option maxHeartbeats 4000000 in
set_option maxRecDepth 100000 in
theorem c_Mod_readMembersF (l : Launch) (g : tw_G) (sz : Nat) (h0 : Nat) (q : Nat → Nat) (v : Nat → Int32) (fa a : Int32) (hf : ¬ fa = 0) : Met l y_Mod_readMembers [.code y_Mod_readMembers b_Mod_readMembers 7 none] ({ frames := 2, cells := 0, slots := 0, locals := 44 }) (tw_P g [.ref h0, .int a] [(h0, .inr (10, mo q (upd v 8 fa)))] sz) (tw_Qv g (fun _ => True) (fun u : Unit => [(h0, .inr (10, mo q (upd v 8 fa)))]) (va_A [(h0, .inr (10, mo q (upd v 8 fa)))] sz)) 0 0 (va_A [(h0, .inr (10, mo q (upd v 8 fa)))] sz) := by
  refine tw_metW (l := l) (g := g) (y := y_Mod_readMembers) (cc := b_Mod_readMembers) (maxL := 7) (ret := none) (rm := { frames := 2, cells := 0, slots := 0, locals := 44 }) (mc := 0) (ms := 0) (av := [.ref h0, .int a]) (ws := [(h0, .inr (10, mo q (upd v 8 fa)))]) (sz := sz) (Qc := fun A => (tw_Qv g (fun _ => True) (fun u : Unit => [(h0, .inr (10, mo q (upd v 8 fa)))]) A)) (by decide) (Nat.le_of_ble_eq_true rfl) ?_
  intro p e s m below meth c ls H A E hB hK hZ hP hD hS hA hl
  obtain ⟨hx, hb, hml, hr, hown, hts, hlocks, hin⟩ := id E
  have hl : lv_has ls 7 [(0, .ref h0), (1, .int a)] := hl
  refine lv_aload_n hx hb d_Mod_readMembers_0 rfl (lv_at hl 0 rfl) ?_
  refine tw_si (tw_runV (ws := [(h0, .inr (10, mo q (upd v 8 fa)))]) (wc := [(h0, .inr (10, mo q (upd v 8 fa)))]) (As := []) (rest := []) E hB hK hZ (c_Mod_u2F l g H.size h0 q (upd v 8 fa) fa hf) mc_Mod_u2 mi_Mod_u2 me_Mod_u2 wd_1484 hP hD hS hA [0] rfl (by decide) 0 rfl rfl rfl rfl rfl (by decide) rfl hl.1 rfl (Nat.le_of_ble_eq_true rfl) (by decide) d_Mod_readMembers_1) (fun r1 hr1 => ?_)
  obtain rfl : r1 = 0 := hr1
  refine lv_istore_n hx hb d_Mod_readMembers_4 rfl hl (by decide) rfl (fun ls hl => ?_)
  have hl : lv_has ls 7 [(2, .int 0), (0, .ref h0), (1, .int a)] := hl
  refine lv_iconst (v := 0) hx hb d_Mod_readMembers_5 (by decide) ?_
  refine lv_istore_n hx hb d_Mod_readMembers_6 rfl hl (by decide) rfl (fun ls hl => ?_)
  have hl : lv_has ls 7 [(3, .int 0), (2, .int 0), (0, .ref h0), (1, .int a)] := hl
  refine lv_iload_n hx hb d_Mod_readMembers_7 rfl (lv_at hl 0 rfl) ?_
  refine lv_iload_n hx hb d_Mod_readMembers_8 rfl (lv_at hl 1 rfl) ?_
  refine lv_icmp_ge (tgt := 153) hx hb d_Mod_readMembers_9 (by decide) (fun h9 => ?_) (fun h9 => ?_)
  · exact tw_vret E hS () trivial hP hD d_Mod_readMembers_153
  · exact absurd h9 (by decide)
set_option maxHeartbeats 4000000 in
set_option maxRecDepth 100000 in
theorem c_Mod_readAttributesF (l : Launch) (g : tw_G) (sz : Nat) (h0 : Nat) (q : Nat → Nat) (v : Nat → Int32) (fa : Int32) (hf : ¬ fa = 0) : Met l y_Mod_readAttributes [.code y_Mod_readAttributes b_Mod_readAttributes 3 none] ({ frames := 2, cells := 0, slots := 0, locals := 44 }) (tw_P g [.ref h0] [(h0, .inr (10, mo q (upd v 8 fa)))] sz) (tw_Qv g (fun _ => True) (fun u : Unit => [(h0, .inr (10, mo q (upd v 8 fa)))]) (va_A [(h0, .inr (10, mo q (upd v 8 fa)))] sz)) 0 0 (va_A [(h0, .inr (10, mo q (upd v 8 fa)))] sz) := by
  refine tw_metW (l := l) (g := g) (y := y_Mod_readAttributes) (cc := b_Mod_readAttributes) (maxL := 3) (ret := none) (rm := { frames := 2, cells := 0, slots := 0, locals := 44 }) (mc := 0) (ms := 0) (av := [.ref h0]) (ws := [(h0, .inr (10, mo q (upd v 8 fa)))]) (sz := sz) (Qc := fun A => (tw_Qv g (fun _ => True) (fun u : Unit => [(h0, .inr (10, mo q (upd v 8 fa)))]) A)) (by decide) (Nat.le_of_ble_eq_true rfl) ?_
  intro p e s m below meth c ls H A E hB hK hZ hP hD hS hA hl
  obtain ⟨hx, hb, hml, hr, hown, hts, hlocks, hin⟩ := id E
  have hl : lv_has ls 3 [(0, .ref h0)] := hl
  refine lv_aload_n hx hb d_Mod_readAttributes_0 rfl (lv_at hl 0 rfl) ?_
  refine tw_si (tw_runV (ws := [(h0, .inr (10, mo q (upd v 8 fa)))]) (wc := [(h0, .inr (10, mo q (upd v 8 fa)))]) (As := []) (rest := []) E hB hK hZ (c_Mod_u2F l g H.size h0 q (upd v 8 fa) fa hf) mc_Mod_u2 mi_Mod_u2 me_Mod_u2 wd_1484 hP hD hS hA [0] rfl (by decide) 0 rfl rfl rfl rfl rfl (by decide) rfl hl.1 rfl (Nat.le_of_ble_eq_true rfl) (by decide) d_Mod_readAttributes_1) (fun r1 hr1 => ?_)
  obtain rfl : r1 = 0 := hr1
  refine lv_istore_n hx hb d_Mod_readAttributes_4 rfl hl (by decide) rfl (fun ls hl => ?_)
  have hl : lv_has ls 3 [(1, .int 0), (0, .ref h0)] := hl
  refine lv_iconst (v := 0) hx hb d_Mod_readAttributes_5 (by decide) ?_
  refine lv_istore_n hx hb d_Mod_readAttributes_6 rfl hl (by decide) rfl (fun ls hl => ?_)
  have hl : lv_has ls 3 [(2, .int 0), (1, .int 0), (0, .ref h0)] := hl
  refine lv_iload_n hx hb d_Mod_readAttributes_7 rfl (lv_at hl 0 rfl) ?_
  refine lv_iload_n hx hb d_Mod_readAttributes_8 rfl (lv_at hl 1 rfl) ?_
  refine lv_icmp_ge (tgt := 29) hx hb d_Mod_readAttributes_9 (by decide) (fun h9 => ?_) (fun h9 => ?_)
  · exact tw_vret E hS () trivial hP hD d_Mod_readAttributes_29
  · exact absurd h9 (by decide)
set_option maxHeartbeats 4000000 in
set_option maxRecDepth 100000 in
theorem c_Mod_read0 (l : Launch) (g : tw_G) (sz : Nat) (h0 : Nat) (q : Nat → Nat) (v : Nat → Int32) (ft : Nat → Int32) : Met l y_Mod_read [.code y_Mod_read b_Mod_read 5 none] ({ frames := 3, cells := 0, slots := 0, locals := 74 }) (tw_P g [.ref h0] [(h0, .inr (10, mo q (upd (upd v 1 0) 8 0))), ((q 14), aI g 620 ft)] sz) (tw_Qv g (fun _ => True) (fun u : Unit => [(h0, .inr (10, mo q (upd (upd (upd (upd (upd (upd (upd (upd (upd (upd (upd (upd (upd (upd (upd v 1 0) 8 1) 9 0) 10 0) 11 0) 12 0) 13 0) 18 0) 19 0) 20 0) 21 0) 24 0) 25 0) 26 0) 38 0))), ((q 14), aI g 620 (fun _ => 0))]) (va_A [(h0, .inr (10, mo q (upd (upd v 1 0) 8 0))), ((q 14), aI g 620 ft)] sz)) 0 0 (va_A [(h0, .inr (10, mo q (upd (upd v 1 0) 8 0))), ((q 14), aI g 620 ft)] sz) := by
  refine tw_metW (l := l) (g := g) (y := y_Mod_read) (cc := b_Mod_read) (maxL := 5) (ret := none) (rm := { frames := 3, cells := 0, slots := 0, locals := 74 }) (mc := 0) (ms := 0) (av := [.ref h0]) (ws := [(h0, .inr (10, mo q (upd (upd v 1 0) 8 0))), ((q 14), aI g 620 ft)]) (sz := sz) (Qc := fun A => (tw_Qv g (fun _ => True) (fun u : Unit => [(h0, .inr (10, mo q (upd (upd (upd (upd (upd (upd (upd (upd (upd (upd (upd (upd (upd (upd (upd v 1 0) 8 1) 9 0) 10 0) 11 0) 12 0) 13 0) 18 0) 19 0) 20 0) 21 0) 24 0) 25 0) 26 0) 38 0))), ((q 14), aI g 620 (fun _ => 0))]) A)) (by decide) (Nat.le_of_ble_eq_true rfl) ?_
  intro p e s m below meth c ls H A E hB hK hZ hP hD hS hA hl
  obtain ⟨hx, hb, hml, hr, hown, hts, hlocks, hin⟩ := id E
  have hl : lv_has ls 5 [(0, .ref h0)] := hl
  refine lv_aload_n hx hb d_Mod_read_0 rfl (lv_at hl 0 rfl) ?_
  refine lv_iconst (v := 0) hx hb d_Mod_read_1 (by decide) ?_
  refine va_put (D := g.1) (ci := 10) (v := .int 0) (ty := .int) (C := R_Mod) (T := F_Mod) (N := 61) hx hb hts in_Mod t_Mod t_Mod_ok n_Mod hown hK hP hD hS 0 rfl rfl 10 (by decide) (hts _ wd_1260) (fun _ h9 => h9) rfl (t_Mod_ok 10 (by decide)) rfl rfl (Nat.le_of_ble_eq_true rfl) d_Mod_read_2 (fun H locs hP hD hS => ?_)
  have hP : va_P g.1 classes [(h0, .inr (10, mo q (upd (upd (upd v 1 0) 8 0) 10 0))), ((q 14), aI g 620 ft)] H := hP
  have hD : va_D A [(h0, .inr (10, mo q (upd (upd (upd v 1 0) 8 0) 10 0))), ((q 14), aI g 620 ft)] := hD
  refine lv_aload_n hx hb d_Mod_read_5 rfl (lv_at hl 0 rfl) ?_
  refine lv_aload_n hx hb d_Mod_read_6 rfl (lv_at hl 0 rfl) ?_
  refine va_get (D := g.1) (ci := 10) (v := .int 0) (C := R_Mod) (T := F_Mod) (N := 61) hx hb hts in_Mod hown hK hP 0 rfl rfl 1 (by decide) (hts _ wd_1251) (fun _ h9 => h9) rfl d_Mod_read_7 ?_
  refine va_put (D := g.1) (ci := 10) (v := .int 0) (ty := .int) (C := R_Mod) (T := F_Mod) (N := 61) hx hb hts in_Mod t_Mod t_Mod_ok n_Mod hown hK hP hD hS 0 rfl rfl 11 (by decide) (hts _ wd_1261) (fun _ h9 => h9) rfl (t_Mod_ok 11 (by decide)) rfl rfl (Nat.le_of_ble_eq_true rfl) d_Mod_read_10 (fun H locs hP hD hS => ?_)
  have hP : va_P g.1 classes [(h0, .inr (10, mo q (upd (upd (upd (upd v 1 0) 8 0) 10 0) 11 0))), ((q 14), aI g 620 ft)] H := hP
  have hD : va_D A [(h0, .inr (10, mo q (upd (upd (upd (upd v 1 0) 8 0) 10 0) 11 0))), ((q 14), aI g 620 ft)] := hD
  refine lv_aload_n hx hb d_Mod_read_13 rfl (lv_at hl 0 rfl) ?_
  refine lv_iconst (v := 0) hx hb d_Mod_read_14 (by decide) ?_
  refine va_put (D := g.1) (ci := 10) (v := .int 0) (ty := .int) (C := R_Mod) (T := F_Mod) (N := 61) hx hb hts in_Mod t_Mod t_Mod_ok n_Mod hown hK hP hD hS 0 rfl rfl 12 (by decide) (hts _ wd_1262) (fun _ h9 => h9) rfl (t_Mod_ok 12 (by decide)) rfl rfl (Nat.le_of_ble_eq_true rfl) d_Mod_read_15 (fun H locs hP hD hS => ?_)
  have hP : va_P g.1 classes [(h0, .inr (10, mo q (upd (upd (upd (upd (upd v 1 0) 8 0) 10 0) 11 0) 12 0))), ((q 14), aI g 620 ft)] H := hP
  have hD : va_D A [(h0, .inr (10, mo q (upd (upd (upd (upd (upd v 1 0) 8 0) 10 0) 11 0) 12 0))), ((q 14), aI g 620 ft)] := hD
  refine lv_aload_n hx hb d_Mod_read_18 rfl (lv_at hl 0 rfl) ?_
  refine lv_iconst (v := 0) hx hb d_Mod_read_19 (by decide) ?_
  refine va_put (D := g.1) (ci := 10) (v := .int 0) (ty := .int) (C := R_Mod) (T := F_Mod) (N := 61) hx hb hts in_Mod t_Mod t_Mod_ok n_Mod hown hK hP hD hS 0 rfl rfl 25 (by decide) (hts _ wd_1275) (fun _ h9 => h9) rfl (t_Mod_ok 25 (by decide)) rfl rfl (Nat.le_of_ble_eq_true rfl) d_Mod_read_20 (fun H locs hP hD hS => ?_)
  have hP : va_P g.1 classes [(h0, .inr (10, mo q (upd (upd (upd (upd (upd (upd v 1 0) 8 0) 10 0) 11 0) 12 0) 25 0))), ((q 14), aI g 620 ft)] H := hP
  have hD : va_D A [(h0, .inr (10, mo q (upd (upd (upd (upd (upd (upd v 1 0) 8 0) 10 0) 11 0) 12 0) 25 0))), ((q 14), aI g 620 ft)] := hD
  refine lv_aload_n hx hb d_Mod_read_23 rfl (lv_at hl 0 rfl) ?_
  refine lv_iconst (v := 0) hx hb d_Mod_read_24 (by decide) ?_
  refine va_put (D := g.1) (ci := 10) (v := .int 0) (ty := .int) (C := R_Mod) (T := F_Mod) (N := 61) hx hb hts in_Mod t_Mod t_Mod_ok n_Mod hown hK hP hD hS 0 rfl rfl 38 (by decide) (hts _ wd_1288) (fun _ h9 => h9) rfl (t_Mod_ok 38 (by decide)) rfl rfl (Nat.le_of_ble_eq_true rfl) d_Mod_read_25 (fun H locs hP hD hS => ?_)
  have hP : va_P g.1 classes [(h0, .inr (10, mo q (upd (upd (upd (upd (upd (upd (upd v 1 0) 8 0) 10 0) 11 0) 12 0) 25 0) 38 0))), ((q 14), aI g 620 ft)] H := hP
  have hD : va_D A [(h0, .inr (10, mo q (upd (upd (upd (upd (upd (upd (upd v 1 0) 8 0) 10 0) 11 0) 12 0) 25 0) 38 0))), ((q 14), aI g 620 ft)] := hD
  refine lv_aload_n hx hb d_Mod_read_28 rfl (lv_at hl 0 rfl) ?_
  refine lv_iconst (v := 4) hx hb d_Mod_read_29 (by decide) ?_
  refine tw_wl (wr := [((q 14), aI g 620 ft)]) (tw_runV (ws := [(h0, .inr (10, mo q (upd (upd (upd (upd (upd (upd (upd v 1 0) 8 0) 10 0) 11 0) 12 0) 25 0) 38 0))), ((q 14), aI g 620 ft)]) (wc := [(h0, .inr (10, mo q (upd (upd (upd (upd (upd (upd (upd v 1 0) 8 0) 10 0) 11 0) 12 0) 25 0) 38 0)))]) (As := [.int 4]) (rest := []) E hB hK hZ (c_Mod_number0 l g H.size h0 q (upd (upd (upd (upd (upd (upd (upd v 1 0) 8 0) 10 0) 11 0) 12 0) 25 0) 38 0)) mc_Mod_number mi_Mod_number me_Mod_number wd_1474 hP hD hS hA [0] rfl (by decide) 0 rfl rfl rfl rfl rfl (by decide) rfl hl.1 rfl (Nat.le_of_ble_eq_true rfl) (by decide) d_Mod_read_30) hP hD hS hA [0] [1] rfl rfl (by decide) (by decide) (fun r1 u2 H locs hr1 hP hD hS => ?_)
  try dsimp only at hr1
  have hP : va_P g.1 classes [((q 14), aI g 620 ft), (h0, .inr (10, mo q (upd (upd (upd (upd (upd (upd (upd (upd v 1 0) 8 1) 9 0) 10 0) 11 0) 12 0) 25 0) 38 0)))] H := hP
  have hD : va_D A [((q 14), aI g 620 ft), (h0, .inr (10, mo q (upd (upd (upd (upd (upd (upd (upd (upd v 1 0) 8 1) 9 0) 10 0) 11 0) 12 0) 25 0) 38 0)))] := hD
  obtain rfl : r1 = 0 := hr1
  have hP : va_P g.1 classes [(h0, .inr (10, mo q (upd (upd (upd (upd (upd (upd (upd (upd v 1 0) 8 1) 9 0) 10 0) 11 0) 12 0) 25 0) 38 0))), ((q 14), aI g 620 ft)] H := hP.sub [1, 0] rfl
  have hD : va_D A [(h0, .inr (10, mo q (upd (upd (upd (upd (upd (upd (upd (upd v 1 0) 8 1) 9 0) 10 0) 11 0) 12 0) 25 0) 38 0))), ((q 14), aI g 620 ft)] := hD.sub [1, 0] (by decide) rfl
  refine lv_lstore_n hx hb d_Mod_read_33 rfl hl (by decide) rfl (fun ls hl => ?_)
  have hl : lv_has ls 5 [(1, .long 0), (0, .ref h0)] := hl
  refine lv_aload_n hx hb d_Mod_read_34 rfl (lv_at hl 1 rfl) ?_
  refine va_get (D := g.1) (ci := 10) (v := .int 1) (C := R_Mod) (T := F_Mod) (N := 61) hx hb hts in_Mod hown hK hP 0 rfl rfl 8 (by decide) (hts _ wd_1258) (fun _ h9 => h9) rfl d_Mod_read_35 ?_
  refine lv_if_ne (tgt := 55) hx hb d_Mod_read_38 (by decide) (fun h38 => ?_) (fun h38 => ?_)
  · refine lv_aload_n hx hb d_Mod_read_55 rfl (lv_at hl 1 rfl) ?_
    refine tw_si (tw_runV (ws := [(h0, .inr (10, mo q (upd (upd (upd (upd (upd (upd (upd (upd v 1 0) 8 1) 9 0) 10 0) 11 0) 12 0) 25 0) 38 0))), ((q 14), aI g 620 ft)]) (wc := [(h0, .inr (10, mo q (upd (upd (upd (upd (upd (upd (upd (upd v 1 0) 8 1) 9 0) 10 0) 11 0) 12 0) 25 0) 38 0)))]) (As := []) (rest := []) E hB hK hZ (c_Mod_u2F l g H.size h0 q (upd (upd (upd (upd (upd (upd (upd (upd v 1 0) 8 1) 9 0) 10 0) 11 0) 12 0) 25 0) 38 0) 1 (by decide)) mc_Mod_u2 mi_Mod_u2 me_Mod_u2 wd_1484 hP hD hS hA [0] rfl (by decide) 0 rfl rfl rfl rfl rfl (by decide) rfl hl.1 rfl (Nat.le_of_ble_eq_true rfl) (by decide) d_Mod_read_56) (fun r3 hr3 => ?_)
    obtain rfl : r3 = 0 := hr3
    refine lv_pop hx hb d_Mod_read_59 rfl ?_
    refine lv_aload_n hx hb d_Mod_read_60 rfl (lv_at hl 1 rfl) ?_
    refine tw_si (tw_runV (ws := [(h0, .inr (10, mo q (upd (upd (upd (upd (upd (upd (upd (upd v 1 0) 8 1) 9 0) 10 0) 11 0) 12 0) 25 0) 38 0))), ((q 14), aI g 620 ft)]) (wc := [(h0, .inr (10, mo q (upd (upd (upd (upd (upd (upd (upd (upd v 1 0) 8 1) 9 0) 10 0) 11 0) 12 0) 25 0) 38 0)))]) (As := []) (rest := []) E hB hK hZ (c_Mod_u2F l g H.size h0 q (upd (upd (upd (upd (upd (upd (upd (upd v 1 0) 8 1) 9 0) 10 0) 11 0) 12 0) 25 0) 38 0) 1 (by decide)) mc_Mod_u2 mi_Mod_u2 me_Mod_u2 wd_1484 hP hD hS hA [0] rfl (by decide) 0 rfl rfl rfl rfl rfl (by decide) rfl hl.1 rfl (Nat.le_of_ble_eq_true rfl) (by decide) d_Mod_read_61) (fun r4 hr4 => ?_)
    obtain rfl : r4 = 0 := hr4
    refine lv_istore_n hx hb d_Mod_read_64 rfl hl (by decide) rfl (fun ls hl => ?_)
    have hl : lv_has ls 5 [(3, .int 0), (1, .long 0), (0, .ref h0)] := hl
    refine lv_aload_n hx hb d_Mod_read_65 rfl (lv_at hl 2 rfl) ?_
    refine va_get (D := g.1) (ci := 10) (v := .int 1) (C := R_Mod) (T := F_Mod) (N := 61) hx hb hts in_Mod hown hK hP 0 rfl rfl 8 (by decide) (hts _ wd_1258) (fun _ h9 => h9) rfl d_Mod_read_66 ?_
    refine lv_if_ne (tgt := 90) hx hb d_Mod_read_69 (by decide) (fun h69 => ?_) (fun h69 => ?_)
    · refine lv_aload_n hx hb d_Mod_read_90 rfl (lv_at hl 2 rfl) ?_
      refine tw_wv (wr := []) (tw_runV (ws := [(h0, .inr (10, mo q (upd (upd (upd (upd (upd (upd (upd (upd v 1 0) 8 1) 9 0) 10 0) 11 0) 12 0) 25 0) 38 0))), ((q 14), aI g 620 ft)]) (wc := [(h0, .inr (10, mo q (upd (upd (upd (upd (upd (upd (upd (upd v 1 0) 8 1) 9 0) 10 0) 11 0) 12 0) 25 0) 38 0))), ((q 14), aI g 620 ft)]) (As := []) (rest := []) E hB hK hZ (c_Mod_readConstantsF l g H.size h0 q (upd (upd (upd (upd (upd (upd (upd (upd v 1 0) 8 1) 9 0) 10 0) 11 0) 12 0) 25 0) 38 0) 1 ft (by decide)) mc_Mod_readConstants mi_Mod_readConstants me_Mod_readConstants wd_1488 hP hD hS hA [0, 1] rfl (by decide) 0 rfl rfl rfl rfl rfl (by decide) rfl hl.1 rfl (Nat.le_of_ble_eq_true rfl) (by decide) d_Mod_read_91) hP hD hS hA [0, 1] [] rfl rfl (by decide) (by decide) (fun u6 H locs hr5 hP hD hS => ?_)
      try dsimp only at hr5
      have hP : va_P g.1 classes [(h0, .inr (10, mo q (upd (upd (upd (upd (upd (upd (upd (upd (upd v 1 0) 8 1) 9 0) 10 0) 11 0) 12 0) 13 0) 25 0) 38 0))), ((q 14), aI g 620 (fun _ => 0))] H := hP
      have hD : va_D A [(h0, .inr (10, mo q (upd (upd (upd (upd (upd (upd (upd (upd (upd v 1 0) 8 1) 9 0) 10 0) 11 0) 12 0) 13 0) 25 0) 38 0))), ((q 14), aI g 620 (fun _ => 0))] := hD
      refine lv_aload_n hx hb d_Mod_read_94 rfl (lv_at hl 2 rfl) ?_
      refine tw_si (tw_runV (ws := [(h0, .inr (10, mo q (upd (upd (upd (upd (upd (upd (upd (upd (upd v 1 0) 8 1) 9 0) 10 0) 11 0) 12 0) 13 0) 25 0) 38 0))), ((q 14), aI g 620 (fun _ => 0))]) (wc := [(h0, .inr (10, mo q (upd (upd (upd (upd (upd (upd (upd (upd (upd v 1 0) 8 1) 9 0) 10 0) 11 0) 12 0) 13 0) 25 0) 38 0)))]) (As := []) (rest := []) E hB hK hZ (c_Mod_u2F l g H.size h0 q (upd (upd (upd (upd (upd (upd (upd (upd (upd v 1 0) 8 1) 9 0) 10 0) 11 0) 12 0) 13 0) 25 0) 38 0) 1 (by decide)) mc_Mod_u2 mi_Mod_u2 me_Mod_u2 wd_1484 hP hD hS hA [0] rfl (by decide) 0 rfl rfl rfl rfl rfl (by decide) rfl hl.1 rfl (Nat.le_of_ble_eq_true rfl) (by decide) d_Mod_read_95) (fun r7 hr7 => ?_)
      obtain rfl : r7 = 0 := hr7
      refine lv_pop hx hb d_Mod_read_98 rfl ?_
      refine lv_aload_n hx hb d_Mod_read_99 rfl (lv_at hl 2 rfl) ?_
      refine lv_aload_n hx hb d_Mod_read_100 rfl (lv_at hl 2 rfl) ?_
      refine va_get (D := g.1) (ci := 10) (v := .int 0) (C := R_Mod) (T := F_Mod) (N := 61) hx hb hts in_Mod hown hK hP 0 rfl rfl 10 (by decide) (hts _ wd_1260) (fun _ h9 => h9) rfl d_Mod_read_101 ?_
      refine va_put (D := g.1) (ci := 10) (v := .int 0) (ty := .int) (C := R_Mod) (T := F_Mod) (N := 61) hx hb hts in_Mod t_Mod t_Mod_ok n_Mod hown hK hP hD hS 0 rfl rfl 18 (by decide) (hts _ wd_1268) (fun _ h9 => h9) rfl (t_Mod_ok 18 (by decide)) rfl rfl (Nat.le_of_ble_eq_true rfl) d_Mod_read_104 (fun H locs hP hD hS => ?_)
      have hP : va_P g.1 classes [(h0, .inr (10, mo q (upd (upd (upd (upd (upd (upd (upd (upd (upd (upd v 1 0) 8 1) 9 0) 10 0) 11 0) 12 0) 13 0) 18 0) 25 0) 38 0))), ((q 14), aI g 620 (fun _ => 0))] H := hP
      have hD : va_D A [(h0, .inr (10, mo q (upd (upd (upd (upd (upd (upd (upd (upd (upd (upd v 1 0) 8 1) 9 0) 10 0) 11 0) 12 0) 13 0) 18 0) 25 0) 38 0))), ((q 14), aI g 620 (fun _ => 0))] := hD
      refine lv_aload_n hx hb d_Mod_read_107 rfl (lv_at hl 2 rfl) ?_
      refine lv_aload_n hx hb d_Mod_read_108 rfl (lv_at hl 2 rfl) ?_
      refine tw_si (tw_runV (ws := [(h0, .inr (10, mo q (upd (upd (upd (upd (upd (upd (upd (upd (upd (upd v 1 0) 8 1) 9 0) 10 0) 11 0) 12 0) 13 0) 18 0) 25 0) 38 0))), ((q 14), aI g 620 (fun _ => 0))]) (wc := [(h0, .inr (10, mo q (upd (upd (upd (upd (upd (upd (upd (upd (upd (upd v 1 0) 8 1) 9 0) 10 0) 11 0) 12 0) 13 0) 18 0) 25 0) 38 0)))]) (As := []) (rest := [.ref h0]) E hB hK hZ (c_Mod_u2F l g H.size h0 q (upd (upd (upd (upd (upd (upd (upd (upd (upd (upd v 1 0) 8 1) 9 0) 10 0) 11 0) 12 0) 13 0) 18 0) 25 0) 38 0) 1 (by decide)) mc_Mod_u2 mi_Mod_u2 me_Mod_u2 wd_1484 hP hD hS hA [0] rfl (by decide) 0 rfl rfl rfl rfl rfl (by decide) rfl hl.1 rfl (Nat.le_of_ble_eq_true rfl) (by decide) d_Mod_read_109) (fun r8 hr8 => ?_)
      obtain rfl : r8 = 0 := hr8
      refine va_put (D := g.1) (ci := 10) (v := .int 0) (ty := .int) (C := R_Mod) (T := F_Mod) (N := 61) hx hb hts in_Mod t_Mod t_Mod_ok n_Mod hown hK hP hD hS 0 rfl rfl 19 (by decide) (hts _ wd_1269) (fun _ h9 => h9) rfl (t_Mod_ok 19 (by decide)) rfl rfl (Nat.le_of_ble_eq_true rfl) d_Mod_read_112 (fun H locs hP hD hS => ?_)
      have hP : va_P g.1 classes [(h0, .inr (10, mo q (upd (upd (upd (upd (upd (upd (upd (upd (upd (upd (upd v 1 0) 8 1) 9 0) 10 0) 11 0) 12 0) 13 0) 18 0) 19 0) 25 0) 38 0))), ((q 14), aI g 620 (fun _ => 0))] H := hP
      have hD : va_D A [(h0, .inr (10, mo q (upd (upd (upd (upd (upd (upd (upd (upd (upd (upd (upd v 1 0) 8 1) 9 0) 10 0) 11 0) 12 0) 13 0) 18 0) 19 0) 25 0) 38 0))), ((q 14), aI g 620 (fun _ => 0))] := hD
      refine lv_aload_n hx hb d_Mod_read_115 rfl (lv_at hl 2 rfl) ?_
      refine lv_aload_n hx hb d_Mod_read_116 rfl (lv_at hl 2 rfl) ?_
      refine tw_si (tw_runV (ws := [(h0, .inr (10, mo q (upd (upd (upd (upd (upd (upd (upd (upd (upd (upd (upd v 1 0) 8 1) 9 0) 10 0) 11 0) 12 0) 13 0) 18 0) 19 0) 25 0) 38 0))), ((q 14), aI g 620 (fun _ => 0))]) (wc := [(h0, .inr (10, mo q (upd (upd (upd (upd (upd (upd (upd (upd (upd (upd (upd v 1 0) 8 1) 9 0) 10 0) 11 0) 12 0) 13 0) 18 0) 19 0) 25 0) 38 0)))]) (As := []) (rest := [.ref h0]) E hB hK hZ (c_Mod_u2F l g H.size h0 q (upd (upd (upd (upd (upd (upd (upd (upd (upd (upd (upd v 1 0) 8 1) 9 0) 10 0) 11 0) 12 0) 13 0) 18 0) 19 0) 25 0) 38 0) 1 (by decide)) mc_Mod_u2 mi_Mod_u2 me_Mod_u2 wd_1484 hP hD hS hA [0] rfl (by decide) 0 rfl rfl rfl rfl rfl (by decide) rfl hl.1 rfl (Nat.le_of_ble_eq_true rfl) (by decide) d_Mod_read_117) (fun r9 hr9 => ?_)
      obtain rfl : r9 = 0 := hr9
      refine va_put (D := g.1) (ci := 10) (v := .int 0) (ty := .int) (C := R_Mod) (T := F_Mod) (N := 61) hx hb hts in_Mod t_Mod t_Mod_ok n_Mod hown hK hP hD hS 0 rfl rfl 20 (by decide) (hts _ wd_1270) (fun _ h9 => h9) rfl (t_Mod_ok 20 (by decide)) rfl rfl (Nat.le_of_ble_eq_true rfl) d_Mod_read_120 (fun H locs hP hD hS => ?_)
      have hP : va_P g.1 classes [(h0, .inr (10, mo q (upd (upd (upd (upd (upd (upd (upd (upd (upd (upd (upd (upd v 1 0) 8 1) 9 0) 10 0) 11 0) 12 0) 13 0) 18 0) 19 0) 20 0) 25 0) 38 0))), ((q 14), aI g 620 (fun _ => 0))] H := hP
      have hD : va_D A [(h0, .inr (10, mo q (upd (upd (upd (upd (upd (upd (upd (upd (upd (upd (upd (upd v 1 0) 8 1) 9 0) 10 0) 11 0) 12 0) 13 0) 18 0) 19 0) 20 0) 25 0) 38 0))), ((q 14), aI g 620 (fun _ => 0))] := hD
      refine lv_aload_n hx hb d_Mod_read_123 rfl (lv_at hl 2 rfl) ?_
      refine lv_aload_n hx hb d_Mod_read_124 rfl (lv_at hl 2 rfl) ?_
      refine tw_si (tw_runV (ws := [(h0, .inr (10, mo q (upd (upd (upd (upd (upd (upd (upd (upd (upd (upd (upd (upd v 1 0) 8 1) 9 0) 10 0) 11 0) 12 0) 13 0) 18 0) 19 0) 20 0) 25 0) 38 0))), ((q 14), aI g 620 (fun _ => 0))]) (wc := [(h0, .inr (10, mo q (upd (upd (upd (upd (upd (upd (upd (upd (upd (upd (upd (upd v 1 0) 8 1) 9 0) 10 0) 11 0) 12 0) 13 0) 18 0) 19 0) 20 0) 25 0) 38 0)))]) (As := []) (rest := [.ref h0]) E hB hK hZ (c_Mod_u2F l g H.size h0 q (upd (upd (upd (upd (upd (upd (upd (upd (upd (upd (upd (upd v 1 0) 8 1) 9 0) 10 0) 11 0) 12 0) 13 0) 18 0) 19 0) 20 0) 25 0) 38 0) 1 (by decide)) mc_Mod_u2 mi_Mod_u2 me_Mod_u2 wd_1484 hP hD hS hA [0] rfl (by decide) 0 rfl rfl rfl rfl rfl (by decide) rfl hl.1 rfl (Nat.le_of_ble_eq_true rfl) (by decide) d_Mod_read_125) (fun r10 hr10 => ?_)
      obtain rfl : r10 = 0 := hr10
      refine va_put (D := g.1) (ci := 10) (v := .int 0) (ty := .int) (C := R_Mod) (T := F_Mod) (N := 61) hx hb hts in_Mod t_Mod t_Mod_ok n_Mod hown hK hP hD hS 0 rfl rfl 21 (by decide) (hts _ wd_1271) (fun _ h9 => h9) rfl (t_Mod_ok 21 (by decide)) rfl rfl (Nat.le_of_ble_eq_true rfl) d_Mod_read_128 (fun H locs hP hD hS => ?_)
      have hP : va_P g.1 classes [(h0, .inr (10, mo q (upd (upd (upd (upd (upd (upd (upd (upd (upd (upd (upd (upd (upd v 1 0) 8 1) 9 0) 10 0) 11 0) 12 0) 13 0) 18 0) 19 0) 20 0) 21 0) 25 0) 38 0))), ((q 14), aI g 620 (fun _ => 0))] H := hP
      have hD : va_D A [(h0, .inr (10, mo q (upd (upd (upd (upd (upd (upd (upd (upd (upd (upd (upd (upd (upd v 1 0) 8 1) 9 0) 10 0) 11 0) 12 0) 13 0) 18 0) 19 0) 20 0) 21 0) 25 0) 38 0))), ((q 14), aI g 620 (fun _ => 0))] := hD
      refine lv_iconst (v := 0) hx hb d_Mod_read_131 (by decide) ?_
      refine lv_istore hx hb d_Mod_read_132 hl (by decide) rfl (fun ls hl => ?_)
      have hl : lv_has ls 5 [(4, .int 0), (3, .int 0), (1, .long 0), (0, .ref h0)] := hl
      refine lv_iload hx hb d_Mod_read_134 (lv_at hl 0 rfl) ?_
      refine lv_aload_n hx hb d_Mod_read_136 rfl (lv_at hl 3 rfl) ?_
      refine va_get (D := g.1) (ci := 10) (v := .int 0) (C := R_Mod) (T := F_Mod) (N := 61) hx hb hts in_Mod hown hK hP 0 rfl rfl 21 (by decide) (hts _ wd_1271) (fun _ h9 => h9) rfl d_Mod_read_137 ?_
      refine lv_icmp_ge (tgt := 178) hx hb d_Mod_read_140 (by decide) (fun h140 => ?_) (fun h140 => ?_)
      · refine lv_aload_n hx hb d_Mod_read_178 rfl (lv_at hl 3 rfl) ?_
        refine lv_iconst (v := 0) hx hb d_Mod_read_179 (by decide) ?_
        refine tw_wv (wr := [((q 14), aI g 620 (fun _ => 0))]) (tw_runV (ws := [(h0, .inr (10, mo q (upd (upd (upd (upd (upd (upd (upd (upd (upd (upd (upd (upd (upd v 1 0) 8 1) 9 0) 10 0) 11 0) 12 0) 13 0) 18 0) 19 0) 20 0) 21 0) 25 0) 38 0))), ((q 14), aI g 620 (fun _ => 0))]) (wc := [(h0, .inr (10, mo q (upd (upd (upd (upd (upd (upd (upd (upd (upd (upd (upd (upd (upd v 1 0) 8 1) 9 0) 10 0) 11 0) 12 0) 13 0) 18 0) 19 0) 20 0) 21 0) 25 0) 38 0)))]) (As := [.int 0]) (rest := []) E hB hK hZ (c_Mod_readMembersF l g H.size h0 q (upd (upd (upd (upd (upd (upd (upd (upd (upd (upd (upd (upd (upd v 1 0) 8 1) 9 0) 10 0) 11 0) 12 0) 13 0) 18 0) 19 0) 20 0) 21 0) 25 0) 38 0) 1 0 (by decide)) mc_Mod_readMembers mi_Mod_readMembers me_Mod_readMembers wd_1500 hP hD hS hA [0] rfl (by decide) 0 rfl rfl rfl rfl rfl (by decide) rfl hl.1 rfl (Nat.le_of_ble_eq_true rfl) (by decide) d_Mod_read_180) hP hD hS hA [0] [1] rfl rfl (by decide) (by decide) (fun u12 H locs hr11 hP hD hS => ?_)
        try dsimp only at hr11
        have hP : va_P g.1 classes [((q 14), aI g 620 (fun _ => 0)), (h0, .inr (10, mo q (upd (upd (upd (upd (upd (upd (upd (upd (upd (upd (upd (upd (upd v 1 0) 8 1) 9 0) 10 0) 11 0) 12 0) 13 0) 18 0) 19 0) 20 0) 21 0) 25 0) 38 0)))] H := hP
        have hD : va_D A [((q 14), aI g 620 (fun _ => 0)), (h0, .inr (10, mo q (upd (upd (upd (upd (upd (upd (upd (upd (upd (upd (upd (upd (upd v 1 0) 8 1) 9 0) 10 0) 11 0) 12 0) 13 0) 18 0) 19 0) 20 0) 21 0) 25 0) 38 0)))] := hD
        have hP : va_P g.1 classes [(h0, .inr (10, mo q (upd (upd (upd (upd (upd (upd (upd (upd (upd (upd (upd (upd (upd v 1 0) 8 1) 9 0) 10 0) 11 0) 12 0) 13 0) 18 0) 19 0) 20 0) 21 0) 25 0) 38 0))), ((q 14), aI g 620 (fun _ => 0))] H := hP.sub [1, 0] rfl
        have hD : va_D A [(h0, .inr (10, mo q (upd (upd (upd (upd (upd (upd (upd (upd (upd (upd (upd (upd (upd v 1 0) 8 1) 9 0) 10 0) 11 0) 12 0) 13 0) 18 0) 19 0) 20 0) 21 0) 25 0) 38 0))), ((q 14), aI g 620 (fun _ => 0))] := hD.sub [1, 0] (by decide) rfl
        refine lv_aload_n hx hb d_Mod_read_183 rfl (lv_at hl 3 rfl) ?_
        refine lv_aload_n hx hb d_Mod_read_184 rfl (lv_at hl 3 rfl) ?_
        refine va_get (D := g.1) (ci := 10) (v := .int 0) (C := R_Mod) (T := F_Mod) (N := 61) hx hb hts in_Mod hown hK hP 0 rfl rfl 25 (by decide) (hts _ wd_1275) (fun _ h9 => h9) rfl d_Mod_read_185 ?_
        refine va_put (D := g.1) (ci := 10) (v := .int 0) (ty := .int) (C := R_Mod) (T := F_Mod) (N := 61) hx hb hts in_Mod t_Mod t_Mod_ok n_Mod hown hK hP hD hS 0 rfl rfl 24 (by decide) (hts _ wd_1274) (fun _ h9 => h9) rfl (t_Mod_ok 24 (by decide)) rfl rfl (Nat.le_of_ble_eq_true rfl) d_Mod_read_188 (fun H locs hP hD hS => ?_)
        have hP : va_P g.1 classes [(h0, .inr (10, mo q (upd (upd (upd (upd (upd (upd (upd (upd (upd (upd (upd (upd (upd (upd v 1 0) 8 1) 9 0) 10 0) 11 0) 12 0) 13 0) 18 0) 19 0) 20 0) 21 0) 24 0) 25 0) 38 0))), ((q 14), aI g 620 (fun _ => 0))] H := hP
        have hD : va_D A [(h0, .inr (10, mo q (upd (upd (upd (upd (upd (upd (upd (upd (upd (upd (upd (upd (upd (upd v 1 0) 8 1) 9 0) 10 0) 11 0) 12 0) 13 0) 18 0) 19 0) 20 0) 21 0) 24 0) 25 0) 38 0))), ((q 14), aI g 620 (fun _ => 0))] := hD
        refine lv_aload_n hx hb d_Mod_read_191 rfl (lv_at hl 3 rfl) ?_
        refine lv_aload_n hx hb d_Mod_read_192 rfl (lv_at hl 3 rfl) ?_
        refine va_get (D := g.1) (ci := 10) (v := .int 0) (C := R_Mod) (T := F_Mod) (N := 61) hx hb hts in_Mod hown hK hP 0 rfl rfl 10 (by decide) (hts _ wd_1260) (fun _ h9 => h9) rfl d_Mod_read_193 ?_
        refine va_put (D := g.1) (ci := 10) (v := .int 0) (ty := .int) (C := R_Mod) (T := F_Mod) (N := 61) hx hb hts in_Mod t_Mod t_Mod_ok n_Mod hown hK hP hD hS 0 rfl rfl 26 (by decide) (hts _ wd_1276) (fun _ h9 => h9) rfl (t_Mod_ok 26 (by decide)) rfl rfl (Nat.le_of_ble_eq_true rfl) d_Mod_read_196 (fun H locs hP hD hS => ?_)
        have hP : va_P g.1 classes [(h0, .inr (10, mo q (upd (upd (upd (upd (upd (upd (upd (upd (upd (upd (upd (upd (upd (upd (upd v 1 0) 8 1) 9 0) 10 0) 11 0) 12 0) 13 0) 18 0) 19 0) 20 0) 21 0) 24 0) 25 0) 26 0) 38 0))), ((q 14), aI g 620 (fun _ => 0))] H := hP
        have hD : va_D A [(h0, .inr (10, mo q (upd (upd (upd (upd (upd (upd (upd (upd (upd (upd (upd (upd (upd (upd (upd v 1 0) 8 1) 9 0) 10 0) 11 0) 12 0) 13 0) 18 0) 19 0) 20 0) 21 0) 24 0) 25 0) 26 0) 38 0))), ((q 14), aI g 620 (fun _ => 0))] := hD
        refine lv_aload_n hx hb d_Mod_read_199 rfl (lv_at hl 3 rfl) ?_
        refine lv_iconst (v := 1) hx hb d_Mod_read_200 (by decide) ?_
        refine tw_wv (wr := [((q 14), aI g 620 (fun _ => 0))]) (tw_runV (ws := [(h0, .inr (10, mo q (upd (upd (upd (upd (upd (upd (upd (upd (upd (upd (upd (upd (upd (upd (upd v 1 0) 8 1) 9 0) 10 0) 11 0) 12 0) 13 0) 18 0) 19 0) 20 0) 21 0) 24 0) 25 0) 26 0) 38 0))), ((q 14), aI g 620 (fun _ => 0))]) (wc := [(h0, .inr (10, mo q (upd (upd (upd (upd (upd (upd (upd (upd (upd (upd (upd (upd (upd (upd (upd v 1 0) 8 1) 9 0) 10 0) 11 0) 12 0) 13 0) 18 0) 19 0) 20 0) 21 0) 24 0) 25 0) 26 0) 38 0)))]) (As := [.int 1]) (rest := []) E hB hK hZ (c_Mod_readMembersF l g H.size h0 q (upd (upd (upd (upd (upd (upd (upd (upd (upd (upd (upd (upd (upd (upd (upd v 1 0) 8 1) 9 0) 10 0) 11 0) 12 0) 13 0) 18 0) 19 0) 20 0) 21 0) 24 0) 25 0) 26 0) 38 0) 1 1 (by decide)) mc_Mod_readMembers mi_Mod_readMembers me_Mod_readMembers wd_1500 hP hD hS hA [0] rfl (by decide) 0 rfl rfl rfl rfl rfl (by decide) rfl hl.1 rfl (Nat.le_of_ble_eq_true rfl) (by decide) d_Mod_read_201) hP hD hS hA [0] [1] rfl rfl (by decide) (by decide) (fun u14 H locs hr13 hP hD hS => ?_)
        try dsimp only at hr13
        have hP : va_P g.1 classes [((q 14), aI g 620 (fun _ => 0)), (h0, .inr (10, mo q (upd (upd (upd (upd (upd (upd (upd (upd (upd (upd (upd (upd (upd (upd (upd v 1 0) 8 1) 9 0) 10 0) 11 0) 12 0) 13 0) 18 0) 19 0) 20 0) 21 0) 24 0) 25 0) 26 0) 38 0)))] H := hP
        have hD : va_D A [((q 14), aI g 620 (fun _ => 0)), (h0, .inr (10, mo q (upd (upd (upd (upd (upd (upd (upd (upd (upd (upd (upd (upd (upd (upd (upd v 1 0) 8 1) 9 0) 10 0) 11 0) 12 0) 13 0) 18 0) 19 0) 20 0) 21 0) 24 0) 25 0) 26 0) 38 0)))] := hD
        have hP : va_P g.1 classes [(h0, .inr (10, mo q (upd (upd (upd (upd (upd (upd (upd (upd (upd (upd (upd (upd (upd (upd (upd v 1 0) 8 1) 9 0) 10 0) 11 0) 12 0) 13 0) 18 0) 19 0) 20 0) 21 0) 24 0) 25 0) 26 0) 38 0))), ((q 14), aI g 620 (fun _ => 0))] H := hP.sub [1, 0] rfl
        have hD : va_D A [(h0, .inr (10, mo q (upd (upd (upd (upd (upd (upd (upd (upd (upd (upd (upd (upd (upd (upd (upd v 1 0) 8 1) 9 0) 10 0) 11 0) 12 0) 13 0) 18 0) 19 0) 20 0) 21 0) 24 0) 25 0) 26 0) 38 0))), ((q 14), aI g 620 (fun _ => 0))] := hD.sub [1, 0] (by decide) rfl
        refine lv_aload_n hx hb d_Mod_read_204 rfl (lv_at hl 3 rfl) ?_
        refine tw_wv (wr := [((q 14), aI g 620 (fun _ => 0))]) (tw_runV (ws := [(h0, .inr (10, mo q (upd (upd (upd (upd (upd (upd (upd (upd (upd (upd (upd (upd (upd (upd (upd v 1 0) 8 1) 9 0) 10 0) 11 0) 12 0) 13 0) 18 0) 19 0) 20 0) 21 0) 24 0) 25 0) 26 0) 38 0))), ((q 14), aI g 620 (fun _ => 0))]) (wc := [(h0, .inr (10, mo q (upd (upd (upd (upd (upd (upd (upd (upd (upd (upd (upd (upd (upd (upd (upd v 1 0) 8 1) 9 0) 10 0) 11 0) 12 0) 13 0) 18 0) 19 0) 20 0) 21 0) 24 0) 25 0) 26 0) 38 0)))]) (As := []) (rest := []) E hB hK hZ (c_Mod_readAttributesF l g H.size h0 q (upd (upd (upd (upd (upd (upd (upd (upd (upd (upd (upd (upd (upd (upd (upd v 1 0) 8 1) 9 0) 10 0) 11 0) 12 0) 13 0) 18 0) 19 0) 20 0) 21 0) 24 0) 25 0) 26 0) 38 0) 1 (by decide)) mc_Mod_readAttributes mi_Mod_readAttributes me_Mod_readAttributes wd_1520 hP hD hS hA [0] rfl (by decide) 0 rfl rfl rfl rfl rfl (by decide) rfl hl.1 rfl (Nat.le_of_ble_eq_true rfl) (by decide) d_Mod_read_205) hP hD hS hA [0] [1] rfl rfl (by decide) (by decide) (fun u16 H locs hr15 hP hD hS => ?_)
        try dsimp only at hr15
        have hP : va_P g.1 classes [((q 14), aI g 620 (fun _ => 0)), (h0, .inr (10, mo q (upd (upd (upd (upd (upd (upd (upd (upd (upd (upd (upd (upd (upd (upd (upd v 1 0) 8 1) 9 0) 10 0) 11 0) 12 0) 13 0) 18 0) 19 0) 20 0) 21 0) 24 0) 25 0) 26 0) 38 0)))] H := hP
        have hD : va_D A [((q 14), aI g 620 (fun _ => 0)), (h0, .inr (10, mo q (upd (upd (upd (upd (upd (upd (upd (upd (upd (upd (upd (upd (upd (upd (upd v 1 0) 8 1) 9 0) 10 0) 11 0) 12 0) 13 0) 18 0) 19 0) 20 0) 21 0) 24 0) 25 0) 26 0) 38 0)))] := hD
        have hP : va_P g.1 classes [(h0, .inr (10, mo q (upd (upd (upd (upd (upd (upd (upd (upd (upd (upd (upd (upd (upd (upd (upd v 1 0) 8 1) 9 0) 10 0) 11 0) 12 0) 13 0) 18 0) 19 0) 20 0) 21 0) 24 0) 25 0) 26 0) 38 0))), ((q 14), aI g 620 (fun _ => 0))] H := hP.sub [1, 0] rfl
        have hD : va_D A [(h0, .inr (10, mo q (upd (upd (upd (upd (upd (upd (upd (upd (upd (upd (upd (upd (upd (upd (upd v 1 0) 8 1) 9 0) 10 0) 11 0) 12 0) 13 0) 18 0) 19 0) 20 0) 21 0) 24 0) 25 0) 26 0) 38 0))), ((q 14), aI g 620 (fun _ => 0))] := hD.sub [1, 0] (by decide) rfl
        refine lv_aload_n hx hb d_Mod_read_208 rfl (lv_at hl 3 rfl) ?_
        refine va_get (D := g.1) (ci := 10) (v := .int 1) (C := R_Mod) (T := F_Mod) (N := 61) hx hb hts in_Mod hown hK hP 0 rfl rfl 8 (by decide) (hts _ wd_1258) (fun _ h9 => h9) rfl d_Mod_read_209 ?_
        refine lv_if_ne (tgt := 236) hx hb d_Mod_read_212 (by decide) (fun h212 => ?_) (fun h212 => ?_)
        · exact tw_vret E hS () trivial hP hD d_Mod_read_236
        · exact absurd h212 (by decide)
      · exact absurd h140 (by decide)
    · exact absurd h69 (by decide)
  · exact absurd h38 (by decide)
set_option maxHeartbeats 4000000 in
set_option maxRecDepth 100000 in
theorem c_Mod_audit0 (l : Launch) (g : tw_G) (sz : Nat) (h0 : Nat) (q : Nat → Nat) (v : Nat → Int32) (ft : Nat → Int32) : Met l y_Mod_audit [.code y_Mod_audit b_Mod_audit 2 (some .int)] ({ frames := 4, cells := 0, slots := 0, locals := 98 }) (tw_P g [.ref h0] [(h0, .inr (10, mo q (upd v 1 0))), ((q 14), aI g 620 ft)] sz) (tw_Qi g (fun r _ => r = 1) (fun u : Unit => [(h0, .inr (10, mo q (upd (upd (upd (upd (upd (upd (upd (upd (upd (upd (upd (upd (upd (upd (upd (upd v 0 0) 1 0) 8 1) 9 0) 10 0) 11 0) 12 0) 13 0) 18 0) 19 0) 20 0) 21 0) 24 0) 25 0) 26 0) 38 0))), ((q 14), aI g 620 (fun _ => 0))]) (va_A [(h0, .inr (10, mo q (upd v 1 0))), ((q 14), aI g 620 ft)] sz)) 0 0 (va_A [(h0, .inr (10, mo q (upd v 1 0))), ((q 14), aI g 620 ft)] sz) := by
  refine tw_metW (l := l) (g := g) (y := y_Mod_audit) (cc := b_Mod_audit) (maxL := 2) (ret := (some .int)) (rm := { frames := 4, cells := 0, slots := 0, locals := 98 }) (mc := 0) (ms := 0) (av := [.ref h0]) (ws := [(h0, .inr (10, mo q (upd v 1 0))), ((q 14), aI g 620 ft)]) (sz := sz) (Qc := fun A => (tw_Qi g (fun r _ => r = 1) (fun u : Unit => [(h0, .inr (10, mo q (upd (upd (upd (upd (upd (upd (upd (upd (upd (upd (upd (upd (upd (upd (upd (upd v 0 0) 1 0) 8 1) 9 0) 10 0) 11 0) 12 0) 13 0) 18 0) 19 0) 20 0) 21 0) 24 0) 25 0) 26 0) 38 0))), ((q 14), aI g 620 (fun _ => 0))]) A)) (by decide) (Nat.le_of_ble_eq_true rfl) ?_
  intro p e s m below meth c ls H A E hB hK hZ hP hD hS hA hl
  obtain ⟨hx, hb, hml, hr, hown, hts, hlocks, hin⟩ := id E
  have hl : lv_has ls 2 [(0, .ref h0)] := hl
  refine lv_aload_n hx hb d_Mod_audit_0 rfl (lv_at hl 0 rfl) ?_
  refine lv_iconst (v := 0) hx hb d_Mod_audit_1 (by decide) ?_
  refine va_put (D := g.1) (ci := 10) (v := .int 0) (ty := .int) (C := R_Mod) (T := F_Mod) (N := 61) hx hb hts in_Mod t_Mod t_Mod_ok n_Mod hown hK hP hD hS 0 rfl rfl 0 (by decide) (hts _ wd_1250) (fun _ h9 => h9) rfl (t_Mod_ok 0 (by decide)) rfl rfl (Nat.le_of_ble_eq_true rfl) d_Mod_audit_2 (fun H locs hP hD hS => ?_)
  have hP : va_P g.1 classes [(h0, .inr (10, mo q (upd (upd v 0 0) 1 0))), ((q 14), aI g 620 ft)] H := hP
  have hD : va_D A [(h0, .inr (10, mo q (upd (upd v 0 0) 1 0))), ((q 14), aI g 620 ft)] := hD
  refine lv_aload_n hx hb d_Mod_audit_5 rfl (lv_at hl 0 rfl) ?_
  refine lv_iconst (v := 0) hx hb d_Mod_audit_6 (by decide) ?_
  refine va_put (D := g.1) (ci := 10) (v := .int 0) (ty := .int) (C := R_Mod) (T := F_Mod) (N := 61) hx hb hts in_Mod t_Mod t_Mod_ok n_Mod hown hK hP hD hS 0 rfl rfl 8 (by decide) (hts _ wd_1258) (fun _ h9 => h9) rfl (t_Mod_ok 8 (by decide)) rfl rfl (Nat.le_of_ble_eq_true rfl) d_Mod_audit_7 (fun H locs hP hD hS => ?_)
  have hP : va_P g.1 classes [(h0, .inr (10, mo q (upd (upd (upd v 0 0) 1 0) 8 0))), ((q 14), aI g 620 ft)] H := hP
  have hD : va_D A [(h0, .inr (10, mo q (upd (upd (upd v 0 0) 1 0) 8 0))), ((q 14), aI g 620 ft)] := hD
  refine lv_aload_n hx hb d_Mod_audit_10 rfl (lv_at hl 0 rfl) ?_
  refine lv_iconst (v := (-1)) hx hb d_Mod_audit_11 (by decide) ?_
  refine va_put (D := g.1) (ci := 10) (v := .int (-1)) (ty := .int) (C := R_Mod) (T := F_Mod) (N := 61) hx hb hts in_Mod t_Mod t_Mod_ok n_Mod hown hK hP hD hS 0 rfl rfl 9 (by decide) (hts _ wd_1259) (fun _ h9 => h9) rfl (t_Mod_ok 9 (by decide)) rfl rfl (Nat.le_of_ble_eq_true rfl) d_Mod_audit_12 (fun H locs hP hD hS => ?_)
  have hP : va_P g.1 classes [(h0, .inr (10, mo q (upd (upd (upd (upd v 0 0) 1 0) 8 0) 9 (-1)))), ((q 14), aI g 620 ft)] H := hP
  have hD : va_D A [(h0, .inr (10, mo q (upd (upd (upd (upd v 0 0) 1 0) 8 0) 9 (-1)))), ((q 14), aI g 620 ft)] := hD
  refine lv_aload_n hx hb d_Mod_audit_15 rfl (lv_at hl 0 rfl) ?_
  refine tw_wv (wr := []) (tw_runV (ws := [(h0, .inr (10, mo q (upd (upd (upd (upd v 0 0) 1 0) 8 0) 9 (-1)))), ((q 14), aI g 620 ft)]) (wc := [(h0, .inr (10, mo q (upd (upd (upd (upd v 0 0) 1 0) 8 0) 9 (-1)))), ((q 14), aI g 620 ft)]) (As := []) (rest := []) E hB hK hZ (c_Mod_read0 l g H.size h0 q (upd (upd (upd (upd v 0 0) 1 0) 8 0) 9 (-1)) ft) mc_Mod_read mi_Mod_read me_Mod_read wd_1470 hP hD hS hA [0, 1] rfl (by decide) 0 rfl rfl rfl rfl rfl (by decide) rfl hl.1 rfl (Nat.le_of_ble_eq_true rfl) (by decide) d_Mod_audit_16) hP hD hS hA [0, 1] [] rfl rfl (by decide) (by decide) (fun u2 H locs hr1 hP hD hS => ?_)
  try dsimp only at hr1
  have hP : va_P g.1 classes [(h0, .inr (10, mo q (upd (upd (upd (upd (upd (upd (upd (upd (upd (upd (upd (upd (upd (upd (upd (upd v 0 0) 1 0) 8 1) 9 0) 10 0) 11 0) 12 0) 13 0) 18 0) 19 0) 20 0) 21 0) 24 0) 25 0) 26 0) 38 0))), ((q 14), aI g 620 (fun _ => 0))] H := hP
  have hD : va_D A [(h0, .inr (10, mo q (upd (upd (upd (upd (upd (upd (upd (upd (upd (upd (upd (upd (upd (upd (upd (upd v 0 0) 1 0) 8 1) 9 0) 10 0) 11 0) 12 0) 13 0) 18 0) 19 0) 20 0) 21 0) 24 0) 25 0) 26 0) 38 0))), ((q 14), aI g 620 (fun _ => 0))] := hD
  refine lv_aload_n hx hb d_Mod_audit_19 rfl (lv_at hl 0 rfl) ?_
  refine va_get (D := g.1) (ci := 10) (v := .int 1) (C := R_Mod) (T := F_Mod) (N := 61) hx hb hts in_Mod hown hK hP 0 rfl rfl 8 (by decide) (hts _ wd_1258) (fun _ h9 => h9) rfl d_Mod_audit_20 ?_
  refine lv_if_ne (tgt := 30) hx hb d_Mod_audit_23 (by decide) (fun h23 => ?_) (fun h23 => ?_)
  · refine lv_aload_n hx hb d_Mod_audit_30 rfl (lv_at hl 0 rfl) ?_
    refine va_get (D := g.1) (ci := 10) (v := .int 1) (C := R_Mod) (T := F_Mod) (N := 61) hx hb hts in_Mod hown hK hP 0 rfl rfl 8 (by decide) (hts _ wd_1258) (fun _ h9 => h9) rfl d_Mod_audit_31 ?_
    refine lv_if_ne (tgt := 41) hx hb d_Mod_audit_34 (by decide) (fun h34 => ?_) (fun h34 => ?_)
    · refine lv_aload_n hx hb d_Mod_audit_41 rfl (lv_at hl 0 rfl) ?_
      refine va_get (D := g.1) (ci := 10) (v := .int 0) (C := R_Mod) (T := F_Mod) (N := 61) hx hb hts in_Mod hown hK hP 0 rfl rfl 24 (by decide) (hts _ wd_1274) (fun _ h9 => h9) rfl d_Mod_audit_42 ?_
      refine lv_istore_n hx hb d_Mod_audit_45 rfl hl (by decide) rfl (fun ls hl => ?_)
      have hl : lv_has ls 2 [(1, .int 0), (0, .ref h0)] := hl
      refine lv_aload_n hx hb d_Mod_audit_46 rfl (lv_at hl 1 rfl) ?_
      refine va_get (D := g.1) (ci := 10) (v := .int 1) (C := R_Mod) (T := F_Mod) (N := 61) hx hb hts in_Mod hown hK hP 0 rfl rfl 8 (by decide) (hts _ wd_1258) (fun _ h9 => h9) rfl d_Mod_audit_47 ?_
      refine lv_if_ne (tgt := 81) hx hb d_Mod_audit_50 (by decide) (fun h50 => ?_) (fun h50 => ?_)
      · refine lv_aload_n hx hb d_Mod_audit_81 rfl (lv_at hl 1 rfl) ?_
        refine va_get (D := g.1) (ci := 10) (v := .int 1) (C := R_Mod) (T := F_Mod) (N := 61) hx hb hts in_Mod hown hK hP 0 rfl rfl 8 (by decide) (hts _ wd_1258) (fun _ h9 => h9) rfl d_Mod_audit_82 ?_
        refine lv_if_ne (tgt := 92) hx hb d_Mod_audit_85 (by decide) (fun h85 => ?_) (fun h85 => ?_)
        · refine lv_aload_n hx hb d_Mod_audit_92 rfl (lv_at hl 1 rfl) ?_
          refine va_get (D := g.1) (ci := 10) (v := .int 1) (C := R_Mod) (T := F_Mod) (N := 61) hx hb hts in_Mod hown hK hP 0 rfl rfl 8 (by decide) (hts _ wd_1258) (fun _ h9 => h9) rfl d_Mod_audit_93 ?_
          exact tw_iret E hS () rfl hP hD d_Mod_audit_96
        · exact absurd h85 (by decide)
      · exact absurd h50 (by decide)
    · exact absurd h34 (by decide)
  · exact absurd h23 (by decide)
