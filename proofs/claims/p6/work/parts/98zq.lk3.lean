set_option maxHeartbeats 4000000 in
set_option maxRecDepth 100000 in
theorem g_Mod_linkMemberConstant (l : Launch) (g : tw_G) (sz : Nat) (h0 : Nat) (q : Nat → Nat) (rf : Int32) (n : Nat) (mm : Int32) (mb : Int32) (av : Nat) (ev : Nat) (wi : Int32) (mn : Nat) (tp : Int32) (tc : Int32) (sc : Int32) (nf : Nat) (fd : Nat) (me : Nat) (mp : Int32) (xn : Nat) (mt : Nat) (wh : Nat) (tq : Nat) (ag : Nat) (an : Int32) (ig : Int32) (bs : Nat → Int32) (tg : Nat → Int32) (tl : Nat → Int32) (on : Nat → Int32) (tw : Nat → Int32) (fa : Int32) (fp : Int32) (k : Nat) (hmn : mn ≤ 620) (hTX : TXT tg on tw) (hLCA : LCA mn tg on tw) (hk0 : 0 < k) (hkm : k < mn) (ht9 : tg k = 9 ∨ tg k = 10) (hf0 : fa = 0) : Met l y_Mod_linkMemberConstant [.code y_Mod_linkMemberConstant b_Mod_linkMemberConstant 6 none] ({ frames := 6, cells := 0, slots := 0, locals := 139 }) (tw_P g [.ref h0, .int (nI k)] [(h0, .inr (10, mob q rf n mm mb fa fp av ev wi mn tp tc sc nf fd me mp xn mt wh tq ag an ig)), ((q 2), aI g 600 bs), ((q 14), aI g 620 tg), ((q 15), aI g 620 tl), ((q 16), aI g 620 on), ((q 17), aI g 620 tw)] sz) (tw_Qv g (fun (u : Int32 × Int32) => (u.1 = 0 → fa = 0) ∧ (u.1 = 0 → MC1 bs tg on tw k)) (fun u : Int32 × Int32 => [(h0, .inr (10, mob q rf n mm mb u.1 u.2 av ev wi mn tp tc sc nf fd me mp xn mt wh tq ag an ig)), ((q 2), aI g 600 bs), ((q 14), aI g 620 tg), ((q 15), aI g 620 tl), ((q 16), aI g 620 on), ((q 17), aI g 620 tw)]) (va_A [(h0, .inr (10, mob q rf n mm mb fa fp av ev wi mn tp tc sc nf fd me mp xn mt wh tq ag an ig)), ((q 2), aI g 600 bs), ((q 14), aI g 620 tg), ((q 15), aI g 620 tl), ((q 16), aI g 620 on), ((q 17), aI g 620 tw)] sz)) 0 0 (va_A [(h0, .inr (10, mob q rf n mm mb fa fp av ev wi mn tp tc sc nf fd me mp xn mt wh tq ag an ig)), ((q 2), aI g 600 bs), ((q 14), aI g 620 tg), ((q 15), aI g 620 tl), ((q 16), aI g 620 on), ((q 17), aI g 620 tw)] sz) := by
  refine tw_metW (l := l) (g := g) (y := y_Mod_linkMemberConstant) (cc := b_Mod_linkMemberConstant) (maxL := 6) (ret := none) (rm := { frames := 6, cells := 0, slots := 0, locals := 139 }) (mc := 0) (ms := 0) (av := [.ref h0, .int (nI k)]) (ws := [(h0, .inr (10, mob q rf n mm mb fa fp av ev wi mn tp tc sc nf fd me mp xn mt wh tq ag an ig)), ((q 2), aI g 600 bs), ((q 14), aI g 620 tg), ((q 15), aI g 620 tl), ((q 16), aI g 620 on), ((q 17), aI g 620 tw)]) (sz := sz) (Qc := fun A => (tw_Qv g (fun (u : Int32 × Int32) => (u.1 = 0 → fa = 0) ∧ (u.1 = 0 → MC1 bs tg on tw k)) (fun u : Int32 × Int32 => [(h0, .inr (10, mob q rf n mm mb u.1 u.2 av ev wi mn tp tc sc nf fd me mp xn mt wh tq ag an ig)), ((q 2), aI g 600 bs), ((q 14), aI g 620 tg), ((q 15), aI g 620 tl), ((q 16), aI g 620 on), ((q 17), aI g 620 tw)]) A)) (by decide) (Nat.le_of_ble_eq_true rfl) ?_
  intro p e s m below meth c ls H A E hB hK hZ hP hD hS hA hl
  obtain ⟨hx, hb, hml, hr, hown, hts, hlocks, hin⟩ := id E
  have hl : lv_has ls 6 [(0, .ref h0), (1, .int (nI k))] := hl
  obtain ⟨j2, jn, jt, pn, ln1, pt, lt1, q1, q2, q3, q4, q5, q6, q7, q8, q9, q10, q11, q12⟩ := lk_pair hLCA hTX hmn hk0 hkm ht9
  refine lv_aload_n hx hb d_Mod_linkMemberConstant_0 rfl (lv_at hl 0 rfl) ?_
  refine va_get (D := g.1) (ci := 10) (v := .ref (q 16)) (C := R_Mod) (T := F_Mod) (N := 61) hx hb hts in_Mod hown hK hP 0 rfl rfl 16 (by decide) (hts _ wd_1266) (fun _ h9 => h9) rfl d_Mod_linkMemberConstant_1 ?_
  refine lv_aload_n hx hb d_Mod_linkMemberConstant_4 rfl (lv_at hl 0 rfl) ?_
  refine va_get (D := g.1) (ci := 10) (v := .ref (q 17)) (C := R_Mod) (T := F_Mod) (N := 61) hx hb hts in_Mod hown hK hP 0 rfl rfl 17 (by decide) (hts _ wd_1267) (fun _ h9 => h9) rfl d_Mod_linkMemberConstant_5 ?_
  refine lv_iload_n hx hb d_Mod_linkMemberConstant_8 rfl (lv_at hl 1 rfl) ?_
  refine va_iald hx hb hK hP 5 0 rfl rfl (vp_in_nI (by omega) (by decide)) d_Mod_linkMemberConstant_9 ?_
  refine tw_ri (e2 := nI j2) (by rw [nI_clamp (by omega)]; exact q1) ?_
  refine va_iald hx hb hK hP 4 0 rfl rfl (vp_in_nI (by omega) (by decide)) d_Mod_linkMemberConstant_10 ?_
  refine tw_ri (e2 := nI jn) (by rw [nI_clamp (by omega)]; exact q3) ?_
  refine lv_istore_n hx hb d_Mod_linkMemberConstant_11 rfl hl (by decide) rfl (fun ls hl => ?_)
  have hl : lv_has ls 6 [(2, .int (nI jn)), (0, .ref h0), (1, .int (nI k))] := hl
  refine lv_aload_n hx hb d_Mod_linkMemberConstant_12 rfl (lv_at hl 1 rfl) ?_
  refine va_get (D := g.1) (ci := 10) (v := .ref (q 17)) (C := R_Mod) (T := F_Mod) (N := 61) hx hb hts in_Mod hown hK hP 0 rfl rfl 17 (by decide) (hts _ wd_1267) (fun _ h9 => h9) rfl d_Mod_linkMemberConstant_13 ?_
  refine lv_aload_n hx hb d_Mod_linkMemberConstant_16 rfl (lv_at hl 1 rfl) ?_
  refine va_get (D := g.1) (ci := 10) (v := .ref (q 17)) (C := R_Mod) (T := F_Mod) (N := 61) hx hb hts in_Mod hown hK hP 0 rfl rfl 17 (by decide) (hts _ wd_1267) (fun _ h9 => h9) rfl d_Mod_linkMemberConstant_17 ?_
  refine lv_iload_n hx hb d_Mod_linkMemberConstant_20 rfl (lv_at hl 2 rfl) ?_
  refine va_iald hx hb hK hP 5 0 rfl rfl (vp_in_nI (by omega) (by decide)) d_Mod_linkMemberConstant_21 ?_
  refine tw_ri (e2 := nI j2) (by rw [nI_clamp (by omega)]; exact q1) ?_
  refine va_iald hx hb hK hP 5 0 rfl rfl (vp_in_nI (by omega) (by decide)) d_Mod_linkMemberConstant_22 ?_
  refine tw_ri (e2 := nI jt) (by rw [nI_clamp (by omega)]; exact q4) ?_
  refine lv_istore_n hx hb d_Mod_linkMemberConstant_23 rfl hl (by decide) rfl (fun ls hl => ?_)
  have hl : lv_has ls 6 [(3, .int (nI jt)), (2, .int (nI jn)), (0, .ref h0), (1, .int (nI k))] := hl
  refine lv_aload_n hx hb d_Mod_linkMemberConstant_24 rfl (lv_at hl 2 rfl) ?_
  refine lv_iload_n hx hb d_Mod_linkMemberConstant_25 rfl (lv_at hl 1 rfl) ?_
  refine tw_si (tw_runV (ws := [(h0, .inr (10, mob q rf n mm mb fa fp av ev wi mn tp tc sc nf fd me mp xn mt wh tq ag an ig)), ((q 2), aI g 600 bs), ((q 14), aI g 620 tg), ((q 15), aI g 620 tl), ((q 16), aI g 620 on), ((q 17), aI g 620 tw)]) (wc := [(h0, .inr (10, mob q rf n mm mb fa fp av ev wi mn tp tc sc nf fd me mp xn mt wh tq ag an ig)), ((q 2), aI g 600 bs), ((q 16), aI g 620 on), ((q 17), aI g 620 tw)]) (As := [.int (nI jn)]) (rest := []) E hB hK hZ (g_Mod_isInit l g H.size h0 q rf n mm mb fa fp av ev wi mn tp tc sc nf fd me mp xn mt wh tq ag an ig bs on tw jn pn ln1 (by omega) q7 q8 q9) mc_Mod_isInit mi_Mod_isInit me_Mod_isInit wd_1551 hP hD hS hA [0, 1, 4, 5] rfl (by decide) 0 rfl rfl rfl rfl rfl (by decide) rfl hl.1 rfl (Nat.le_of_ble_eq_true rfl) (by decide) d_Mod_linkMemberConstant_26) (fun r1 hr1 => ?_)
  have hB1 := hr1
  refine lv_if_ne (tgt := 54) hx hb d_Mod_linkMemberConstant_29 (by decide) (fun h29 => ?_) (fun h29 => ?_)
  · refine lv_iconst (v := 0) hx hb d_Mod_linkMemberConstant_54 (by decide) ?_
    refine lv_istore hx hb d_Mod_linkMemberConstant_55 hl (by decide) rfl (fun ls hl => ?_)
    have hl : lv_has ls 6 [(4, .int 0), (3, .int (nI jt)), (2, .int (nI jn)), (0, .ref h0), (1, .int (nI k))] := hl
    refine lv_aload_n hx hb d_Mod_linkMemberConstant_57 rfl (lv_at hl 3 rfl) ?_
    refine lv_aload_n hx hb d_Mod_linkMemberConstant_58 rfl (lv_at hl 3 rfl) ?_
    refine va_get (D := g.1) (ci := 10) (v := .ref (q 16)) (C := R_Mod) (T := F_Mod) (N := 61) hx hb hts in_Mod hown hK hP 0 rfl rfl 16 (by decide) (hts _ wd_1266) (fun _ h9 => h9) rfl d_Mod_linkMemberConstant_59 ?_
    refine lv_iload_n hx hb d_Mod_linkMemberConstant_62 rfl (lv_at hl 1 rfl) ?_
    refine va_iald hx hb hK hP 4 0 rfl rfl (vp_in_nI (by omega) (by decide)) d_Mod_linkMemberConstant_63 ?_
    refine tw_ri (e2 := nI pt) (by rw [nI_clamp (by omega)]; exact q10) ?_
    refine lv_aload_n hx hb d_Mod_linkMemberConstant_64 rfl (lv_at hl 3 rfl) ?_
    refine lv_iload_n hx hb d_Mod_linkMemberConstant_65 rfl (lv_at hl 1 rfl) ?_
    refine tw_si (tw_runV (ws := [(h0, .inr (10, mob q rf n mm mb fa fp av ev wi mn tp tc sc nf fd me mp xn mt wh tq ag an ig)), ((q 2), aI g 600 bs), ((q 14), aI g 620 tg), ((q 15), aI g 620 tl), ((q 16), aI g 620 on), ((q 17), aI g 620 tw)]) (wc := [(h0, .inr (10, mob q rf n mm mb fa fp av ev wi mn tp tc sc nf fd me mp xn mt wh tq ag an ig)), ((q 16), aI g 620 on), ((q 17), aI g 620 tw)]) (As := [.int (nI jt)]) (rest := [.int (nI pt), .ref h0]) E hB hK hZ (g_Mod_endOf l g H.size h0 q rf n mm mb fa fp av ev wi mn tp tc sc nf fd me mp xn mt wh tq ag an ig on tw jt pt lt1 (by omega) q10 q11 q12) mc_Mod_endOf mi_Mod_endOf me_Mod_endOf wd_1536 hP hD hS hA [0, 4, 5] rfl (by decide) 0 rfl rfl rfl rfl rfl (by decide) rfl hl.1 rfl (Nat.le_of_ble_eq_true rfl) (by decide) d_Mod_linkMemberConstant_66) (fun r2 hr2 => ?_)
    have hB2 := hr2
    subst hB2
    refine tw_si (tw_runV (ws := [(h0, .inr (10, mob q rf n mm mb fa fp av ev wi mn tp tc sc nf fd me mp xn mt wh tq ag an ig)), ((q 2), aI g 600 bs), ((q 14), aI g 620 tg), ((q 15), aI g 620 tl), ((q 16), aI g 620 on), ((q 17), aI g 620 tw)]) (wc := [(h0, .inr (10, mob q rf n mm mb fa fp av ev wi mn tp tc sc nf fd me mp xn mt wh tq ag an ig)), ((q 2), aI g 600 bs)]) (As := [.int (nI pt), .int (nI (pt + lt1))]) (rest := []) E hB hK hZ (g_Mod_isMethodType l g H.size h0 q rf n mm mb fa fp av ev wi mn tp tc sc nf fd me mp xn mt wh tq ag an ig bs pt (pt + lt1) (by omega) (by omega)) mc_Mod_isMethodType mi_Mod_isMethodType me_Mod_isMethodType wd_1563 hP hD hS hA [0, 1] rfl (by decide) 0 rfl rfl rfl rfl rfl (by decide) rfl hl.1 rfl (Nat.le_of_ble_eq_true rfl) (by decide) d_Mod_linkMemberConstant_69) (fun r3 hr3 => ?_)
    have hB3 := hr3
    refine lv_if_eq (tgt := 104) hx hb d_Mod_linkMemberConstant_72 (by decide) (fun h72 => ?_) (fun h72 => ?_)
    · refine lv_iconst (v := 0) hx hb d_Mod_linkMemberConstant_104 (by decide) ?_
      refine lv_istore hx hb d_Mod_linkMemberConstant_105 hl (by decide) rfl (fun ls hl => ?_)
      have hl : lv_has ls 6 [(5, .int 0), (4, .int 0), (3, .int (nI jt)), (2, .int (nI jn)), (0, .ref h0), (1, .int (nI k))] := hl
      refine lv_aload_n hx hb d_Mod_linkMemberConstant_107 rfl (lv_at hl 4 rfl) ?_
      refine va_get (D := g.1) (ci := 10) (v := .ref (q 14)) (C := R_Mod) (T := F_Mod) (N := 61) hx hb hts in_Mod hown hK hP 0 rfl rfl 14 (by decide) (hts _ wd_1264) (fun _ h9 => h9) rfl d_Mod_linkMemberConstant_108 ?_
      refine lv_iload_n hx hb d_Mod_linkMemberConstant_111 rfl (lv_at hl 5 rfl) ?_
      refine va_iald hx hb hK hP 2 0 rfl rfl (vp_in_nI (by omega) (by decide)) d_Mod_linkMemberConstant_112 ?_
      refine tw_ri (e2 := tg k) (by rw [nI_clamp (by omega)]) ?_
      refine lv_bipush (v := 9) hx hb d_Mod_linkMemberConstant_113 (by decide) ?_
      refine lv_icmp_ne (tgt := 126) hx hb d_Mod_linkMemberConstant_115 (by decide) (fun h115 => ?_) (fun h115 => ?_)
      · refine lv_iload hx hb d_Mod_linkMemberConstant_126 (lv_at hl 0 rfl) ?_
        refine lv_if_ne (tgt := 143) hx hb d_Mod_linkMemberConstant_128 (by decide) (fun h128 => ?_) (fun h128 => ?_)
        · first | exact absurd h128 (by decide) | exact absurd (by decide) h128
        · refine lv_aload_n hx hb d_Mod_linkMemberConstant_131 rfl (lv_at hl 4 rfl) ?_
          refine lv_bipush (v := 11) hx hb d_Mod_linkMemberConstant_132 (by decide) ?_
          refine lv_aload_n hx hb d_Mod_linkMemberConstant_134 rfl (lv_at hl 4 rfl) ?_
          refine va_get (D := g.1) (ci := 10) (v := .ref (q 15)) (C := R_Mod) (T := F_Mod) (N := 61) hx hb hts in_Mod hown hK hP 0 rfl rfl 15 (by decide) (hts _ wd_1265) (fun _ h9 => h9) rfl d_Mod_linkMemberConstant_135 ?_
          refine lv_iload_n hx hb d_Mod_linkMemberConstant_138 rfl (lv_at hl 5 rfl) ?_
          refine va_iald hx hb hK hP 3 0 rfl rfl (vp_in_nI (by omega) (by decide)) d_Mod_linkMemberConstant_139 ?_
          obtain ⟨x4, ex4⟩ : ∃ z : Int32, tl ((nI k).toNatClampNeg) = z := ⟨_, rfl⟩
          refine tw_ri (e2 := x4) ex4 ?_
          refine tw_wv (wr := [((q 2), aI g 600 bs), ((q 14), aI g 620 tg), ((q 15), aI g 620 tl), ((q 16), aI g 620 on), ((q 17), aI g 620 tw)]) (tw_runV (ws := [(h0, .inr (10, mob q rf n mm mb fa fp av ev wi mn tp tc sc nf fd me mp xn mt wh tq ag an ig)), ((q 2), aI g 600 bs), ((q 14), aI g 620 tg), ((q 15), aI g 620 tl), ((q 16), aI g 620 on), ((q 17), aI g 620 tw)]) (wc := [(h0, .inr (10, mob q rf n mm mb fa fp av ev wi mn tp tc sc nf fd me mp xn mt wh tq ag an ig))]) (As := [.int 11, .int x4]) (rest := []) E hB hK hZ (g_Mod_fail l g H.size h0 q rf n mm mb av ev wi mn tp tc sc nf fd me mp xn mt wh tq ag an ig fa fp 11 x4 (by decide)) mc_Mod_fail mi_Mod_fail me_Mod_fail wd_1478 hP hD hS hA [0] rfl (by decide) 0 rfl rfl rfl rfl rfl (by decide) rfl hl.1 rfl (Nat.le_of_ble_eq_true rfl) (by decide) d_Mod_linkMemberConstant_140) hP hD hS hA [0] [1, 2, 3, 4, 5] rfl rfl (by decide) (by decide) (fun u6 H locs hr5 hP hD hS => ?_)
          try dsimp only at hr5
          have hP : va_P g.1 classes [((q 2), aI g 600 bs), ((q 14), aI g 620 tg), ((q 15), aI g 620 tl), ((q 16), aI g 620 on), ((q 17), aI g 620 tw), (h0, .inr (10, mob q rf n mm mb u6.1 u6.2 av ev wi mn tp tc sc nf fd me mp xn mt wh tq ag an ig))] H := hP
          have hD : va_D A [((q 2), aI g 600 bs), ((q 14), aI g 620 tg), ((q 15), aI g 620 tl), ((q 16), aI g 620 on), ((q 17), aI g 620 tw), (h0, .inr (10, mob q rf n mm mb u6.1 u6.2 av ev wi mn tp tc sc nf fd me mp xn mt wh tq ag an ig))] := hD
          have hP : va_P g.1 classes [(h0, .inr (10, mob q rf n mm mb u6.1 u6.2 av ev wi mn tp tc sc nf fd me mp xn mt wh tq ag an ig)), ((q 2), aI g 600 bs), ((q 14), aI g 620 tg), ((q 15), aI g 620 tl), ((q 16), aI g 620 on), ((q 17), aI g 620 tw)] H := hP.sub [5, 0, 1, 2, 3, 4] rfl
          have hD : va_D A [(h0, .inr (10, mob q rf n mm mb u6.1 u6.2 av ev wi mn tp tc sc nf fd me mp xn mt wh tq ag an ig)), ((q 2), aI g 600 bs), ((q 14), aI g 620 tg), ((q 15), aI g 620 tl), ((q 16), aI g 620 on), ((q 17), aI g 620 tw)] := hD.sub [5, 0, 1, 2, 3, 4] (by decide) rfl
          have hp6_0 := hr5
          exact tw_vret E hS (u6.1, u6.2) (⟨(fun h => absurd h hp6_0), (fun h => absurd h hp6_0)⟩) hP hD d_Mod_linkMemberConstant_143
      · refine lv_iload hx hb d_Mod_linkMemberConstant_118 (lv_at hl 1 rfl) ?_
        refine lv_if_ne (tgt := 143) hx hb d_Mod_linkMemberConstant_120 (by decide) (fun h120 => ?_) (fun h120 => ?_)
        · first | exact absurd h120 (by decide) | exact absurd (by decide) h120
        · refine lv_goto (tgt := 131) hx hb d_Mod_linkMemberConstant_123 (by decide) ?_
          refine lv_aload_n hx hb d_Mod_linkMemberConstant_131 rfl (lv_at hl 4 rfl) ?_
          refine lv_bipush (v := 11) hx hb d_Mod_linkMemberConstant_132 (by decide) ?_
          refine lv_aload_n hx hb d_Mod_linkMemberConstant_134 rfl (lv_at hl 4 rfl) ?_
          refine va_get (D := g.1) (ci := 10) (v := .ref (q 15)) (C := R_Mod) (T := F_Mod) (N := 61) hx hb hts in_Mod hown hK hP 0 rfl rfl 15 (by decide) (hts _ wd_1265) (fun _ h9 => h9) rfl d_Mod_linkMemberConstant_135 ?_
          refine lv_iload_n hx hb d_Mod_linkMemberConstant_138 rfl (lv_at hl 5 rfl) ?_
          refine va_iald hx hb hK hP 3 0 rfl rfl (vp_in_nI (by omega) (by decide)) d_Mod_linkMemberConstant_139 ?_
          obtain ⟨x7, ex7⟩ : ∃ z : Int32, tl ((nI k).toNatClampNeg) = z := ⟨_, rfl⟩
          refine tw_ri (e2 := x7) ex7 ?_
          refine tw_wv (wr := [((q 2), aI g 600 bs), ((q 14), aI g 620 tg), ((q 15), aI g 620 tl), ((q 16), aI g 620 on), ((q 17), aI g 620 tw)]) (tw_runV (ws := [(h0, .inr (10, mob q rf n mm mb fa fp av ev wi mn tp tc sc nf fd me mp xn mt wh tq ag an ig)), ((q 2), aI g 600 bs), ((q 14), aI g 620 tg), ((q 15), aI g 620 tl), ((q 16), aI g 620 on), ((q 17), aI g 620 tw)]) (wc := [(h0, .inr (10, mob q rf n mm mb fa fp av ev wi mn tp tc sc nf fd me mp xn mt wh tq ag an ig))]) (As := [.int 11, .int x7]) (rest := []) E hB hK hZ (g_Mod_fail l g H.size h0 q rf n mm mb av ev wi mn tp tc sc nf fd me mp xn mt wh tq ag an ig fa fp 11 x7 (by decide)) mc_Mod_fail mi_Mod_fail me_Mod_fail wd_1478 hP hD hS hA [0] rfl (by decide) 0 rfl rfl rfl rfl rfl (by decide) rfl hl.1 rfl (Nat.le_of_ble_eq_true rfl) (by decide) d_Mod_linkMemberConstant_140) hP hD hS hA [0] [1, 2, 3, 4, 5] rfl rfl (by decide) (by decide) (fun u9 H locs hr8 hP hD hS => ?_)
          try dsimp only at hr8
          have hP : va_P g.1 classes [((q 2), aI g 600 bs), ((q 14), aI g 620 tg), ((q 15), aI g 620 tl), ((q 16), aI g 620 on), ((q 17), aI g 620 tw), (h0, .inr (10, mob q rf n mm mb u9.1 u9.2 av ev wi mn tp tc sc nf fd me mp xn mt wh tq ag an ig))] H := hP
          have hD : va_D A [((q 2), aI g 600 bs), ((q 14), aI g 620 tg), ((q 15), aI g 620 tl), ((q 16), aI g 620 on), ((q 17), aI g 620 tw), (h0, .inr (10, mob q rf n mm mb u9.1 u9.2 av ev wi mn tp tc sc nf fd me mp xn mt wh tq ag an ig))] := hD
          have hP : va_P g.1 classes [(h0, .inr (10, mob q rf n mm mb u9.1 u9.2 av ev wi mn tp tc sc nf fd me mp xn mt wh tq ag an ig)), ((q 2), aI g 600 bs), ((q 14), aI g 620 tg), ((q 15), aI g 620 tl), ((q 16), aI g 620 on), ((q 17), aI g 620 tw)] H := hP.sub [5, 0, 1, 2, 3, 4] rfl
          have hD : va_D A [(h0, .inr (10, mob q rf n mm mb u9.1 u9.2 av ev wi mn tp tc sc nf fd me mp xn mt wh tq ag an ig)), ((q 2), aI g 600 bs), ((q 14), aI g 620 tg), ((q 15), aI g 620 tl), ((q 16), aI g 620 on), ((q 17), aI g 620 tw)] := hD.sub [5, 0, 1, 2, 3, 4] (by decide) rfl
          have hp9_0 := hr8
          exact tw_vret E hS (u9.1, u9.2) (⟨(fun h => absurd h hp9_0), (fun h => absurd h hp9_0)⟩) hP hD d_Mod_linkMemberConstant_143
    · have hT72 := hB3.2 (hB3.1.resolve_left h72)
      have hT72a := hT72.1
      refine lv_aload_n hx hb d_Mod_linkMemberConstant_75 rfl (lv_at hl 3 rfl) ?_
      refine lv_iload_n hx hb d_Mod_linkMemberConstant_76 rfl (lv_at hl 2 rfl) ?_
      refine tw_si (tw_runV (ws := [(h0, .inr (10, mob q rf n mm mb fa fp av ev wi mn tp tc sc nf fd me mp xn mt wh tq ag an ig)), ((q 2), aI g 600 bs), ((q 14), aI g 620 tg), ((q 15), aI g 620 tl), ((q 16), aI g 620 on), ((q 17), aI g 620 tw)]) (wc := [(h0, .inr (10, mob q rf n mm mb fa fp av ev wi mn tp tc sc nf fd me mp xn mt wh tq ag an ig)), ((q 2), aI g 600 bs), ((q 16), aI g 620 on), ((q 17), aI g 620 tw)]) (As := [.int (nI jn)]) (rest := []) E hB hK hZ (g_Mod_isInit l g H.size h0 q rf n mm mb fa fp av ev wi mn tp tc sc nf fd me mp xn mt wh tq ag an ig bs on tw jn pn ln1 (by omega) q7 q8 q9) mc_Mod_isInit mi_Mod_isInit me_Mod_isInit wd_1551 hP hD hS hA [0, 1, 4, 5] rfl (by decide) 0 rfl rfl rfl rfl rfl (by decide) rfl hl.1 rfl (Nat.le_of_ble_eq_true rfl) (by decide) d_Mod_linkMemberConstant_77) (fun r10 hr10 => ?_)
      have hB10 := hr10
      refine lv_if_eq (tgt := 100) hx hb d_Mod_linkMemberConstant_80 (by decide) (fun h80 => ?_) (fun h80 => ?_)
      · refine lv_iconst (v := 1) hx hb d_Mod_linkMemberConstant_100 (by decide) ?_
        refine lv_goto (tgt := 105) hx hb d_Mod_linkMemberConstant_101 (by decide) ?_
        refine lv_istore hx hb d_Mod_linkMemberConstant_105 hl (by decide) rfl (fun ls hl => ?_)
        have hl : lv_has ls 6 [(5, .int 1), (4, .int 0), (3, .int (nI jt)), (2, .int (nI jn)), (0, .ref h0), (1, .int (nI k))] := hl
        refine lv_aload_n hx hb d_Mod_linkMemberConstant_107 rfl (lv_at hl 4 rfl) ?_
        refine va_get (D := g.1) (ci := 10) (v := .ref (q 14)) (C := R_Mod) (T := F_Mod) (N := 61) hx hb hts in_Mod hown hK hP 0 rfl rfl 14 (by decide) (hts _ wd_1264) (fun _ h9 => h9) rfl d_Mod_linkMemberConstant_108 ?_
        refine lv_iload_n hx hb d_Mod_linkMemberConstant_111 rfl (lv_at hl 5 rfl) ?_
        refine va_iald hx hb hK hP 2 0 rfl rfl (vp_in_nI (by omega) (by decide)) d_Mod_linkMemberConstant_112 ?_
        refine tw_ri (e2 := tg k) (by rw [nI_clamp (by omega)]) ?_
        refine lv_bipush (v := 9) hx hb d_Mod_linkMemberConstant_113 (by decide) ?_
        refine lv_icmp_ne (tgt := 126) hx hb d_Mod_linkMemberConstant_115 (by decide) (fun h115 => ?_) (fun h115 => ?_)
        · refine lv_iload hx hb d_Mod_linkMemberConstant_126 (lv_at hl 0 rfl) ?_
          refine lv_if_ne (tgt := 143) hx hb d_Mod_linkMemberConstant_128 (by decide) (fun h128 => ?_) (fun h128 => ?_)
          · exact tw_vret E hS (fa, fp) (⟨(fun h => h), (fun _ => ⟨fun h => absurd h h115, fun _ => ⟨j2, jt, pt, lt1, q1, q2, q4, q6, q10, q11, q12, hT72⟩⟩)⟩) hP hD d_Mod_linkMemberConstant_143
          · first | exact absurd h128 (by decide) | exact absurd (by decide) h128
        · refine lv_iload hx hb d_Mod_linkMemberConstant_118 (lv_at hl 1 rfl) ?_
          refine lv_if_ne (tgt := 143) hx hb d_Mod_linkMemberConstant_120 (by decide) (fun h120 => ?_) (fun h120 => ?_)
          · first | exact absurd h120 (by decide) | exact absurd (by decide) h120
          · refine lv_goto (tgt := 131) hx hb d_Mod_linkMemberConstant_123 (by decide) ?_
            refine lv_aload_n hx hb d_Mod_linkMemberConstant_131 rfl (lv_at hl 4 rfl) ?_
            refine lv_bipush (v := 11) hx hb d_Mod_linkMemberConstant_132 (by decide) ?_
            refine lv_aload_n hx hb d_Mod_linkMemberConstant_134 rfl (lv_at hl 4 rfl) ?_
            refine va_get (D := g.1) (ci := 10) (v := .ref (q 15)) (C := R_Mod) (T := F_Mod) (N := 61) hx hb hts in_Mod hown hK hP 0 rfl rfl 15 (by decide) (hts _ wd_1265) (fun _ h9 => h9) rfl d_Mod_linkMemberConstant_135 ?_
            refine lv_iload_n hx hb d_Mod_linkMemberConstant_138 rfl (lv_at hl 5 rfl) ?_
            refine va_iald hx hb hK hP 3 0 rfl rfl (vp_in_nI (by omega) (by decide)) d_Mod_linkMemberConstant_139 ?_
            obtain ⟨x11, ex11⟩ : ∃ z : Int32, tl ((nI k).toNatClampNeg) = z := ⟨_, rfl⟩
            refine tw_ri (e2 := x11) ex11 ?_
            refine tw_wv (wr := [((q 2), aI g 600 bs), ((q 14), aI g 620 tg), ((q 15), aI g 620 tl), ((q 16), aI g 620 on), ((q 17), aI g 620 tw)]) (tw_runV (ws := [(h0, .inr (10, mob q rf n mm mb fa fp av ev wi mn tp tc sc nf fd me mp xn mt wh tq ag an ig)), ((q 2), aI g 600 bs), ((q 14), aI g 620 tg), ((q 15), aI g 620 tl), ((q 16), aI g 620 on), ((q 17), aI g 620 tw)]) (wc := [(h0, .inr (10, mob q rf n mm mb fa fp av ev wi mn tp tc sc nf fd me mp xn mt wh tq ag an ig))]) (As := [.int 11, .int x11]) (rest := []) E hB hK hZ (g_Mod_fail l g H.size h0 q rf n mm mb av ev wi mn tp tc sc nf fd me mp xn mt wh tq ag an ig fa fp 11 x11 (by decide)) mc_Mod_fail mi_Mod_fail me_Mod_fail wd_1478 hP hD hS hA [0] rfl (by decide) 0 rfl rfl rfl rfl rfl (by decide) rfl hl.1 rfl (Nat.le_of_ble_eq_true rfl) (by decide) d_Mod_linkMemberConstant_140) hP hD hS hA [0] [1, 2, 3, 4, 5] rfl rfl (by decide) (by decide) (fun u13 H locs hr12 hP hD hS => ?_)
            try dsimp only at hr12
            have hP : va_P g.1 classes [((q 2), aI g 600 bs), ((q 14), aI g 620 tg), ((q 15), aI g 620 tl), ((q 16), aI g 620 on), ((q 17), aI g 620 tw), (h0, .inr (10, mob q rf n mm mb u13.1 u13.2 av ev wi mn tp tc sc nf fd me mp xn mt wh tq ag an ig))] H := hP
            have hD : va_D A [((q 2), aI g 600 bs), ((q 14), aI g 620 tg), ((q 15), aI g 620 tl), ((q 16), aI g 620 on), ((q 17), aI g 620 tw), (h0, .inr (10, mob q rf n mm mb u13.1 u13.2 av ev wi mn tp tc sc nf fd me mp xn mt wh tq ag an ig))] := hD
            have hP : va_P g.1 classes [(h0, .inr (10, mob q rf n mm mb u13.1 u13.2 av ev wi mn tp tc sc nf fd me mp xn mt wh tq ag an ig)), ((q 2), aI g 600 bs), ((q 14), aI g 620 tg), ((q 15), aI g 620 tl), ((q 16), aI g 620 on), ((q 17), aI g 620 tw)] H := hP.sub [5, 0, 1, 2, 3, 4] rfl
            have hD : va_D A [(h0, .inr (10, mob q rf n mm mb u13.1 u13.2 av ev wi mn tp tc sc nf fd me mp xn mt wh tq ag an ig)), ((q 2), aI g 600 bs), ((q 14), aI g 620 tg), ((q 15), aI g 620 tl), ((q 16), aI g 620 on), ((q 17), aI g 620 tw)] := hD.sub [5, 0, 1, 2, 3, 4] (by decide) rfl
            have hp13_0 := hr12
            exact tw_vret E hS (u13.1, u13.2) (⟨(fun h => absurd h hp13_0), (fun h => absurd h hp13_0)⟩) hP hD d_Mod_linkMemberConstant_143
      · refine lv_aload_n hx hb d_Mod_linkMemberConstant_83 rfl (lv_at hl 3 rfl) ?_
        refine va_get (D := g.1) (ci := 10) (v := .ref (q 2)) (C := R_Mod) (T := F_Mod) (N := 61) hx hb hts in_Mod hown hK hP 0 rfl rfl 2 (by decide) (hts _ wd_1252) (fun _ h9 => h9) rfl d_Mod_linkMemberConstant_84 ?_
        refine lv_aload_n hx hb d_Mod_linkMemberConstant_87 rfl (lv_at hl 3 rfl) ?_
        refine lv_iload_n hx hb d_Mod_linkMemberConstant_88 rfl (lv_at hl 1 rfl) ?_
        refine tw_si (tw_runV (ws := [(h0, .inr (10, mob q rf n mm mb fa fp av ev wi mn tp tc sc nf fd me mp xn mt wh tq ag an ig)), ((q 2), aI g 600 bs), ((q 14), aI g 620 tg), ((q 15), aI g 620 tl), ((q 16), aI g 620 on), ((q 17), aI g 620 tw)]) (wc := [(h0, .inr (10, mob q rf n mm mb fa fp av ev wi mn tp tc sc nf fd me mp xn mt wh tq ag an ig)), ((q 16), aI g 620 on), ((q 17), aI g 620 tw)]) (As := [.int (nI jt)]) (rest := [.ref (q 2)]) E hB hK hZ (g_Mod_endOf l g H.size h0 q rf n mm mb fa fp av ev wi mn tp tc sc nf fd me mp xn mt wh tq ag an ig on tw jt pt lt1 (by omega) q10 q11 q12) mc_Mod_endOf mi_Mod_endOf me_Mod_endOf wd_1536 hP hD hS hA [0, 4, 5] rfl (by decide) 0 rfl rfl rfl rfl rfl (by decide) rfl hl.1 rfl (Nat.le_of_ble_eq_true rfl) (by decide) d_Mod_linkMemberConstant_89) (fun r14 hr14 => ?_)
        have hB14 := hr14
        subst hB14
        refine lv_iconst (v := 1) hx hb d_Mod_linkMemberConstant_92 (by decide) ?_
        refine lv_isub hx hb d_Mod_linkMemberConstant_93 ?_
        refine tw_ri (e2 := nI (pt + lt1 - 1)) (pk_sub (b := 1) (by omega)) ?_
        refine va_iald hx hb hK hP 1 0 rfl rfl (vp_in_nI (by omega) (by decide)) d_Mod_linkMemberConstant_94 ?_
        obtain ⟨x15, ex15⟩ : ∃ z : Int32, bs ((nI (pt + lt1 - 1)).toNatClampNeg) = z := ⟨_, rfl⟩
        refine tw_ri (e2 := x15) ex15 ?_
        refine lv_bipush (v := 86) hx hb d_Mod_linkMemberConstant_95 (by decide) ?_
        refine lv_icmp_ne (tgt := 104) hx hb d_Mod_linkMemberConstant_97 (by decide) (fun h97 => ?_) (fun h97 => ?_)
        · refine lv_iconst (v := 0) hx hb d_Mod_linkMemberConstant_104 (by decide) ?_
          refine lv_istore hx hb d_Mod_linkMemberConstant_105 hl (by decide) rfl (fun ls hl => ?_)
          have hl : lv_has ls 6 [(5, .int 0), (4, .int 0), (3, .int (nI jt)), (2, .int (nI jn)), (0, .ref h0), (1, .int (nI k))] := hl
          refine lv_aload_n hx hb d_Mod_linkMemberConstant_107 rfl (lv_at hl 4 rfl) ?_
          refine va_get (D := g.1) (ci := 10) (v := .ref (q 14)) (C := R_Mod) (T := F_Mod) (N := 61) hx hb hts in_Mod hown hK hP 0 rfl rfl 14 (by decide) (hts _ wd_1264) (fun _ h9 => h9) rfl d_Mod_linkMemberConstant_108 ?_
          refine lv_iload_n hx hb d_Mod_linkMemberConstant_111 rfl (lv_at hl 5 rfl) ?_
          refine va_iald hx hb hK hP 2 0 rfl rfl (vp_in_nI (by omega) (by decide)) d_Mod_linkMemberConstant_112 ?_
          refine tw_ri (e2 := tg k) (by rw [nI_clamp (by omega)]) ?_
          refine lv_bipush (v := 9) hx hb d_Mod_linkMemberConstant_113 (by decide) ?_
          refine lv_icmp_ne (tgt := 126) hx hb d_Mod_linkMemberConstant_115 (by decide) (fun h115 => ?_) (fun h115 => ?_)
          · refine lv_iload hx hb d_Mod_linkMemberConstant_126 (lv_at hl 0 rfl) ?_
            refine lv_if_ne (tgt := 143) hx hb d_Mod_linkMemberConstant_128 (by decide) (fun h128 => ?_) (fun h128 => ?_)
            · first | exact absurd h128 (by decide) | exact absurd (by decide) h128
            · refine lv_aload_n hx hb d_Mod_linkMemberConstant_131 rfl (lv_at hl 4 rfl) ?_
              refine lv_bipush (v := 11) hx hb d_Mod_linkMemberConstant_132 (by decide) ?_
              refine lv_aload_n hx hb d_Mod_linkMemberConstant_134 rfl (lv_at hl 4 rfl) ?_
              refine va_get (D := g.1) (ci := 10) (v := .ref (q 15)) (C := R_Mod) (T := F_Mod) (N := 61) hx hb hts in_Mod hown hK hP 0 rfl rfl 15 (by decide) (hts _ wd_1265) (fun _ h9 => h9) rfl d_Mod_linkMemberConstant_135 ?_
              refine lv_iload_n hx hb d_Mod_linkMemberConstant_138 rfl (lv_at hl 5 rfl) ?_
              refine va_iald hx hb hK hP 3 0 rfl rfl (vp_in_nI (by omega) (by decide)) d_Mod_linkMemberConstant_139 ?_
              obtain ⟨x16, ex16⟩ : ∃ z : Int32, tl ((nI k).toNatClampNeg) = z := ⟨_, rfl⟩
              refine tw_ri (e2 := x16) ex16 ?_
              refine tw_wv (wr := [((q 2), aI g 600 bs), ((q 14), aI g 620 tg), ((q 15), aI g 620 tl), ((q 16), aI g 620 on), ((q 17), aI g 620 tw)]) (tw_runV (ws := [(h0, .inr (10, mob q rf n mm mb fa fp av ev wi mn tp tc sc nf fd me mp xn mt wh tq ag an ig)), ((q 2), aI g 600 bs), ((q 14), aI g 620 tg), ((q 15), aI g 620 tl), ((q 16), aI g 620 on), ((q 17), aI g 620 tw)]) (wc := [(h0, .inr (10, mob q rf n mm mb fa fp av ev wi mn tp tc sc nf fd me mp xn mt wh tq ag an ig))]) (As := [.int 11, .int x16]) (rest := []) E hB hK hZ (g_Mod_fail l g H.size h0 q rf n mm mb av ev wi mn tp tc sc nf fd me mp xn mt wh tq ag an ig fa fp 11 x16 (by decide)) mc_Mod_fail mi_Mod_fail me_Mod_fail wd_1478 hP hD hS hA [0] rfl (by decide) 0 rfl rfl rfl rfl rfl (by decide) rfl hl.1 rfl (Nat.le_of_ble_eq_true rfl) (by decide) d_Mod_linkMemberConstant_140) hP hD hS hA [0] [1, 2, 3, 4, 5] rfl rfl (by decide) (by decide) (fun u18 H locs hr17 hP hD hS => ?_)
              try dsimp only at hr17
              have hP : va_P g.1 classes [((q 2), aI g 600 bs), ((q 14), aI g 620 tg), ((q 15), aI g 620 tl), ((q 16), aI g 620 on), ((q 17), aI g 620 tw), (h0, .inr (10, mob q rf n mm mb u18.1 u18.2 av ev wi mn tp tc sc nf fd me mp xn mt wh tq ag an ig))] H := hP
              have hD : va_D A [((q 2), aI g 600 bs), ((q 14), aI g 620 tg), ((q 15), aI g 620 tl), ((q 16), aI g 620 on), ((q 17), aI g 620 tw), (h0, .inr (10, mob q rf n mm mb u18.1 u18.2 av ev wi mn tp tc sc nf fd me mp xn mt wh tq ag an ig))] := hD
              have hP : va_P g.1 classes [(h0, .inr (10, mob q rf n mm mb u18.1 u18.2 av ev wi mn tp tc sc nf fd me mp xn mt wh tq ag an ig)), ((q 2), aI g 600 bs), ((q 14), aI g 620 tg), ((q 15), aI g 620 tl), ((q 16), aI g 620 on), ((q 17), aI g 620 tw)] H := hP.sub [5, 0, 1, 2, 3, 4] rfl
              have hD : va_D A [(h0, .inr (10, mob q rf n mm mb u18.1 u18.2 av ev wi mn tp tc sc nf fd me mp xn mt wh tq ag an ig)), ((q 2), aI g 600 bs), ((q 14), aI g 620 tg), ((q 15), aI g 620 tl), ((q 16), aI g 620 on), ((q 17), aI g 620 tw)] := hD.sub [5, 0, 1, 2, 3, 4] (by decide) rfl
              have hp18_0 := hr17
              exact tw_vret E hS (u18.1, u18.2) (⟨(fun h => absurd h hp18_0), (fun h => absurd h hp18_0)⟩) hP hD d_Mod_linkMemberConstant_143
          · refine lv_iload hx hb d_Mod_linkMemberConstant_118 (lv_at hl 1 rfl) ?_
            refine lv_if_ne (tgt := 143) hx hb d_Mod_linkMemberConstant_120 (by decide) (fun h120 => ?_) (fun h120 => ?_)
            · first | exact absurd h120 (by decide) | exact absurd (by decide) h120
            · refine lv_goto (tgt := 131) hx hb d_Mod_linkMemberConstant_123 (by decide) ?_
              refine lv_aload_n hx hb d_Mod_linkMemberConstant_131 rfl (lv_at hl 4 rfl) ?_
              refine lv_bipush (v := 11) hx hb d_Mod_linkMemberConstant_132 (by decide) ?_
              refine lv_aload_n hx hb d_Mod_linkMemberConstant_134 rfl (lv_at hl 4 rfl) ?_
              refine va_get (D := g.1) (ci := 10) (v := .ref (q 15)) (C := R_Mod) (T := F_Mod) (N := 61) hx hb hts in_Mod hown hK hP 0 rfl rfl 15 (by decide) (hts _ wd_1265) (fun _ h9 => h9) rfl d_Mod_linkMemberConstant_135 ?_
              refine lv_iload_n hx hb d_Mod_linkMemberConstant_138 rfl (lv_at hl 5 rfl) ?_
              refine va_iald hx hb hK hP 3 0 rfl rfl (vp_in_nI (by omega) (by decide)) d_Mod_linkMemberConstant_139 ?_
              obtain ⟨x19, ex19⟩ : ∃ z : Int32, tl ((nI k).toNatClampNeg) = z := ⟨_, rfl⟩
              refine tw_ri (e2 := x19) ex19 ?_
              refine tw_wv (wr := [((q 2), aI g 600 bs), ((q 14), aI g 620 tg), ((q 15), aI g 620 tl), ((q 16), aI g 620 on), ((q 17), aI g 620 tw)]) (tw_runV (ws := [(h0, .inr (10, mob q rf n mm mb fa fp av ev wi mn tp tc sc nf fd me mp xn mt wh tq ag an ig)), ((q 2), aI g 600 bs), ((q 14), aI g 620 tg), ((q 15), aI g 620 tl), ((q 16), aI g 620 on), ((q 17), aI g 620 tw)]) (wc := [(h0, .inr (10, mob q rf n mm mb fa fp av ev wi mn tp tc sc nf fd me mp xn mt wh tq ag an ig))]) (As := [.int 11, .int x19]) (rest := []) E hB hK hZ (g_Mod_fail l g H.size h0 q rf n mm mb av ev wi mn tp tc sc nf fd me mp xn mt wh tq ag an ig fa fp 11 x19 (by decide)) mc_Mod_fail mi_Mod_fail me_Mod_fail wd_1478 hP hD hS hA [0] rfl (by decide) 0 rfl rfl rfl rfl rfl (by decide) rfl hl.1 rfl (Nat.le_of_ble_eq_true rfl) (by decide) d_Mod_linkMemberConstant_140) hP hD hS hA [0] [1, 2, 3, 4, 5] rfl rfl (by decide) (by decide) (fun u21 H locs hr20 hP hD hS => ?_)
              try dsimp only at hr20
              have hP : va_P g.1 classes [((q 2), aI g 600 bs), ((q 14), aI g 620 tg), ((q 15), aI g 620 tl), ((q 16), aI g 620 on), ((q 17), aI g 620 tw), (h0, .inr (10, mob q rf n mm mb u21.1 u21.2 av ev wi mn tp tc sc nf fd me mp xn mt wh tq ag an ig))] H := hP
              have hD : va_D A [((q 2), aI g 600 bs), ((q 14), aI g 620 tg), ((q 15), aI g 620 tl), ((q 16), aI g 620 on), ((q 17), aI g 620 tw), (h0, .inr (10, mob q rf n mm mb u21.1 u21.2 av ev wi mn tp tc sc nf fd me mp xn mt wh tq ag an ig))] := hD
              have hP : va_P g.1 classes [(h0, .inr (10, mob q rf n mm mb u21.1 u21.2 av ev wi mn tp tc sc nf fd me mp xn mt wh tq ag an ig)), ((q 2), aI g 600 bs), ((q 14), aI g 620 tg), ((q 15), aI g 620 tl), ((q 16), aI g 620 on), ((q 17), aI g 620 tw)] H := hP.sub [5, 0, 1, 2, 3, 4] rfl
              have hD : va_D A [(h0, .inr (10, mob q rf n mm mb u21.1 u21.2 av ev wi mn tp tc sc nf fd me mp xn mt wh tq ag an ig)), ((q 2), aI g 600 bs), ((q 14), aI g 620 tg), ((q 15), aI g 620 tl), ((q 16), aI g 620 on), ((q 17), aI g 620 tw)] := hD.sub [5, 0, 1, 2, 3, 4] (by decide) rfl
              have hp21_0 := hr20
              exact tw_vret E hS (u21.1, u21.2) (⟨(fun h => absurd h hp21_0), (fun h => absurd h hp21_0)⟩) hP hD d_Mod_linkMemberConstant_143
        · refine lv_iconst (v := 1) hx hb d_Mod_linkMemberConstant_100 (by decide) ?_
          refine lv_goto (tgt := 105) hx hb d_Mod_linkMemberConstant_101 (by decide) ?_
          refine lv_istore hx hb d_Mod_linkMemberConstant_105 hl (by decide) rfl (fun ls hl => ?_)
          have hl : lv_has ls 6 [(5, .int 1), (4, .int 0), (3, .int (nI jt)), (2, .int (nI jn)), (0, .ref h0), (1, .int (nI k))] := hl
          refine lv_aload_n hx hb d_Mod_linkMemberConstant_107 rfl (lv_at hl 4 rfl) ?_
          refine va_get (D := g.1) (ci := 10) (v := .ref (q 14)) (C := R_Mod) (T := F_Mod) (N := 61) hx hb hts in_Mod hown hK hP 0 rfl rfl 14 (by decide) (hts _ wd_1264) (fun _ h9 => h9) rfl d_Mod_linkMemberConstant_108 ?_
          refine lv_iload_n hx hb d_Mod_linkMemberConstant_111 rfl (lv_at hl 5 rfl) ?_
          refine va_iald hx hb hK hP 2 0 rfl rfl (vp_in_nI (by omega) (by decide)) d_Mod_linkMemberConstant_112 ?_
          refine tw_ri (e2 := tg k) (by rw [nI_clamp (by omega)]) ?_
          refine lv_bipush (v := 9) hx hb d_Mod_linkMemberConstant_113 (by decide) ?_
          refine lv_icmp_ne (tgt := 126) hx hb d_Mod_linkMemberConstant_115 (by decide) (fun h115 => ?_) (fun h115 => ?_)
          · refine lv_iload hx hb d_Mod_linkMemberConstant_126 (lv_at hl 0 rfl) ?_
            refine lv_if_ne (tgt := 143) hx hb d_Mod_linkMemberConstant_128 (by decide) (fun h128 => ?_) (fun h128 => ?_)
            · exact tw_vret E hS (fa, fp) (⟨(fun h => h), (fun _ => ⟨fun h => absurd h h115, fun _ => ⟨j2, jt, pt, lt1, q1, q2, q4, q6, q10, q11, q12, hT72⟩⟩)⟩) hP hD d_Mod_linkMemberConstant_143
            · first | exact absurd h128 (by decide) | exact absurd (by decide) h128
          · refine lv_iload hx hb d_Mod_linkMemberConstant_118 (lv_at hl 1 rfl) ?_
            refine lv_if_ne (tgt := 143) hx hb d_Mod_linkMemberConstant_120 (by decide) (fun h120 => ?_) (fun h120 => ?_)
            · first | exact absurd h120 (by decide) | exact absurd (by decide) h120
            · refine lv_goto (tgt := 131) hx hb d_Mod_linkMemberConstant_123 (by decide) ?_
              refine lv_aload_n hx hb d_Mod_linkMemberConstant_131 rfl (lv_at hl 4 rfl) ?_
              refine lv_bipush (v := 11) hx hb d_Mod_linkMemberConstant_132 (by decide) ?_
              refine lv_aload_n hx hb d_Mod_linkMemberConstant_134 rfl (lv_at hl 4 rfl) ?_
              refine va_get (D := g.1) (ci := 10) (v := .ref (q 15)) (C := R_Mod) (T := F_Mod) (N := 61) hx hb hts in_Mod hown hK hP 0 rfl rfl 15 (by decide) (hts _ wd_1265) (fun _ h9 => h9) rfl d_Mod_linkMemberConstant_135 ?_
              refine lv_iload_n hx hb d_Mod_linkMemberConstant_138 rfl (lv_at hl 5 rfl) ?_
              refine va_iald hx hb hK hP 3 0 rfl rfl (vp_in_nI (by omega) (by decide)) d_Mod_linkMemberConstant_139 ?_
              obtain ⟨x22, ex22⟩ : ∃ z : Int32, tl ((nI k).toNatClampNeg) = z := ⟨_, rfl⟩
              refine tw_ri (e2 := x22) ex22 ?_
              refine tw_wv (wr := [((q 2), aI g 600 bs), ((q 14), aI g 620 tg), ((q 15), aI g 620 tl), ((q 16), aI g 620 on), ((q 17), aI g 620 tw)]) (tw_runV (ws := [(h0, .inr (10, mob q rf n mm mb fa fp av ev wi mn tp tc sc nf fd me mp xn mt wh tq ag an ig)), ((q 2), aI g 600 bs), ((q 14), aI g 620 tg), ((q 15), aI g 620 tl), ((q 16), aI g 620 on), ((q 17), aI g 620 tw)]) (wc := [(h0, .inr (10, mob q rf n mm mb fa fp av ev wi mn tp tc sc nf fd me mp xn mt wh tq ag an ig))]) (As := [.int 11, .int x22]) (rest := []) E hB hK hZ (g_Mod_fail l g H.size h0 q rf n mm mb av ev wi mn tp tc sc nf fd me mp xn mt wh tq ag an ig fa fp 11 x22 (by decide)) mc_Mod_fail mi_Mod_fail me_Mod_fail wd_1478 hP hD hS hA [0] rfl (by decide) 0 rfl rfl rfl rfl rfl (by decide) rfl hl.1 rfl (Nat.le_of_ble_eq_true rfl) (by decide) d_Mod_linkMemberConstant_140) hP hD hS hA [0] [1, 2, 3, 4, 5] rfl rfl (by decide) (by decide) (fun u24 H locs hr23 hP hD hS => ?_)
              try dsimp only at hr23
              have hP : va_P g.1 classes [((q 2), aI g 600 bs), ((q 14), aI g 620 tg), ((q 15), aI g 620 tl), ((q 16), aI g 620 on), ((q 17), aI g 620 tw), (h0, .inr (10, mob q rf n mm mb u24.1 u24.2 av ev wi mn tp tc sc nf fd me mp xn mt wh tq ag an ig))] H := hP
              have hD : va_D A [((q 2), aI g 600 bs), ((q 14), aI g 620 tg), ((q 15), aI g 620 tl), ((q 16), aI g 620 on), ((q 17), aI g 620 tw), (h0, .inr (10, mob q rf n mm mb u24.1 u24.2 av ev wi mn tp tc sc nf fd me mp xn mt wh tq ag an ig))] := hD
              have hP : va_P g.1 classes [(h0, .inr (10, mob q rf n mm mb u24.1 u24.2 av ev wi mn tp tc sc nf fd me mp xn mt wh tq ag an ig)), ((q 2), aI g 600 bs), ((q 14), aI g 620 tg), ((q 15), aI g 620 tl), ((q 16), aI g 620 on), ((q 17), aI g 620 tw)] H := hP.sub [5, 0, 1, 2, 3, 4] rfl
              have hD : va_D A [(h0, .inr (10, mob q rf n mm mb u24.1 u24.2 av ev wi mn tp tc sc nf fd me mp xn mt wh tq ag an ig)), ((q 2), aI g 600 bs), ((q 14), aI g 620 tg), ((q 15), aI g 620 tl), ((q 16), aI g 620 on), ((q 17), aI g 620 tw)] := hD.sub [5, 0, 1, 2, 3, 4] (by decide) rfl
              have hp24_0 := hr23
              exact tw_vret E hS (u24.1, u24.2) (⟨(fun h => absurd h hp24_0), (fun h => absurd h hp24_0)⟩) hP hD d_Mod_linkMemberConstant_143
  · refine lv_aload_n hx hb d_Mod_linkMemberConstant_32 rfl (lv_at hl 2 rfl) ?_
    refine lv_aload_n hx hb d_Mod_linkMemberConstant_33 rfl (lv_at hl 2 rfl) ?_
    refine va_get (D := g.1) (ci := 10) (v := .ref (q 16)) (C := R_Mod) (T := F_Mod) (N := 61) hx hb hts in_Mod hown hK hP 0 rfl rfl 16 (by decide) (hts _ wd_1266) (fun _ h9 => h9) rfl d_Mod_linkMemberConstant_34 ?_
    refine lv_iload_n hx hb d_Mod_linkMemberConstant_37 rfl (lv_at hl 0 rfl) ?_
    refine va_iald hx hb hK hP 4 0 rfl rfl (vp_in_nI (by omega) (by decide)) d_Mod_linkMemberConstant_38 ?_
    refine tw_ri (e2 := nI pt) (by rw [nI_clamp (by omega)]; exact q10) ?_
    refine lv_aload_n hx hb d_Mod_linkMemberConstant_39 rfl (lv_at hl 2 rfl) ?_
    refine lv_iload_n hx hb d_Mod_linkMemberConstant_40 rfl (lv_at hl 0 rfl) ?_
    refine tw_si (tw_runV (ws := [(h0, .inr (10, mob q rf n mm mb fa fp av ev wi mn tp tc sc nf fd me mp xn mt wh tq ag an ig)), ((q 2), aI g 600 bs), ((q 14), aI g 620 tg), ((q 15), aI g 620 tl), ((q 16), aI g 620 on), ((q 17), aI g 620 tw)]) (wc := [(h0, .inr (10, mob q rf n mm mb fa fp av ev wi mn tp tc sc nf fd me mp xn mt wh tq ag an ig)), ((q 16), aI g 620 on), ((q 17), aI g 620 tw)]) (As := [.int (nI jt)]) (rest := [.int (nI pt), .ref h0]) E hB hK hZ (g_Mod_endOf l g H.size h0 q rf n mm mb fa fp av ev wi mn tp tc sc nf fd me mp xn mt wh tq ag an ig on tw jt pt lt1 (by omega) q10 q11 q12) mc_Mod_endOf mi_Mod_endOf me_Mod_endOf wd_1536 hP hD hS hA [0, 4, 5] rfl (by decide) 0 rfl rfl rfl rfl rfl (by decide) rfl hl.1 rfl (Nat.le_of_ble_eq_true rfl) (by decide) d_Mod_linkMemberConstant_41) (fun r25 hr25 => ?_)
    have hB25 := hr25
    subst hB25
    refine tw_si (tw_runV (ws := [(h0, .inr (10, mob q rf n mm mb fa fp av ev wi mn tp tc sc nf fd me mp xn mt wh tq ag an ig)), ((q 2), aI g 600 bs), ((q 14), aI g 620 tg), ((q 15), aI g 620 tl), ((q 16), aI g 620 on), ((q 17), aI g 620 tw)]) (wc := [(h0, .inr (10, mob q rf n mm mb fa fp av ev wi mn tp tc sc nf fd me mp xn mt wh tq ag an ig)), ((q 2), aI g 600 bs)]) (As := [.int (nI pt), .int (nI (pt + lt1))]) (rest := []) E hB hK hZ (g_Mod_isType l g H.size h0 q rf n mm mb fa fp av ev wi mn tp tc sc nf fd me mp xn mt wh tq ag an ig bs pt (pt + lt1) (by omega) (by omega)) mc_Mod_isType mi_Mod_isType me_Mod_isType wd_1555 hP hD hS hA [0, 1] rfl (by decide) 0 rfl rfl rfl rfl rfl (by decide) rfl hl.1 rfl (Nat.le_of_ble_eq_true rfl) (by decide) d_Mod_linkMemberConstant_44) (fun r26 hr26 => ?_)
    have hB26 := hr26
    refine lv_if_eq (tgt := 54) hx hb d_Mod_linkMemberConstant_47 (by decide) (fun h47 => ?_) (fun h47 => ?_)
    · refine lv_iconst (v := 0) hx hb d_Mod_linkMemberConstant_54 (by decide) ?_
      refine lv_istore hx hb d_Mod_linkMemberConstant_55 hl (by decide) rfl (fun ls hl => ?_)
      have hl : lv_has ls 6 [(4, .int 0), (3, .int (nI jt)), (2, .int (nI jn)), (0, .ref h0), (1, .int (nI k))] := hl
      refine lv_aload_n hx hb d_Mod_linkMemberConstant_57 rfl (lv_at hl 3 rfl) ?_
      refine lv_aload_n hx hb d_Mod_linkMemberConstant_58 rfl (lv_at hl 3 rfl) ?_
      refine va_get (D := g.1) (ci := 10) (v := .ref (q 16)) (C := R_Mod) (T := F_Mod) (N := 61) hx hb hts in_Mod hown hK hP 0 rfl rfl 16 (by decide) (hts _ wd_1266) (fun _ h9 => h9) rfl d_Mod_linkMemberConstant_59 ?_
      refine lv_iload_n hx hb d_Mod_linkMemberConstant_62 rfl (lv_at hl 1 rfl) ?_
      refine va_iald hx hb hK hP 4 0 rfl rfl (vp_in_nI (by omega) (by decide)) d_Mod_linkMemberConstant_63 ?_
      refine tw_ri (e2 := nI pt) (by rw [nI_clamp (by omega)]; exact q10) ?_
      refine lv_aload_n hx hb d_Mod_linkMemberConstant_64 rfl (lv_at hl 3 rfl) ?_
      refine lv_iload_n hx hb d_Mod_linkMemberConstant_65 rfl (lv_at hl 1 rfl) ?_
      refine tw_si (tw_runV (ws := [(h0, .inr (10, mob q rf n mm mb fa fp av ev wi mn tp tc sc nf fd me mp xn mt wh tq ag an ig)), ((q 2), aI g 600 bs), ((q 14), aI g 620 tg), ((q 15), aI g 620 tl), ((q 16), aI g 620 on), ((q 17), aI g 620 tw)]) (wc := [(h0, .inr (10, mob q rf n mm mb fa fp av ev wi mn tp tc sc nf fd me mp xn mt wh tq ag an ig)), ((q 16), aI g 620 on), ((q 17), aI g 620 tw)]) (As := [.int (nI jt)]) (rest := [.int (nI pt), .ref h0]) E hB hK hZ (g_Mod_endOf l g H.size h0 q rf n mm mb fa fp av ev wi mn tp tc sc nf fd me mp xn mt wh tq ag an ig on tw jt pt lt1 (by omega) q10 q11 q12) mc_Mod_endOf mi_Mod_endOf me_Mod_endOf wd_1536 hP hD hS hA [0, 4, 5] rfl (by decide) 0 rfl rfl rfl rfl rfl (by decide) rfl hl.1 rfl (Nat.le_of_ble_eq_true rfl) (by decide) d_Mod_linkMemberConstant_66) (fun r27 hr27 => ?_)
      have hB27 := hr27
      subst hB27
      refine tw_si (tw_runV (ws := [(h0, .inr (10, mob q rf n mm mb fa fp av ev wi mn tp tc sc nf fd me mp xn mt wh tq ag an ig)), ((q 2), aI g 600 bs), ((q 14), aI g 620 tg), ((q 15), aI g 620 tl), ((q 16), aI g 620 on), ((q 17), aI g 620 tw)]) (wc := [(h0, .inr (10, mob q rf n mm mb fa fp av ev wi mn tp tc sc nf fd me mp xn mt wh tq ag an ig)), ((q 2), aI g 600 bs)]) (As := [.int (nI pt), .int (nI (pt + lt1))]) (rest := []) E hB hK hZ (g_Mod_isMethodType l g H.size h0 q rf n mm mb fa fp av ev wi mn tp tc sc nf fd me mp xn mt wh tq ag an ig bs pt (pt + lt1) (by omega) (by omega)) mc_Mod_isMethodType mi_Mod_isMethodType me_Mod_isMethodType wd_1563 hP hD hS hA [0, 1] rfl (by decide) 0 rfl rfl rfl rfl rfl (by decide) rfl hl.1 rfl (Nat.le_of_ble_eq_true rfl) (by decide) d_Mod_linkMemberConstant_69) (fun r28 hr28 => ?_)
      have hB28 := hr28
      refine lv_if_eq (tgt := 104) hx hb d_Mod_linkMemberConstant_72 (by decide) (fun h72 => ?_) (fun h72 => ?_)
      · refine lv_iconst (v := 0) hx hb d_Mod_linkMemberConstant_104 (by decide) ?_
        refine lv_istore hx hb d_Mod_linkMemberConstant_105 hl (by decide) rfl (fun ls hl => ?_)
        have hl : lv_has ls 6 [(5, .int 0), (4, .int 0), (3, .int (nI jt)), (2, .int (nI jn)), (0, .ref h0), (1, .int (nI k))] := hl
        refine lv_aload_n hx hb d_Mod_linkMemberConstant_107 rfl (lv_at hl 4 rfl) ?_
        refine va_get (D := g.1) (ci := 10) (v := .ref (q 14)) (C := R_Mod) (T := F_Mod) (N := 61) hx hb hts in_Mod hown hK hP 0 rfl rfl 14 (by decide) (hts _ wd_1264) (fun _ h9 => h9) rfl d_Mod_linkMemberConstant_108 ?_
        refine lv_iload_n hx hb d_Mod_linkMemberConstant_111 rfl (lv_at hl 5 rfl) ?_
        refine va_iald hx hb hK hP 2 0 rfl rfl (vp_in_nI (by omega) (by decide)) d_Mod_linkMemberConstant_112 ?_
        refine tw_ri (e2 := tg k) (by rw [nI_clamp (by omega)]) ?_
        refine lv_bipush (v := 9) hx hb d_Mod_linkMemberConstant_113 (by decide) ?_
        refine lv_icmp_ne (tgt := 126) hx hb d_Mod_linkMemberConstant_115 (by decide) (fun h115 => ?_) (fun h115 => ?_)
        · refine lv_iload hx hb d_Mod_linkMemberConstant_126 (lv_at hl 0 rfl) ?_
          refine lv_if_ne (tgt := 143) hx hb d_Mod_linkMemberConstant_128 (by decide) (fun h128 => ?_) (fun h128 => ?_)
          · first | exact absurd h128 (by decide) | exact absurd (by decide) h128
          · refine lv_aload_n hx hb d_Mod_linkMemberConstant_131 rfl (lv_at hl 4 rfl) ?_
            refine lv_bipush (v := 11) hx hb d_Mod_linkMemberConstant_132 (by decide) ?_
            refine lv_aload_n hx hb d_Mod_linkMemberConstant_134 rfl (lv_at hl 4 rfl) ?_
            refine va_get (D := g.1) (ci := 10) (v := .ref (q 15)) (C := R_Mod) (T := F_Mod) (N := 61) hx hb hts in_Mod hown hK hP 0 rfl rfl 15 (by decide) (hts _ wd_1265) (fun _ h9 => h9) rfl d_Mod_linkMemberConstant_135 ?_
            refine lv_iload_n hx hb d_Mod_linkMemberConstant_138 rfl (lv_at hl 5 rfl) ?_
            refine va_iald hx hb hK hP 3 0 rfl rfl (vp_in_nI (by omega) (by decide)) d_Mod_linkMemberConstant_139 ?_
            obtain ⟨x29, ex29⟩ : ∃ z : Int32, tl ((nI k).toNatClampNeg) = z := ⟨_, rfl⟩
            refine tw_ri (e2 := x29) ex29 ?_
            refine tw_wv (wr := [((q 2), aI g 600 bs), ((q 14), aI g 620 tg), ((q 15), aI g 620 tl), ((q 16), aI g 620 on), ((q 17), aI g 620 tw)]) (tw_runV (ws := [(h0, .inr (10, mob q rf n mm mb fa fp av ev wi mn tp tc sc nf fd me mp xn mt wh tq ag an ig)), ((q 2), aI g 600 bs), ((q 14), aI g 620 tg), ((q 15), aI g 620 tl), ((q 16), aI g 620 on), ((q 17), aI g 620 tw)]) (wc := [(h0, .inr (10, mob q rf n mm mb fa fp av ev wi mn tp tc sc nf fd me mp xn mt wh tq ag an ig))]) (As := [.int 11, .int x29]) (rest := []) E hB hK hZ (g_Mod_fail l g H.size h0 q rf n mm mb av ev wi mn tp tc sc nf fd me mp xn mt wh tq ag an ig fa fp 11 x29 (by decide)) mc_Mod_fail mi_Mod_fail me_Mod_fail wd_1478 hP hD hS hA [0] rfl (by decide) 0 rfl rfl rfl rfl rfl (by decide) rfl hl.1 rfl (Nat.le_of_ble_eq_true rfl) (by decide) d_Mod_linkMemberConstant_140) hP hD hS hA [0] [1, 2, 3, 4, 5] rfl rfl (by decide) (by decide) (fun u31 H locs hr30 hP hD hS => ?_)
            try dsimp only at hr30
            have hP : va_P g.1 classes [((q 2), aI g 600 bs), ((q 14), aI g 620 tg), ((q 15), aI g 620 tl), ((q 16), aI g 620 on), ((q 17), aI g 620 tw), (h0, .inr (10, mob q rf n mm mb u31.1 u31.2 av ev wi mn tp tc sc nf fd me mp xn mt wh tq ag an ig))] H := hP
            have hD : va_D A [((q 2), aI g 600 bs), ((q 14), aI g 620 tg), ((q 15), aI g 620 tl), ((q 16), aI g 620 on), ((q 17), aI g 620 tw), (h0, .inr (10, mob q rf n mm mb u31.1 u31.2 av ev wi mn tp tc sc nf fd me mp xn mt wh tq ag an ig))] := hD
            have hP : va_P g.1 classes [(h0, .inr (10, mob q rf n mm mb u31.1 u31.2 av ev wi mn tp tc sc nf fd me mp xn mt wh tq ag an ig)), ((q 2), aI g 600 bs), ((q 14), aI g 620 tg), ((q 15), aI g 620 tl), ((q 16), aI g 620 on), ((q 17), aI g 620 tw)] H := hP.sub [5, 0, 1, 2, 3, 4] rfl
            have hD : va_D A [(h0, .inr (10, mob q rf n mm mb u31.1 u31.2 av ev wi mn tp tc sc nf fd me mp xn mt wh tq ag an ig)), ((q 2), aI g 600 bs), ((q 14), aI g 620 tg), ((q 15), aI g 620 tl), ((q 16), aI g 620 on), ((q 17), aI g 620 tw)] := hD.sub [5, 0, 1, 2, 3, 4] (by decide) rfl
            have hp31_0 := hr30
            exact tw_vret E hS (u31.1, u31.2) (⟨(fun h => absurd h hp31_0), (fun h => absurd h hp31_0)⟩) hP hD d_Mod_linkMemberConstant_143
        · refine lv_iload hx hb d_Mod_linkMemberConstant_118 (lv_at hl 1 rfl) ?_
          refine lv_if_ne (tgt := 143) hx hb d_Mod_linkMemberConstant_120 (by decide) (fun h120 => ?_) (fun h120 => ?_)
          · first | exact absurd h120 (by decide) | exact absurd (by decide) h120
          · refine lv_goto (tgt := 131) hx hb d_Mod_linkMemberConstant_123 (by decide) ?_
            refine lv_aload_n hx hb d_Mod_linkMemberConstant_131 rfl (lv_at hl 4 rfl) ?_
            refine lv_bipush (v := 11) hx hb d_Mod_linkMemberConstant_132 (by decide) ?_
            refine lv_aload_n hx hb d_Mod_linkMemberConstant_134 rfl (lv_at hl 4 rfl) ?_
            refine va_get (D := g.1) (ci := 10) (v := .ref (q 15)) (C := R_Mod) (T := F_Mod) (N := 61) hx hb hts in_Mod hown hK hP 0 rfl rfl 15 (by decide) (hts _ wd_1265) (fun _ h9 => h9) rfl d_Mod_linkMemberConstant_135 ?_
            refine lv_iload_n hx hb d_Mod_linkMemberConstant_138 rfl (lv_at hl 5 rfl) ?_
            refine va_iald hx hb hK hP 3 0 rfl rfl (vp_in_nI (by omega) (by decide)) d_Mod_linkMemberConstant_139 ?_
            obtain ⟨x32, ex32⟩ : ∃ z : Int32, tl ((nI k).toNatClampNeg) = z := ⟨_, rfl⟩
            refine tw_ri (e2 := x32) ex32 ?_
            refine tw_wv (wr := [((q 2), aI g 600 bs), ((q 14), aI g 620 tg), ((q 15), aI g 620 tl), ((q 16), aI g 620 on), ((q 17), aI g 620 tw)]) (tw_runV (ws := [(h0, .inr (10, mob q rf n mm mb fa fp av ev wi mn tp tc sc nf fd me mp xn mt wh tq ag an ig)), ((q 2), aI g 600 bs), ((q 14), aI g 620 tg), ((q 15), aI g 620 tl), ((q 16), aI g 620 on), ((q 17), aI g 620 tw)]) (wc := [(h0, .inr (10, mob q rf n mm mb fa fp av ev wi mn tp tc sc nf fd me mp xn mt wh tq ag an ig))]) (As := [.int 11, .int x32]) (rest := []) E hB hK hZ (g_Mod_fail l g H.size h0 q rf n mm mb av ev wi mn tp tc sc nf fd me mp xn mt wh tq ag an ig fa fp 11 x32 (by decide)) mc_Mod_fail mi_Mod_fail me_Mod_fail wd_1478 hP hD hS hA [0] rfl (by decide) 0 rfl rfl rfl rfl rfl (by decide) rfl hl.1 rfl (Nat.le_of_ble_eq_true rfl) (by decide) d_Mod_linkMemberConstant_140) hP hD hS hA [0] [1, 2, 3, 4, 5] rfl rfl (by decide) (by decide) (fun u34 H locs hr33 hP hD hS => ?_)
            try dsimp only at hr33
            have hP : va_P g.1 classes [((q 2), aI g 600 bs), ((q 14), aI g 620 tg), ((q 15), aI g 620 tl), ((q 16), aI g 620 on), ((q 17), aI g 620 tw), (h0, .inr (10, mob q rf n mm mb u34.1 u34.2 av ev wi mn tp tc sc nf fd me mp xn mt wh tq ag an ig))] H := hP
            have hD : va_D A [((q 2), aI g 600 bs), ((q 14), aI g 620 tg), ((q 15), aI g 620 tl), ((q 16), aI g 620 on), ((q 17), aI g 620 tw), (h0, .inr (10, mob q rf n mm mb u34.1 u34.2 av ev wi mn tp tc sc nf fd me mp xn mt wh tq ag an ig))] := hD
            have hP : va_P g.1 classes [(h0, .inr (10, mob q rf n mm mb u34.1 u34.2 av ev wi mn tp tc sc nf fd me mp xn mt wh tq ag an ig)), ((q 2), aI g 600 bs), ((q 14), aI g 620 tg), ((q 15), aI g 620 tl), ((q 16), aI g 620 on), ((q 17), aI g 620 tw)] H := hP.sub [5, 0, 1, 2, 3, 4] rfl
            have hD : va_D A [(h0, .inr (10, mob q rf n mm mb u34.1 u34.2 av ev wi mn tp tc sc nf fd me mp xn mt wh tq ag an ig)), ((q 2), aI g 600 bs), ((q 14), aI g 620 tg), ((q 15), aI g 620 tl), ((q 16), aI g 620 on), ((q 17), aI g 620 tw)] := hD.sub [5, 0, 1, 2, 3, 4] (by decide) rfl
            have hp34_0 := hr33
            exact tw_vret E hS (u34.1, u34.2) (⟨(fun h => absurd h hp34_0), (fun h => absurd h hp34_0)⟩) hP hD d_Mod_linkMemberConstant_143
      · have hT72 := hB28.2 (hB28.1.resolve_left h72)
        have hT72a := hT72.1
        refine lv_aload_n hx hb d_Mod_linkMemberConstant_75 rfl (lv_at hl 3 rfl) ?_
        refine lv_iload_n hx hb d_Mod_linkMemberConstant_76 rfl (lv_at hl 2 rfl) ?_
        refine tw_si (tw_runV (ws := [(h0, .inr (10, mob q rf n mm mb fa fp av ev wi mn tp tc sc nf fd me mp xn mt wh tq ag an ig)), ((q 2), aI g 600 bs), ((q 14), aI g 620 tg), ((q 15), aI g 620 tl), ((q 16), aI g 620 on), ((q 17), aI g 620 tw)]) (wc := [(h0, .inr (10, mob q rf n mm mb fa fp av ev wi mn tp tc sc nf fd me mp xn mt wh tq ag an ig)), ((q 2), aI g 600 bs), ((q 16), aI g 620 on), ((q 17), aI g 620 tw)]) (As := [.int (nI jn)]) (rest := []) E hB hK hZ (g_Mod_isInit l g H.size h0 q rf n mm mb fa fp av ev wi mn tp tc sc nf fd me mp xn mt wh tq ag an ig bs on tw jn pn ln1 (by omega) q7 q8 q9) mc_Mod_isInit mi_Mod_isInit me_Mod_isInit wd_1551 hP hD hS hA [0, 1, 4, 5] rfl (by decide) 0 rfl rfl rfl rfl rfl (by decide) rfl hl.1 rfl (Nat.le_of_ble_eq_true rfl) (by decide) d_Mod_linkMemberConstant_77) (fun r35 hr35 => ?_)
        have hB35 := hr35
        refine lv_if_eq (tgt := 100) hx hb d_Mod_linkMemberConstant_80 (by decide) (fun h80 => ?_) (fun h80 => ?_)
        · refine lv_iconst (v := 1) hx hb d_Mod_linkMemberConstant_100 (by decide) ?_
          refine lv_goto (tgt := 105) hx hb d_Mod_linkMemberConstant_101 (by decide) ?_
          refine lv_istore hx hb d_Mod_linkMemberConstant_105 hl (by decide) rfl (fun ls hl => ?_)
          have hl : lv_has ls 6 [(5, .int 1), (4, .int 0), (3, .int (nI jt)), (2, .int (nI jn)), (0, .ref h0), (1, .int (nI k))] := hl
          refine lv_aload_n hx hb d_Mod_linkMemberConstant_107 rfl (lv_at hl 4 rfl) ?_
          refine va_get (D := g.1) (ci := 10) (v := .ref (q 14)) (C := R_Mod) (T := F_Mod) (N := 61) hx hb hts in_Mod hown hK hP 0 rfl rfl 14 (by decide) (hts _ wd_1264) (fun _ h9 => h9) rfl d_Mod_linkMemberConstant_108 ?_
          refine lv_iload_n hx hb d_Mod_linkMemberConstant_111 rfl (lv_at hl 5 rfl) ?_
          refine va_iald hx hb hK hP 2 0 rfl rfl (vp_in_nI (by omega) (by decide)) d_Mod_linkMemberConstant_112 ?_
          refine tw_ri (e2 := tg k) (by rw [nI_clamp (by omega)]) ?_
          refine lv_bipush (v := 9) hx hb d_Mod_linkMemberConstant_113 (by decide) ?_
          refine lv_icmp_ne (tgt := 126) hx hb d_Mod_linkMemberConstant_115 (by decide) (fun h115 => ?_) (fun h115 => ?_)
          · refine lv_iload hx hb d_Mod_linkMemberConstant_126 (lv_at hl 0 rfl) ?_
            refine lv_if_ne (tgt := 143) hx hb d_Mod_linkMemberConstant_128 (by decide) (fun h128 => ?_) (fun h128 => ?_)
            · exact tw_vret E hS (fa, fp) (⟨(fun h => h), (fun _ => ⟨fun h => absurd h h115, fun _ => ⟨j2, jt, pt, lt1, q1, q2, q4, q6, q10, q11, q12, hT72⟩⟩)⟩) hP hD d_Mod_linkMemberConstant_143
            · first | exact absurd h128 (by decide) | exact absurd (by decide) h128
          · refine lv_iload hx hb d_Mod_linkMemberConstant_118 (lv_at hl 1 rfl) ?_
            refine lv_if_ne (tgt := 143) hx hb d_Mod_linkMemberConstant_120 (by decide) (fun h120 => ?_) (fun h120 => ?_)
            · first | exact absurd h120 (by decide) | exact absurd (by decide) h120
            · refine lv_goto (tgt := 131) hx hb d_Mod_linkMemberConstant_123 (by decide) ?_
              refine lv_aload_n hx hb d_Mod_linkMemberConstant_131 rfl (lv_at hl 4 rfl) ?_
              refine lv_bipush (v := 11) hx hb d_Mod_linkMemberConstant_132 (by decide) ?_
              refine lv_aload_n hx hb d_Mod_linkMemberConstant_134 rfl (lv_at hl 4 rfl) ?_
              refine va_get (D := g.1) (ci := 10) (v := .ref (q 15)) (C := R_Mod) (T := F_Mod) (N := 61) hx hb hts in_Mod hown hK hP 0 rfl rfl 15 (by decide) (hts _ wd_1265) (fun _ h9 => h9) rfl d_Mod_linkMemberConstant_135 ?_
              refine lv_iload_n hx hb d_Mod_linkMemberConstant_138 rfl (lv_at hl 5 rfl) ?_
              refine va_iald hx hb hK hP 3 0 rfl rfl (vp_in_nI (by omega) (by decide)) d_Mod_linkMemberConstant_139 ?_
              obtain ⟨x36, ex36⟩ : ∃ z : Int32, tl ((nI k).toNatClampNeg) = z := ⟨_, rfl⟩
              refine tw_ri (e2 := x36) ex36 ?_
              refine tw_wv (wr := [((q 2), aI g 600 bs), ((q 14), aI g 620 tg), ((q 15), aI g 620 tl), ((q 16), aI g 620 on), ((q 17), aI g 620 tw)]) (tw_runV (ws := [(h0, .inr (10, mob q rf n mm mb fa fp av ev wi mn tp tc sc nf fd me mp xn mt wh tq ag an ig)), ((q 2), aI g 600 bs), ((q 14), aI g 620 tg), ((q 15), aI g 620 tl), ((q 16), aI g 620 on), ((q 17), aI g 620 tw)]) (wc := [(h0, .inr (10, mob q rf n mm mb fa fp av ev wi mn tp tc sc nf fd me mp xn mt wh tq ag an ig))]) (As := [.int 11, .int x36]) (rest := []) E hB hK hZ (g_Mod_fail l g H.size h0 q rf n mm mb av ev wi mn tp tc sc nf fd me mp xn mt wh tq ag an ig fa fp 11 x36 (by decide)) mc_Mod_fail mi_Mod_fail me_Mod_fail wd_1478 hP hD hS hA [0] rfl (by decide) 0 rfl rfl rfl rfl rfl (by decide) rfl hl.1 rfl (Nat.le_of_ble_eq_true rfl) (by decide) d_Mod_linkMemberConstant_140) hP hD hS hA [0] [1, 2, 3, 4, 5] rfl rfl (by decide) (by decide) (fun u38 H locs hr37 hP hD hS => ?_)
              try dsimp only at hr37
              have hP : va_P g.1 classes [((q 2), aI g 600 bs), ((q 14), aI g 620 tg), ((q 15), aI g 620 tl), ((q 16), aI g 620 on), ((q 17), aI g 620 tw), (h0, .inr (10, mob q rf n mm mb u38.1 u38.2 av ev wi mn tp tc sc nf fd me mp xn mt wh tq ag an ig))] H := hP
              have hD : va_D A [((q 2), aI g 600 bs), ((q 14), aI g 620 tg), ((q 15), aI g 620 tl), ((q 16), aI g 620 on), ((q 17), aI g 620 tw), (h0, .inr (10, mob q rf n mm mb u38.1 u38.2 av ev wi mn tp tc sc nf fd me mp xn mt wh tq ag an ig))] := hD
              have hP : va_P g.1 classes [(h0, .inr (10, mob q rf n mm mb u38.1 u38.2 av ev wi mn tp tc sc nf fd me mp xn mt wh tq ag an ig)), ((q 2), aI g 600 bs), ((q 14), aI g 620 tg), ((q 15), aI g 620 tl), ((q 16), aI g 620 on), ((q 17), aI g 620 tw)] H := hP.sub [5, 0, 1, 2, 3, 4] rfl
              have hD : va_D A [(h0, .inr (10, mob q rf n mm mb u38.1 u38.2 av ev wi mn tp tc sc nf fd me mp xn mt wh tq ag an ig)), ((q 2), aI g 600 bs), ((q 14), aI g 620 tg), ((q 15), aI g 620 tl), ((q 16), aI g 620 on), ((q 17), aI g 620 tw)] := hD.sub [5, 0, 1, 2, 3, 4] (by decide) rfl
              have hp38_0 := hr37
              exact tw_vret E hS (u38.1, u38.2) (⟨(fun h => absurd h hp38_0), (fun h => absurd h hp38_0)⟩) hP hD d_Mod_linkMemberConstant_143
        · refine lv_aload_n hx hb d_Mod_linkMemberConstant_83 rfl (lv_at hl 3 rfl) ?_
          refine va_get (D := g.1) (ci := 10) (v := .ref (q 2)) (C := R_Mod) (T := F_Mod) (N := 61) hx hb hts in_Mod hown hK hP 0 rfl rfl 2 (by decide) (hts _ wd_1252) (fun _ h9 => h9) rfl d_Mod_linkMemberConstant_84 ?_
          refine lv_aload_n hx hb d_Mod_linkMemberConstant_87 rfl (lv_at hl 3 rfl) ?_
          refine lv_iload_n hx hb d_Mod_linkMemberConstant_88 rfl (lv_at hl 1 rfl) ?_
          refine tw_si (tw_runV (ws := [(h0, .inr (10, mob q rf n mm mb fa fp av ev wi mn tp tc sc nf fd me mp xn mt wh tq ag an ig)), ((q 2), aI g 600 bs), ((q 14), aI g 620 tg), ((q 15), aI g 620 tl), ((q 16), aI g 620 on), ((q 17), aI g 620 tw)]) (wc := [(h0, .inr (10, mob q rf n mm mb fa fp av ev wi mn tp tc sc nf fd me mp xn mt wh tq ag an ig)), ((q 16), aI g 620 on), ((q 17), aI g 620 tw)]) (As := [.int (nI jt)]) (rest := [.ref (q 2)]) E hB hK hZ (g_Mod_endOf l g H.size h0 q rf n mm mb fa fp av ev wi mn tp tc sc nf fd me mp xn mt wh tq ag an ig on tw jt pt lt1 (by omega) q10 q11 q12) mc_Mod_endOf mi_Mod_endOf me_Mod_endOf wd_1536 hP hD hS hA [0, 4, 5] rfl (by decide) 0 rfl rfl rfl rfl rfl (by decide) rfl hl.1 rfl (Nat.le_of_ble_eq_true rfl) (by decide) d_Mod_linkMemberConstant_89) (fun r39 hr39 => ?_)
          have hB39 := hr39
          subst hB39
          refine lv_iconst (v := 1) hx hb d_Mod_linkMemberConstant_92 (by decide) ?_
          refine lv_isub hx hb d_Mod_linkMemberConstant_93 ?_
          refine tw_ri (e2 := nI (pt + lt1 - 1)) (pk_sub (b := 1) (by omega)) ?_
          refine va_iald hx hb hK hP 1 0 rfl rfl (vp_in_nI (by omega) (by decide)) d_Mod_linkMemberConstant_94 ?_
          obtain ⟨x40, ex40⟩ : ∃ z : Int32, bs ((nI (pt + lt1 - 1)).toNatClampNeg) = z := ⟨_, rfl⟩
          refine tw_ri (e2 := x40) ex40 ?_
          refine lv_bipush (v := 86) hx hb d_Mod_linkMemberConstant_95 (by decide) ?_
          refine lv_icmp_ne (tgt := 104) hx hb d_Mod_linkMemberConstant_97 (by decide) (fun h97 => ?_) (fun h97 => ?_)
          · refine lv_iconst (v := 0) hx hb d_Mod_linkMemberConstant_104 (by decide) ?_
            refine lv_istore hx hb d_Mod_linkMemberConstant_105 hl (by decide) rfl (fun ls hl => ?_)
            have hl : lv_has ls 6 [(5, .int 0), (4, .int 0), (3, .int (nI jt)), (2, .int (nI jn)), (0, .ref h0), (1, .int (nI k))] := hl
            refine lv_aload_n hx hb d_Mod_linkMemberConstant_107 rfl (lv_at hl 4 rfl) ?_
            refine va_get (D := g.1) (ci := 10) (v := .ref (q 14)) (C := R_Mod) (T := F_Mod) (N := 61) hx hb hts in_Mod hown hK hP 0 rfl rfl 14 (by decide) (hts _ wd_1264) (fun _ h9 => h9) rfl d_Mod_linkMemberConstant_108 ?_
            refine lv_iload_n hx hb d_Mod_linkMemberConstant_111 rfl (lv_at hl 5 rfl) ?_
            refine va_iald hx hb hK hP 2 0 rfl rfl (vp_in_nI (by omega) (by decide)) d_Mod_linkMemberConstant_112 ?_
            refine tw_ri (e2 := tg k) (by rw [nI_clamp (by omega)]) ?_
            refine lv_bipush (v := 9) hx hb d_Mod_linkMemberConstant_113 (by decide) ?_
            refine lv_icmp_ne (tgt := 126) hx hb d_Mod_linkMemberConstant_115 (by decide) (fun h115 => ?_) (fun h115 => ?_)
            · refine lv_iload hx hb d_Mod_linkMemberConstant_126 (lv_at hl 0 rfl) ?_
              refine lv_if_ne (tgt := 143) hx hb d_Mod_linkMemberConstant_128 (by decide) (fun h128 => ?_) (fun h128 => ?_)
              · first | exact absurd h128 (by decide) | exact absurd (by decide) h128
              · refine lv_aload_n hx hb d_Mod_linkMemberConstant_131 rfl (lv_at hl 4 rfl) ?_
                refine lv_bipush (v := 11) hx hb d_Mod_linkMemberConstant_132 (by decide) ?_
                refine lv_aload_n hx hb d_Mod_linkMemberConstant_134 rfl (lv_at hl 4 rfl) ?_
                refine va_get (D := g.1) (ci := 10) (v := .ref (q 15)) (C := R_Mod) (T := F_Mod) (N := 61) hx hb hts in_Mod hown hK hP 0 rfl rfl 15 (by decide) (hts _ wd_1265) (fun _ h9 => h9) rfl d_Mod_linkMemberConstant_135 ?_
                refine lv_iload_n hx hb d_Mod_linkMemberConstant_138 rfl (lv_at hl 5 rfl) ?_
                refine va_iald hx hb hK hP 3 0 rfl rfl (vp_in_nI (by omega) (by decide)) d_Mod_linkMemberConstant_139 ?_
                obtain ⟨x41, ex41⟩ : ∃ z : Int32, tl ((nI k).toNatClampNeg) = z := ⟨_, rfl⟩
                refine tw_ri (e2 := x41) ex41 ?_
                refine tw_wv (wr := [((q 2), aI g 600 bs), ((q 14), aI g 620 tg), ((q 15), aI g 620 tl), ((q 16), aI g 620 on), ((q 17), aI g 620 tw)]) (tw_runV (ws := [(h0, .inr (10, mob q rf n mm mb fa fp av ev wi mn tp tc sc nf fd me mp xn mt wh tq ag an ig)), ((q 2), aI g 600 bs), ((q 14), aI g 620 tg), ((q 15), aI g 620 tl), ((q 16), aI g 620 on), ((q 17), aI g 620 tw)]) (wc := [(h0, .inr (10, mob q rf n mm mb fa fp av ev wi mn tp tc sc nf fd me mp xn mt wh tq ag an ig))]) (As := [.int 11, .int x41]) (rest := []) E hB hK hZ (g_Mod_fail l g H.size h0 q rf n mm mb av ev wi mn tp tc sc nf fd me mp xn mt wh tq ag an ig fa fp 11 x41 (by decide)) mc_Mod_fail mi_Mod_fail me_Mod_fail wd_1478 hP hD hS hA [0] rfl (by decide) 0 rfl rfl rfl rfl rfl (by decide) rfl hl.1 rfl (Nat.le_of_ble_eq_true rfl) (by decide) d_Mod_linkMemberConstant_140) hP hD hS hA [0] [1, 2, 3, 4, 5] rfl rfl (by decide) (by decide) (fun u43 H locs hr42 hP hD hS => ?_)
                try dsimp only at hr42
                have hP : va_P g.1 classes [((q 2), aI g 600 bs), ((q 14), aI g 620 tg), ((q 15), aI g 620 tl), ((q 16), aI g 620 on), ((q 17), aI g 620 tw), (h0, .inr (10, mob q rf n mm mb u43.1 u43.2 av ev wi mn tp tc sc nf fd me mp xn mt wh tq ag an ig))] H := hP
                have hD : va_D A [((q 2), aI g 600 bs), ((q 14), aI g 620 tg), ((q 15), aI g 620 tl), ((q 16), aI g 620 on), ((q 17), aI g 620 tw), (h0, .inr (10, mob q rf n mm mb u43.1 u43.2 av ev wi mn tp tc sc nf fd me mp xn mt wh tq ag an ig))] := hD
                have hP : va_P g.1 classes [(h0, .inr (10, mob q rf n mm mb u43.1 u43.2 av ev wi mn tp tc sc nf fd me mp xn mt wh tq ag an ig)), ((q 2), aI g 600 bs), ((q 14), aI g 620 tg), ((q 15), aI g 620 tl), ((q 16), aI g 620 on), ((q 17), aI g 620 tw)] H := hP.sub [5, 0, 1, 2, 3, 4] rfl
                have hD : va_D A [(h0, .inr (10, mob q rf n mm mb u43.1 u43.2 av ev wi mn tp tc sc nf fd me mp xn mt wh tq ag an ig)), ((q 2), aI g 600 bs), ((q 14), aI g 620 tg), ((q 15), aI g 620 tl), ((q 16), aI g 620 on), ((q 17), aI g 620 tw)] := hD.sub [5, 0, 1, 2, 3, 4] (by decide) rfl
                have hp43_0 := hr42
                exact tw_vret E hS (u43.1, u43.2) (⟨(fun h => absurd h hp43_0), (fun h => absurd h hp43_0)⟩) hP hD d_Mod_linkMemberConstant_143
            · refine lv_iload hx hb d_Mod_linkMemberConstant_118 (lv_at hl 1 rfl) ?_
              refine lv_if_ne (tgt := 143) hx hb d_Mod_linkMemberConstant_120 (by decide) (fun h120 => ?_) (fun h120 => ?_)
              · first | exact absurd h120 (by decide) | exact absurd (by decide) h120
              · refine lv_goto (tgt := 131) hx hb d_Mod_linkMemberConstant_123 (by decide) ?_
                refine lv_aload_n hx hb d_Mod_linkMemberConstant_131 rfl (lv_at hl 4 rfl) ?_
                refine lv_bipush (v := 11) hx hb d_Mod_linkMemberConstant_132 (by decide) ?_
                refine lv_aload_n hx hb d_Mod_linkMemberConstant_134 rfl (lv_at hl 4 rfl) ?_
                refine va_get (D := g.1) (ci := 10) (v := .ref (q 15)) (C := R_Mod) (T := F_Mod) (N := 61) hx hb hts in_Mod hown hK hP 0 rfl rfl 15 (by decide) (hts _ wd_1265) (fun _ h9 => h9) rfl d_Mod_linkMemberConstant_135 ?_
                refine lv_iload_n hx hb d_Mod_linkMemberConstant_138 rfl (lv_at hl 5 rfl) ?_
                refine va_iald hx hb hK hP 3 0 rfl rfl (vp_in_nI (by omega) (by decide)) d_Mod_linkMemberConstant_139 ?_
                obtain ⟨x44, ex44⟩ : ∃ z : Int32, tl ((nI k).toNatClampNeg) = z := ⟨_, rfl⟩
                refine tw_ri (e2 := x44) ex44 ?_
                refine tw_wv (wr := [((q 2), aI g 600 bs), ((q 14), aI g 620 tg), ((q 15), aI g 620 tl), ((q 16), aI g 620 on), ((q 17), aI g 620 tw)]) (tw_runV (ws := [(h0, .inr (10, mob q rf n mm mb fa fp av ev wi mn tp tc sc nf fd me mp xn mt wh tq ag an ig)), ((q 2), aI g 600 bs), ((q 14), aI g 620 tg), ((q 15), aI g 620 tl), ((q 16), aI g 620 on), ((q 17), aI g 620 tw)]) (wc := [(h0, .inr (10, mob q rf n mm mb fa fp av ev wi mn tp tc sc nf fd me mp xn mt wh tq ag an ig))]) (As := [.int 11, .int x44]) (rest := []) E hB hK hZ (g_Mod_fail l g H.size h0 q rf n mm mb av ev wi mn tp tc sc nf fd me mp xn mt wh tq ag an ig fa fp 11 x44 (by decide)) mc_Mod_fail mi_Mod_fail me_Mod_fail wd_1478 hP hD hS hA [0] rfl (by decide) 0 rfl rfl rfl rfl rfl (by decide) rfl hl.1 rfl (Nat.le_of_ble_eq_true rfl) (by decide) d_Mod_linkMemberConstant_140) hP hD hS hA [0] [1, 2, 3, 4, 5] rfl rfl (by decide) (by decide) (fun u46 H locs hr45 hP hD hS => ?_)
                try dsimp only at hr45
                have hP : va_P g.1 classes [((q 2), aI g 600 bs), ((q 14), aI g 620 tg), ((q 15), aI g 620 tl), ((q 16), aI g 620 on), ((q 17), aI g 620 tw), (h0, .inr (10, mob q rf n mm mb u46.1 u46.2 av ev wi mn tp tc sc nf fd me mp xn mt wh tq ag an ig))] H := hP
                have hD : va_D A [((q 2), aI g 600 bs), ((q 14), aI g 620 tg), ((q 15), aI g 620 tl), ((q 16), aI g 620 on), ((q 17), aI g 620 tw), (h0, .inr (10, mob q rf n mm mb u46.1 u46.2 av ev wi mn tp tc sc nf fd me mp xn mt wh tq ag an ig))] := hD
                have hP : va_P g.1 classes [(h0, .inr (10, mob q rf n mm mb u46.1 u46.2 av ev wi mn tp tc sc nf fd me mp xn mt wh tq ag an ig)), ((q 2), aI g 600 bs), ((q 14), aI g 620 tg), ((q 15), aI g 620 tl), ((q 16), aI g 620 on), ((q 17), aI g 620 tw)] H := hP.sub [5, 0, 1, 2, 3, 4] rfl
                have hD : va_D A [(h0, .inr (10, mob q rf n mm mb u46.1 u46.2 av ev wi mn tp tc sc nf fd me mp xn mt wh tq ag an ig)), ((q 2), aI g 600 bs), ((q 14), aI g 620 tg), ((q 15), aI g 620 tl), ((q 16), aI g 620 on), ((q 17), aI g 620 tw)] := hD.sub [5, 0, 1, 2, 3, 4] (by decide) rfl
                have hp46_0 := hr45
                exact tw_vret E hS (u46.1, u46.2) (⟨(fun h => absurd h hp46_0), (fun h => absurd h hp46_0)⟩) hP hD d_Mod_linkMemberConstant_143
          · refine lv_iconst (v := 1) hx hb d_Mod_linkMemberConstant_100 (by decide) ?_
            refine lv_goto (tgt := 105) hx hb d_Mod_linkMemberConstant_101 (by decide) ?_
            refine lv_istore hx hb d_Mod_linkMemberConstant_105 hl (by decide) rfl (fun ls hl => ?_)
            have hl : lv_has ls 6 [(5, .int 1), (4, .int 0), (3, .int (nI jt)), (2, .int (nI jn)), (0, .ref h0), (1, .int (nI k))] := hl
            refine lv_aload_n hx hb d_Mod_linkMemberConstant_107 rfl (lv_at hl 4 rfl) ?_
            refine va_get (D := g.1) (ci := 10) (v := .ref (q 14)) (C := R_Mod) (T := F_Mod) (N := 61) hx hb hts in_Mod hown hK hP 0 rfl rfl 14 (by decide) (hts _ wd_1264) (fun _ h9 => h9) rfl d_Mod_linkMemberConstant_108 ?_
            refine lv_iload_n hx hb d_Mod_linkMemberConstant_111 rfl (lv_at hl 5 rfl) ?_
            refine va_iald hx hb hK hP 2 0 rfl rfl (vp_in_nI (by omega) (by decide)) d_Mod_linkMemberConstant_112 ?_
            refine tw_ri (e2 := tg k) (by rw [nI_clamp (by omega)]) ?_
            refine lv_bipush (v := 9) hx hb d_Mod_linkMemberConstant_113 (by decide) ?_
            refine lv_icmp_ne (tgt := 126) hx hb d_Mod_linkMemberConstant_115 (by decide) (fun h115 => ?_) (fun h115 => ?_)
            · refine lv_iload hx hb d_Mod_linkMemberConstant_126 (lv_at hl 0 rfl) ?_
              refine lv_if_ne (tgt := 143) hx hb d_Mod_linkMemberConstant_128 (by decide) (fun h128 => ?_) (fun h128 => ?_)
              · exact tw_vret E hS (fa, fp) (⟨(fun h => h), (fun _ => ⟨fun h => absurd h h115, fun _ => ⟨j2, jt, pt, lt1, q1, q2, q4, q6, q10, q11, q12, hT72⟩⟩)⟩) hP hD d_Mod_linkMemberConstant_143
              · first | exact absurd h128 (by decide) | exact absurd (by decide) h128
            · refine lv_iload hx hb d_Mod_linkMemberConstant_118 (lv_at hl 1 rfl) ?_
              refine lv_if_ne (tgt := 143) hx hb d_Mod_linkMemberConstant_120 (by decide) (fun h120 => ?_) (fun h120 => ?_)
              · first | exact absurd h120 (by decide) | exact absurd (by decide) h120
              · refine lv_goto (tgt := 131) hx hb d_Mod_linkMemberConstant_123 (by decide) ?_
                refine lv_aload_n hx hb d_Mod_linkMemberConstant_131 rfl (lv_at hl 4 rfl) ?_
                refine lv_bipush (v := 11) hx hb d_Mod_linkMemberConstant_132 (by decide) ?_
                refine lv_aload_n hx hb d_Mod_linkMemberConstant_134 rfl (lv_at hl 4 rfl) ?_
                refine va_get (D := g.1) (ci := 10) (v := .ref (q 15)) (C := R_Mod) (T := F_Mod) (N := 61) hx hb hts in_Mod hown hK hP 0 rfl rfl 15 (by decide) (hts _ wd_1265) (fun _ h9 => h9) rfl d_Mod_linkMemberConstant_135 ?_
                refine lv_iload_n hx hb d_Mod_linkMemberConstant_138 rfl (lv_at hl 5 rfl) ?_
                refine va_iald hx hb hK hP 3 0 rfl rfl (vp_in_nI (by omega) (by decide)) d_Mod_linkMemberConstant_139 ?_
                obtain ⟨x47, ex47⟩ : ∃ z : Int32, tl ((nI k).toNatClampNeg) = z := ⟨_, rfl⟩
                refine tw_ri (e2 := x47) ex47 ?_
                refine tw_wv (wr := [((q 2), aI g 600 bs), ((q 14), aI g 620 tg), ((q 15), aI g 620 tl), ((q 16), aI g 620 on), ((q 17), aI g 620 tw)]) (tw_runV (ws := [(h0, .inr (10, mob q rf n mm mb fa fp av ev wi mn tp tc sc nf fd me mp xn mt wh tq ag an ig)), ((q 2), aI g 600 bs), ((q 14), aI g 620 tg), ((q 15), aI g 620 tl), ((q 16), aI g 620 on), ((q 17), aI g 620 tw)]) (wc := [(h0, .inr (10, mob q rf n mm mb fa fp av ev wi mn tp tc sc nf fd me mp xn mt wh tq ag an ig))]) (As := [.int 11, .int x47]) (rest := []) E hB hK hZ (g_Mod_fail l g H.size h0 q rf n mm mb av ev wi mn tp tc sc nf fd me mp xn mt wh tq ag an ig fa fp 11 x47 (by decide)) mc_Mod_fail mi_Mod_fail me_Mod_fail wd_1478 hP hD hS hA [0] rfl (by decide) 0 rfl rfl rfl rfl rfl (by decide) rfl hl.1 rfl (Nat.le_of_ble_eq_true rfl) (by decide) d_Mod_linkMemberConstant_140) hP hD hS hA [0] [1, 2, 3, 4, 5] rfl rfl (by decide) (by decide) (fun u49 H locs hr48 hP hD hS => ?_)
                try dsimp only at hr48
                have hP : va_P g.1 classes [((q 2), aI g 600 bs), ((q 14), aI g 620 tg), ((q 15), aI g 620 tl), ((q 16), aI g 620 on), ((q 17), aI g 620 tw), (h0, .inr (10, mob q rf n mm mb u49.1 u49.2 av ev wi mn tp tc sc nf fd me mp xn mt wh tq ag an ig))] H := hP
                have hD : va_D A [((q 2), aI g 600 bs), ((q 14), aI g 620 tg), ((q 15), aI g 620 tl), ((q 16), aI g 620 on), ((q 17), aI g 620 tw), (h0, .inr (10, mob q rf n mm mb u49.1 u49.2 av ev wi mn tp tc sc nf fd me mp xn mt wh tq ag an ig))] := hD
                have hP : va_P g.1 classes [(h0, .inr (10, mob q rf n mm mb u49.1 u49.2 av ev wi mn tp tc sc nf fd me mp xn mt wh tq ag an ig)), ((q 2), aI g 600 bs), ((q 14), aI g 620 tg), ((q 15), aI g 620 tl), ((q 16), aI g 620 on), ((q 17), aI g 620 tw)] H := hP.sub [5, 0, 1, 2, 3, 4] rfl
                have hD : va_D A [(h0, .inr (10, mob q rf n mm mb u49.1 u49.2 av ev wi mn tp tc sc nf fd me mp xn mt wh tq ag an ig)), ((q 2), aI g 600 bs), ((q 14), aI g 620 tg), ((q 15), aI g 620 tl), ((q 16), aI g 620 on), ((q 17), aI g 620 tw)] := hD.sub [5, 0, 1, 2, 3, 4] (by decide) rfl
                have hp49_0 := hr48
                exact tw_vret E hS (u49.1, u49.2) (⟨(fun h => absurd h hp49_0), (fun h => absurd h hp49_0)⟩) hP hD d_Mod_linkMemberConstant_143
    · have hT47 := hB26.2 (hB26.1.resolve_left h47)
      refine lv_iconst (v := 1) hx hb d_Mod_linkMemberConstant_50 (by decide) ?_
      refine lv_goto (tgt := 55) hx hb d_Mod_linkMemberConstant_51 (by decide) ?_
      refine lv_istore hx hb d_Mod_linkMemberConstant_55 hl (by decide) rfl (fun ls hl => ?_)
      have hl : lv_has ls 6 [(4, .int 1), (3, .int (nI jt)), (2, .int (nI jn)), (0, .ref h0), (1, .int (nI k))] := hl
      refine lv_aload_n hx hb d_Mod_linkMemberConstant_57 rfl (lv_at hl 3 rfl) ?_
      refine lv_aload_n hx hb d_Mod_linkMemberConstant_58 rfl (lv_at hl 3 rfl) ?_
      refine va_get (D := g.1) (ci := 10) (v := .ref (q 16)) (C := R_Mod) (T := F_Mod) (N := 61) hx hb hts in_Mod hown hK hP 0 rfl rfl 16 (by decide) (hts _ wd_1266) (fun _ h9 => h9) rfl d_Mod_linkMemberConstant_59 ?_
      refine lv_iload_n hx hb d_Mod_linkMemberConstant_62 rfl (lv_at hl 1 rfl) ?_
      refine va_iald hx hb hK hP 4 0 rfl rfl (vp_in_nI (by omega) (by decide)) d_Mod_linkMemberConstant_63 ?_
      refine tw_ri (e2 := nI pt) (by rw [nI_clamp (by omega)]; exact q10) ?_
      refine lv_aload_n hx hb d_Mod_linkMemberConstant_64 rfl (lv_at hl 3 rfl) ?_
      refine lv_iload_n hx hb d_Mod_linkMemberConstant_65 rfl (lv_at hl 1 rfl) ?_
      refine tw_si (tw_runV (ws := [(h0, .inr (10, mob q rf n mm mb fa fp av ev wi mn tp tc sc nf fd me mp xn mt wh tq ag an ig)), ((q 2), aI g 600 bs), ((q 14), aI g 620 tg), ((q 15), aI g 620 tl), ((q 16), aI g 620 on), ((q 17), aI g 620 tw)]) (wc := [(h0, .inr (10, mob q rf n mm mb fa fp av ev wi mn tp tc sc nf fd me mp xn mt wh tq ag an ig)), ((q 16), aI g 620 on), ((q 17), aI g 620 tw)]) (As := [.int (nI jt)]) (rest := [.int (nI pt), .ref h0]) E hB hK hZ (g_Mod_endOf l g H.size h0 q rf n mm mb fa fp av ev wi mn tp tc sc nf fd me mp xn mt wh tq ag an ig on tw jt pt lt1 (by omega) q10 q11 q12) mc_Mod_endOf mi_Mod_endOf me_Mod_endOf wd_1536 hP hD hS hA [0, 4, 5] rfl (by decide) 0 rfl rfl rfl rfl rfl (by decide) rfl hl.1 rfl (Nat.le_of_ble_eq_true rfl) (by decide) d_Mod_linkMemberConstant_66) (fun r50 hr50 => ?_)
      have hB50 := hr50
      subst hB50
      refine tw_si (tw_runV (ws := [(h0, .inr (10, mob q rf n mm mb fa fp av ev wi mn tp tc sc nf fd me mp xn mt wh tq ag an ig)), ((q 2), aI g 600 bs), ((q 14), aI g 620 tg), ((q 15), aI g 620 tl), ((q 16), aI g 620 on), ((q 17), aI g 620 tw)]) (wc := [(h0, .inr (10, mob q rf n mm mb fa fp av ev wi mn tp tc sc nf fd me mp xn mt wh tq ag an ig)), ((q 2), aI g 600 bs)]) (As := [.int (nI pt), .int (nI (pt + lt1))]) (rest := []) E hB hK hZ (g_Mod_isMethodType l g H.size h0 q rf n mm mb fa fp av ev wi mn tp tc sc nf fd me mp xn mt wh tq ag an ig bs pt (pt + lt1) (by omega) (by omega)) mc_Mod_isMethodType mi_Mod_isMethodType me_Mod_isMethodType wd_1563 hP hD hS hA [0, 1] rfl (by decide) 0 rfl rfl rfl rfl rfl (by decide) rfl hl.1 rfl (Nat.le_of_ble_eq_true rfl) (by decide) d_Mod_linkMemberConstant_69) (fun r51 hr51 => ?_)
      have hB51 := hr51
      refine lv_if_eq (tgt := 104) hx hb d_Mod_linkMemberConstant_72 (by decide) (fun h72 => ?_) (fun h72 => ?_)
      · refine lv_iconst (v := 0) hx hb d_Mod_linkMemberConstant_104 (by decide) ?_
        refine lv_istore hx hb d_Mod_linkMemberConstant_105 hl (by decide) rfl (fun ls hl => ?_)
        have hl : lv_has ls 6 [(5, .int 0), (4, .int 1), (3, .int (nI jt)), (2, .int (nI jn)), (0, .ref h0), (1, .int (nI k))] := hl
        refine lv_aload_n hx hb d_Mod_linkMemberConstant_107 rfl (lv_at hl 4 rfl) ?_
        refine va_get (D := g.1) (ci := 10) (v := .ref (q 14)) (C := R_Mod) (T := F_Mod) (N := 61) hx hb hts in_Mod hown hK hP 0 rfl rfl 14 (by decide) (hts _ wd_1264) (fun _ h9 => h9) rfl d_Mod_linkMemberConstant_108 ?_
        refine lv_iload_n hx hb d_Mod_linkMemberConstant_111 rfl (lv_at hl 5 rfl) ?_
        refine va_iald hx hb hK hP 2 0 rfl rfl (vp_in_nI (by omega) (by decide)) d_Mod_linkMemberConstant_112 ?_
        refine tw_ri (e2 := tg k) (by rw [nI_clamp (by omega)]) ?_
        refine lv_bipush (v := 9) hx hb d_Mod_linkMemberConstant_113 (by decide) ?_
        refine lv_icmp_ne (tgt := 126) hx hb d_Mod_linkMemberConstant_115 (by decide) (fun h115 => ?_) (fun h115 => ?_)
        · refine lv_iload hx hb d_Mod_linkMemberConstant_126 (lv_at hl 0 rfl) ?_
          refine lv_if_ne (tgt := 143) hx hb d_Mod_linkMemberConstant_128 (by decide) (fun h128 => ?_) (fun h128 => ?_)
          · first | exact absurd h128 (by decide) | exact absurd (by decide) h128
          · refine lv_aload_n hx hb d_Mod_linkMemberConstant_131 rfl (lv_at hl 4 rfl) ?_
            refine lv_bipush (v := 11) hx hb d_Mod_linkMemberConstant_132 (by decide) ?_
            refine lv_aload_n hx hb d_Mod_linkMemberConstant_134 rfl (lv_at hl 4 rfl) ?_
            refine va_get (D := g.1) (ci := 10) (v := .ref (q 15)) (C := R_Mod) (T := F_Mod) (N := 61) hx hb hts in_Mod hown hK hP 0 rfl rfl 15 (by decide) (hts _ wd_1265) (fun _ h9 => h9) rfl d_Mod_linkMemberConstant_135 ?_
            refine lv_iload_n hx hb d_Mod_linkMemberConstant_138 rfl (lv_at hl 5 rfl) ?_
            refine va_iald hx hb hK hP 3 0 rfl rfl (vp_in_nI (by omega) (by decide)) d_Mod_linkMemberConstant_139 ?_
            obtain ⟨x52, ex52⟩ : ∃ z : Int32, tl ((nI k).toNatClampNeg) = z := ⟨_, rfl⟩
            refine tw_ri (e2 := x52) ex52 ?_
            refine tw_wv (wr := [((q 2), aI g 600 bs), ((q 14), aI g 620 tg), ((q 15), aI g 620 tl), ((q 16), aI g 620 on), ((q 17), aI g 620 tw)]) (tw_runV (ws := [(h0, .inr (10, mob q rf n mm mb fa fp av ev wi mn tp tc sc nf fd me mp xn mt wh tq ag an ig)), ((q 2), aI g 600 bs), ((q 14), aI g 620 tg), ((q 15), aI g 620 tl), ((q 16), aI g 620 on), ((q 17), aI g 620 tw)]) (wc := [(h0, .inr (10, mob q rf n mm mb fa fp av ev wi mn tp tc sc nf fd me mp xn mt wh tq ag an ig))]) (As := [.int 11, .int x52]) (rest := []) E hB hK hZ (g_Mod_fail l g H.size h0 q rf n mm mb av ev wi mn tp tc sc nf fd me mp xn mt wh tq ag an ig fa fp 11 x52 (by decide)) mc_Mod_fail mi_Mod_fail me_Mod_fail wd_1478 hP hD hS hA [0] rfl (by decide) 0 rfl rfl rfl rfl rfl (by decide) rfl hl.1 rfl (Nat.le_of_ble_eq_true rfl) (by decide) d_Mod_linkMemberConstant_140) hP hD hS hA [0] [1, 2, 3, 4, 5] rfl rfl (by decide) (by decide) (fun u54 H locs hr53 hP hD hS => ?_)
            try dsimp only at hr53
            have hP : va_P g.1 classes [((q 2), aI g 600 bs), ((q 14), aI g 620 tg), ((q 15), aI g 620 tl), ((q 16), aI g 620 on), ((q 17), aI g 620 tw), (h0, .inr (10, mob q rf n mm mb u54.1 u54.2 av ev wi mn tp tc sc nf fd me mp xn mt wh tq ag an ig))] H := hP
            have hD : va_D A [((q 2), aI g 600 bs), ((q 14), aI g 620 tg), ((q 15), aI g 620 tl), ((q 16), aI g 620 on), ((q 17), aI g 620 tw), (h0, .inr (10, mob q rf n mm mb u54.1 u54.2 av ev wi mn tp tc sc nf fd me mp xn mt wh tq ag an ig))] := hD
            have hP : va_P g.1 classes [(h0, .inr (10, mob q rf n mm mb u54.1 u54.2 av ev wi mn tp tc sc nf fd me mp xn mt wh tq ag an ig)), ((q 2), aI g 600 bs), ((q 14), aI g 620 tg), ((q 15), aI g 620 tl), ((q 16), aI g 620 on), ((q 17), aI g 620 tw)] H := hP.sub [5, 0, 1, 2, 3, 4] rfl
            have hD : va_D A [(h0, .inr (10, mob q rf n mm mb u54.1 u54.2 av ev wi mn tp tc sc nf fd me mp xn mt wh tq ag an ig)), ((q 2), aI g 600 bs), ((q 14), aI g 620 tg), ((q 15), aI g 620 tl), ((q 16), aI g 620 on), ((q 17), aI g 620 tw)] := hD.sub [5, 0, 1, 2, 3, 4] (by decide) rfl
            have hp54_0 := hr53
            exact tw_vret E hS (u54.1, u54.2) (⟨(fun h => absurd h hp54_0), (fun h => absurd h hp54_0)⟩) hP hD d_Mod_linkMemberConstant_143
        · refine lv_iload hx hb d_Mod_linkMemberConstant_118 (lv_at hl 1 rfl) ?_
          refine lv_if_ne (tgt := 143) hx hb d_Mod_linkMemberConstant_120 (by decide) (fun h120 => ?_) (fun h120 => ?_)
          · exact tw_vret E hS (fa, fp) (⟨(fun h => h), (fun _ => ⟨fun _ => ⟨j2, jt, pt, lt1, q1, q2, q4, q6, q10, q11, q12, by have := tef_lt (by omega) hT47; omega⟩, fun h => absurd (h115.symm.trans h) (by decide)⟩)⟩) hP hD d_Mod_linkMemberConstant_143
          · first | exact absurd h120 (by decide) | exact absurd (by decide) h120
      · have hT72 := hB51.2 (hB51.1.resolve_left h72)
        have hT72a := hT72.1
        refine lv_aload_n hx hb d_Mod_linkMemberConstant_75 rfl (lv_at hl 3 rfl) ?_
        refine lv_iload_n hx hb d_Mod_linkMemberConstant_76 rfl (lv_at hl 2 rfl) ?_
        refine tw_si (tw_runV (ws := [(h0, .inr (10, mob q rf n mm mb fa fp av ev wi mn tp tc sc nf fd me mp xn mt wh tq ag an ig)), ((q 2), aI g 600 bs), ((q 14), aI g 620 tg), ((q 15), aI g 620 tl), ((q 16), aI g 620 on), ((q 17), aI g 620 tw)]) (wc := [(h0, .inr (10, mob q rf n mm mb fa fp av ev wi mn tp tc sc nf fd me mp xn mt wh tq ag an ig)), ((q 2), aI g 600 bs), ((q 16), aI g 620 on), ((q 17), aI g 620 tw)]) (As := [.int (nI jn)]) (rest := []) E hB hK hZ (g_Mod_isInit l g H.size h0 q rf n mm mb fa fp av ev wi mn tp tc sc nf fd me mp xn mt wh tq ag an ig bs on tw jn pn ln1 (by omega) q7 q8 q9) mc_Mod_isInit mi_Mod_isInit me_Mod_isInit wd_1551 hP hD hS hA [0, 1, 4, 5] rfl (by decide) 0 rfl rfl rfl rfl rfl (by decide) rfl hl.1 rfl (Nat.le_of_ble_eq_true rfl) (by decide) d_Mod_linkMemberConstant_77) (fun r55 hr55 => ?_)
        have hB55 := hr55
        refine lv_if_eq (tgt := 100) hx hb d_Mod_linkMemberConstant_80 (by decide) (fun h80 => ?_) (fun h80 => ?_)
        · refine lv_iconst (v := 1) hx hb d_Mod_linkMemberConstant_100 (by decide) ?_
          refine lv_goto (tgt := 105) hx hb d_Mod_linkMemberConstant_101 (by decide) ?_
          refine lv_istore hx hb d_Mod_linkMemberConstant_105 hl (by decide) rfl (fun ls hl => ?_)
          have hl : lv_has ls 6 [(5, .int 1), (4, .int 1), (3, .int (nI jt)), (2, .int (nI jn)), (0, .ref h0), (1, .int (nI k))] := hl
          refine lv_aload_n hx hb d_Mod_linkMemberConstant_107 rfl (lv_at hl 4 rfl) ?_
          refine va_get (D := g.1) (ci := 10) (v := .ref (q 14)) (C := R_Mod) (T := F_Mod) (N := 61) hx hb hts in_Mod hown hK hP 0 rfl rfl 14 (by decide) (hts _ wd_1264) (fun _ h9 => h9) rfl d_Mod_linkMemberConstant_108 ?_
          refine lv_iload_n hx hb d_Mod_linkMemberConstant_111 rfl (lv_at hl 5 rfl) ?_
          refine va_iald hx hb hK hP 2 0 rfl rfl (vp_in_nI (by omega) (by decide)) d_Mod_linkMemberConstant_112 ?_
          refine tw_ri (e2 := tg k) (by rw [nI_clamp (by omega)]) ?_
          refine lv_bipush (v := 9) hx hb d_Mod_linkMemberConstant_113 (by decide) ?_
          refine lv_icmp_ne (tgt := 126) hx hb d_Mod_linkMemberConstant_115 (by decide) (fun h115 => ?_) (fun h115 => ?_)
          · refine lv_iload hx hb d_Mod_linkMemberConstant_126 (lv_at hl 0 rfl) ?_
            refine lv_if_ne (tgt := 143) hx hb d_Mod_linkMemberConstant_128 (by decide) (fun h128 => ?_) (fun h128 => ?_)
            · exact tw_vret E hS (fa, fp) (⟨(fun h => h), (fun _ => ⟨fun h => absurd h h115, fun _ => ⟨j2, jt, pt, lt1, q1, q2, q4, q6, q10, q11, q12, hT72⟩⟩)⟩) hP hD d_Mod_linkMemberConstant_143
            · first | exact absurd h128 (by decide) | exact absurd (by decide) h128
          · refine lv_iload hx hb d_Mod_linkMemberConstant_118 (lv_at hl 1 rfl) ?_
            refine lv_if_ne (tgt := 143) hx hb d_Mod_linkMemberConstant_120 (by decide) (fun h120 => ?_) (fun h120 => ?_)
            · exact tw_vret E hS (fa, fp) (⟨(fun h => h), (fun _ => ⟨fun _ => ⟨j2, jt, pt, lt1, q1, q2, q4, q6, q10, q11, q12, by have := tef_lt (by omega) hT47; omega⟩, fun h => absurd (h115.symm.trans h) (by decide)⟩)⟩) hP hD d_Mod_linkMemberConstant_143
            · first | exact absurd h120 (by decide) | exact absurd (by decide) h120
        · refine lv_aload_n hx hb d_Mod_linkMemberConstant_83 rfl (lv_at hl 3 rfl) ?_
          refine va_get (D := g.1) (ci := 10) (v := .ref (q 2)) (C := R_Mod) (T := F_Mod) (N := 61) hx hb hts in_Mod hown hK hP 0 rfl rfl 2 (by decide) (hts _ wd_1252) (fun _ h9 => h9) rfl d_Mod_linkMemberConstant_84 ?_
          refine lv_aload_n hx hb d_Mod_linkMemberConstant_87 rfl (lv_at hl 3 rfl) ?_
          refine lv_iload_n hx hb d_Mod_linkMemberConstant_88 rfl (lv_at hl 1 rfl) ?_
          refine tw_si (tw_runV (ws := [(h0, .inr (10, mob q rf n mm mb fa fp av ev wi mn tp tc sc nf fd me mp xn mt wh tq ag an ig)), ((q 2), aI g 600 bs), ((q 14), aI g 620 tg), ((q 15), aI g 620 tl), ((q 16), aI g 620 on), ((q 17), aI g 620 tw)]) (wc := [(h0, .inr (10, mob q rf n mm mb fa fp av ev wi mn tp tc sc nf fd me mp xn mt wh tq ag an ig)), ((q 16), aI g 620 on), ((q 17), aI g 620 tw)]) (As := [.int (nI jt)]) (rest := [.ref (q 2)]) E hB hK hZ (g_Mod_endOf l g H.size h0 q rf n mm mb fa fp av ev wi mn tp tc sc nf fd me mp xn mt wh tq ag an ig on tw jt pt lt1 (by omega) q10 q11 q12) mc_Mod_endOf mi_Mod_endOf me_Mod_endOf wd_1536 hP hD hS hA [0, 4, 5] rfl (by decide) 0 rfl rfl rfl rfl rfl (by decide) rfl hl.1 rfl (Nat.le_of_ble_eq_true rfl) (by decide) d_Mod_linkMemberConstant_89) (fun r56 hr56 => ?_)
          have hB56 := hr56
          subst hB56
          refine lv_iconst (v := 1) hx hb d_Mod_linkMemberConstant_92 (by decide) ?_
          refine lv_isub hx hb d_Mod_linkMemberConstant_93 ?_
          refine tw_ri (e2 := nI (pt + lt1 - 1)) (pk_sub (b := 1) (by omega)) ?_
          refine va_iald hx hb hK hP 1 0 rfl rfl (vp_in_nI (by omega) (by decide)) d_Mod_linkMemberConstant_94 ?_
          obtain ⟨x57, ex57⟩ : ∃ z : Int32, bs ((nI (pt + lt1 - 1)).toNatClampNeg) = z := ⟨_, rfl⟩
          refine tw_ri (e2 := x57) ex57 ?_
          refine lv_bipush (v := 86) hx hb d_Mod_linkMemberConstant_95 (by decide) ?_
          refine lv_icmp_ne (tgt := 104) hx hb d_Mod_linkMemberConstant_97 (by decide) (fun h97 => ?_) (fun h97 => ?_)
          · refine lv_iconst (v := 0) hx hb d_Mod_linkMemberConstant_104 (by decide) ?_
            refine lv_istore hx hb d_Mod_linkMemberConstant_105 hl (by decide) rfl (fun ls hl => ?_)
            have hl : lv_has ls 6 [(5, .int 0), (4, .int 1), (3, .int (nI jt)), (2, .int (nI jn)), (0, .ref h0), (1, .int (nI k))] := hl
            refine lv_aload_n hx hb d_Mod_linkMemberConstant_107 rfl (lv_at hl 4 rfl) ?_
            refine va_get (D := g.1) (ci := 10) (v := .ref (q 14)) (C := R_Mod) (T := F_Mod) (N := 61) hx hb hts in_Mod hown hK hP 0 rfl rfl 14 (by decide) (hts _ wd_1264) (fun _ h9 => h9) rfl d_Mod_linkMemberConstant_108 ?_
            refine lv_iload_n hx hb d_Mod_linkMemberConstant_111 rfl (lv_at hl 5 rfl) ?_
            refine va_iald hx hb hK hP 2 0 rfl rfl (vp_in_nI (by omega) (by decide)) d_Mod_linkMemberConstant_112 ?_
            refine tw_ri (e2 := tg k) (by rw [nI_clamp (by omega)]) ?_
            refine lv_bipush (v := 9) hx hb d_Mod_linkMemberConstant_113 (by decide) ?_
            refine lv_icmp_ne (tgt := 126) hx hb d_Mod_linkMemberConstant_115 (by decide) (fun h115 => ?_) (fun h115 => ?_)
            · refine lv_iload hx hb d_Mod_linkMemberConstant_126 (lv_at hl 0 rfl) ?_
              refine lv_if_ne (tgt := 143) hx hb d_Mod_linkMemberConstant_128 (by decide) (fun h128 => ?_) (fun h128 => ?_)
              · first | exact absurd h128 (by decide) | exact absurd (by decide) h128
              · refine lv_aload_n hx hb d_Mod_linkMemberConstant_131 rfl (lv_at hl 4 rfl) ?_
                refine lv_bipush (v := 11) hx hb d_Mod_linkMemberConstant_132 (by decide) ?_
                refine lv_aload_n hx hb d_Mod_linkMemberConstant_134 rfl (lv_at hl 4 rfl) ?_
                refine va_get (D := g.1) (ci := 10) (v := .ref (q 15)) (C := R_Mod) (T := F_Mod) (N := 61) hx hb hts in_Mod hown hK hP 0 rfl rfl 15 (by decide) (hts _ wd_1265) (fun _ h9 => h9) rfl d_Mod_linkMemberConstant_135 ?_
                refine lv_iload_n hx hb d_Mod_linkMemberConstant_138 rfl (lv_at hl 5 rfl) ?_
                refine va_iald hx hb hK hP 3 0 rfl rfl (vp_in_nI (by omega) (by decide)) d_Mod_linkMemberConstant_139 ?_
                obtain ⟨x58, ex58⟩ : ∃ z : Int32, tl ((nI k).toNatClampNeg) = z := ⟨_, rfl⟩
                refine tw_ri (e2 := x58) ex58 ?_
                refine tw_wv (wr := [((q 2), aI g 600 bs), ((q 14), aI g 620 tg), ((q 15), aI g 620 tl), ((q 16), aI g 620 on), ((q 17), aI g 620 tw)]) (tw_runV (ws := [(h0, .inr (10, mob q rf n mm mb fa fp av ev wi mn tp tc sc nf fd me mp xn mt wh tq ag an ig)), ((q 2), aI g 600 bs), ((q 14), aI g 620 tg), ((q 15), aI g 620 tl), ((q 16), aI g 620 on), ((q 17), aI g 620 tw)]) (wc := [(h0, .inr (10, mob q rf n mm mb fa fp av ev wi mn tp tc sc nf fd me mp xn mt wh tq ag an ig))]) (As := [.int 11, .int x58]) (rest := []) E hB hK hZ (g_Mod_fail l g H.size h0 q rf n mm mb av ev wi mn tp tc sc nf fd me mp xn mt wh tq ag an ig fa fp 11 x58 (by decide)) mc_Mod_fail mi_Mod_fail me_Mod_fail wd_1478 hP hD hS hA [0] rfl (by decide) 0 rfl rfl rfl rfl rfl (by decide) rfl hl.1 rfl (Nat.le_of_ble_eq_true rfl) (by decide) d_Mod_linkMemberConstant_140) hP hD hS hA [0] [1, 2, 3, 4, 5] rfl rfl (by decide) (by decide) (fun u60 H locs hr59 hP hD hS => ?_)
                try dsimp only at hr59
                have hP : va_P g.1 classes [((q 2), aI g 600 bs), ((q 14), aI g 620 tg), ((q 15), aI g 620 tl), ((q 16), aI g 620 on), ((q 17), aI g 620 tw), (h0, .inr (10, mob q rf n mm mb u60.1 u60.2 av ev wi mn tp tc sc nf fd me mp xn mt wh tq ag an ig))] H := hP
                have hD : va_D A [((q 2), aI g 600 bs), ((q 14), aI g 620 tg), ((q 15), aI g 620 tl), ((q 16), aI g 620 on), ((q 17), aI g 620 tw), (h0, .inr (10, mob q rf n mm mb u60.1 u60.2 av ev wi mn tp tc sc nf fd me mp xn mt wh tq ag an ig))] := hD
                have hP : va_P g.1 classes [(h0, .inr (10, mob q rf n mm mb u60.1 u60.2 av ev wi mn tp tc sc nf fd me mp xn mt wh tq ag an ig)), ((q 2), aI g 600 bs), ((q 14), aI g 620 tg), ((q 15), aI g 620 tl), ((q 16), aI g 620 on), ((q 17), aI g 620 tw)] H := hP.sub [5, 0, 1, 2, 3, 4] rfl
                have hD : va_D A [(h0, .inr (10, mob q rf n mm mb u60.1 u60.2 av ev wi mn tp tc sc nf fd me mp xn mt wh tq ag an ig)), ((q 2), aI g 600 bs), ((q 14), aI g 620 tg), ((q 15), aI g 620 tl), ((q 16), aI g 620 on), ((q 17), aI g 620 tw)] := hD.sub [5, 0, 1, 2, 3, 4] (by decide) rfl
                have hp60_0 := hr59
                exact tw_vret E hS (u60.1, u60.2) (⟨(fun h => absurd h hp60_0), (fun h => absurd h hp60_0)⟩) hP hD d_Mod_linkMemberConstant_143
            · refine lv_iload hx hb d_Mod_linkMemberConstant_118 (lv_at hl 1 rfl) ?_
              refine lv_if_ne (tgt := 143) hx hb d_Mod_linkMemberConstant_120 (by decide) (fun h120 => ?_) (fun h120 => ?_)
              · exact tw_vret E hS (fa, fp) (⟨(fun h => h), (fun _ => ⟨fun _ => ⟨j2, jt, pt, lt1, q1, q2, q4, q6, q10, q11, q12, by have := tef_lt (by omega) hT47; omega⟩, fun h => absurd (h115.symm.trans h) (by decide)⟩)⟩) hP hD d_Mod_linkMemberConstant_143
              · first | exact absurd h120 (by decide) | exact absurd (by decide) h120
          · refine lv_iconst (v := 1) hx hb d_Mod_linkMemberConstant_100 (by decide) ?_
            refine lv_goto (tgt := 105) hx hb d_Mod_linkMemberConstant_101 (by decide) ?_
            refine lv_istore hx hb d_Mod_linkMemberConstant_105 hl (by decide) rfl (fun ls hl => ?_)
            have hl : lv_has ls 6 [(5, .int 1), (4, .int 1), (3, .int (nI jt)), (2, .int (nI jn)), (0, .ref h0), (1, .int (nI k))] := hl
            refine lv_aload_n hx hb d_Mod_linkMemberConstant_107 rfl (lv_at hl 4 rfl) ?_
            refine va_get (D := g.1) (ci := 10) (v := .ref (q 14)) (C := R_Mod) (T := F_Mod) (N := 61) hx hb hts in_Mod hown hK hP 0 rfl rfl 14 (by decide) (hts _ wd_1264) (fun _ h9 => h9) rfl d_Mod_linkMemberConstant_108 ?_
            refine lv_iload_n hx hb d_Mod_linkMemberConstant_111 rfl (lv_at hl 5 rfl) ?_
            refine va_iald hx hb hK hP 2 0 rfl rfl (vp_in_nI (by omega) (by decide)) d_Mod_linkMemberConstant_112 ?_
            refine tw_ri (e2 := tg k) (by rw [nI_clamp (by omega)]) ?_
            refine lv_bipush (v := 9) hx hb d_Mod_linkMemberConstant_113 (by decide) ?_
            refine lv_icmp_ne (tgt := 126) hx hb d_Mod_linkMemberConstant_115 (by decide) (fun h115 => ?_) (fun h115 => ?_)
            · refine lv_iload hx hb d_Mod_linkMemberConstant_126 (lv_at hl 0 rfl) ?_
              refine lv_if_ne (tgt := 143) hx hb d_Mod_linkMemberConstant_128 (by decide) (fun h128 => ?_) (fun h128 => ?_)
              · exact tw_vret E hS (fa, fp) (⟨(fun h => h), (fun _ => ⟨fun h => absurd h h115, fun _ => ⟨j2, jt, pt, lt1, q1, q2, q4, q6, q10, q11, q12, hT72⟩⟩)⟩) hP hD d_Mod_linkMemberConstant_143
              · first | exact absurd h128 (by decide) | exact absurd (by decide) h128
            · refine lv_iload hx hb d_Mod_linkMemberConstant_118 (lv_at hl 1 rfl) ?_
              refine lv_if_ne (tgt := 143) hx hb d_Mod_linkMemberConstant_120 (by decide) (fun h120 => ?_) (fun h120 => ?_)
              · exact tw_vret E hS (fa, fp) (⟨(fun h => h), (fun _ => ⟨fun _ => ⟨j2, jt, pt, lt1, q1, q2, q4, q6, q10, q11, q12, by have := tef_lt (by omega) hT47; omega⟩, fun h => absurd (h115.symm.trans h) (by decide)⟩)⟩) hP hD d_Mod_linkMemberConstant_143
              · first | exact absurd h120 (by decide) | exact absurd (by decide) h120
set_option maxHeartbeats 4000000 in
set_option maxRecDepth 100000 in
theorem g_Mod_linkMember (l : Launch) (g : tw_G) (sz : Nat) (h0 : Nat) (q : Nat → Nat) (rf : Int32) (n : Nat) (mm : Int32) (mb : Int32) (av : Nat) (ev : Nat) (wi : Int32) (mn : Nat) (tp : Int32) (tc : Int32) (sc : Int32) (nf : Nat) (fd : Nat) (me : Nat) (mp : Int32) (xn : Nat) (mt : Nat) (wh : Nat) (tq : Nat) (ag : Nat) (an : Int32) (ig : Int32) (bs : Nat → Int32) (tg : Nat → Int32) (on : Nat → Int32) (tw : Nat → Int32) (fl : Nat → Int32) (pl : Nat → Int32) (na : Nat → Int32) (ty : Nat → Int32) (ca : Nat → Int32) (fa : Int32) (fp : Int32) (mi : Nat) (hmn : mn ≤ 620) (hTX : TXT tg on tw) (hmi : mi < 160) (hfd6 : fd ≤ 75) (hLM : ∀ j, j < mi → LMB bs mn tg on tw fd na ty j) (hf0 : fa = 0) : Met l y_Mod_linkMember [.code y_Mod_linkMember b_Mod_linkMember 6 none] ({ frames := 6, cells := 0, slots := 0, locals := 139 }) (tw_P g [.ref h0, .int (nI mi)] [(h0, .inr (10, mob q rf n mm mb fa fp av ev wi mn tp tc sc nf fd me mp xn mt wh tq ag an ig)), ((q 2), aI g 600 bs), ((q 14), aI g 620 tg), ((q 16), aI g 620 on), ((q 17), aI g 620 tw), ((q 27), aI g 160 fl), ((q 28), aI g 160 pl), ((q 29), aI g 160 na), ((q 30), aI g 160 ty), ((q 31), aI g 160 ca)] sz) (tw_Qv g (fun (u : Int32 × Int32) => (u.1 = 0 → fa = 0) ∧ (u.1 = 0 → LMB bs mn tg on tw fd na ty mi)) (fun u : Int32 × Int32 => [(h0, .inr (10, mob q rf n mm mb u.1 u.2 av ev wi mn tp tc sc nf fd me mp xn mt wh tq ag an ig)), ((q 2), aI g 600 bs), ((q 14), aI g 620 tg), ((q 16), aI g 620 on), ((q 17), aI g 620 tw), ((q 27), aI g 160 fl), ((q 28), aI g 160 pl), ((q 29), aI g 160 na), ((q 30), aI g 160 ty), ((q 31), aI g 160 ca)]) (va_A [(h0, .inr (10, mob q rf n mm mb fa fp av ev wi mn tp tc sc nf fd me mp xn mt wh tq ag an ig)), ((q 2), aI g 600 bs), ((q 14), aI g 620 tg), ((q 16), aI g 620 on), ((q 17), aI g 620 tw), ((q 27), aI g 160 fl), ((q 28), aI g 160 pl), ((q 29), aI g 160 na), ((q 30), aI g 160 ty), ((q 31), aI g 160 ca)] sz)) 0 0 (va_A [(h0, .inr (10, mob q rf n mm mb fa fp av ev wi mn tp tc sc nf fd me mp xn mt wh tq ag an ig)), ((q 2), aI g 600 bs), ((q 14), aI g 620 tg), ((q 16), aI g 620 on), ((q 17), aI g 620 tw), ((q 27), aI g 160 fl), ((q 28), aI g 160 pl), ((q 29), aI g 160 na), ((q 30), aI g 160 ty), ((q 31), aI g 160 ca)] sz) := by
  refine tw_metW (l := l) (g := g) (y := y_Mod_linkMember) (cc := b_Mod_linkMember) (maxL := 6) (ret := none) (rm := { frames := 6, cells := 0, slots := 0, locals := 139 }) (mc := 0) (ms := 0) (av := [.ref h0, .int (nI mi)]) (ws := [(h0, .inr (10, mob q rf n mm mb fa fp av ev wi mn tp tc sc nf fd me mp xn mt wh tq ag an ig)), ((q 2), aI g 600 bs), ((q 14), aI g 620 tg), ((q 16), aI g 620 on), ((q 17), aI g 620 tw), ((q 27), aI g 160 fl), ((q 28), aI g 160 pl), ((q 29), aI g 160 na), ((q 30), aI g 160 ty), ((q 31), aI g 160 ca)]) (sz := sz) (Qc := fun A => (tw_Qv g (fun (u : Int32 × Int32) => (u.1 = 0 → fa = 0) ∧ (u.1 = 0 → LMB bs mn tg on tw fd na ty mi)) (fun u : Int32 × Int32 => [(h0, .inr (10, mob q rf n mm mb u.1 u.2 av ev wi mn tp tc sc nf fd me mp xn mt wh tq ag an ig)), ((q 2), aI g 600 bs), ((q 14), aI g 620 tg), ((q 16), aI g 620 on), ((q 17), aI g 620 tw), ((q 27), aI g 160 fl), ((q 28), aI g 160 pl), ((q 29), aI g 160 na), ((q 30), aI g 160 ty), ((q 31), aI g 160 ca)]) A)) (by decide) (Nat.le_of_ble_eq_true rfl) ?_
  intro p e s m below meth c ls H A E hB hK hZ hP hD hS hA hl
  obtain ⟨hx, hb, hml, hr, hown, hts, hlocks, hin⟩ := id E
  have hl : lv_has ls 6 [(0, .ref h0), (1, .int (nI mi))] := hl
  refine lv_iload_n hx hb d_Mod_linkMember_0 rfl (lv_at hl 1 rfl) ?_
  refine lv_aload_n hx hb d_Mod_linkMember_1 rfl (lv_at hl 0 rfl) ?_
  refine va_get (D := g.1) (ci := 10) (v := .int (nI fd)) (C := R_Mod) (T := F_Mod) (N := 61) hx hb hts in_Mod hown hK hP 0 rfl rfl 24 (by decide) (hts _ wd_1274) (fun _ h9 => h9) rfl d_Mod_linkMember_2 ?_
  refine lv_icmp_lt (tgt := 12) hx hb d_Mod_linkMember_5 (by decide) (fun h5 => ?_) (fun h5 => ?_)
  · have h5 := tn_lt h5 (by omega) (by omega)
    refine lv_iconst (v := 0) hx hb d_Mod_linkMember_12 (by decide) ?_
    refine lv_istore_n hx hb d_Mod_linkMember_13 rfl hl (by decide) rfl (fun ls hl => ?_)
    have hl : lv_has ls 6 [(2, .int 0), (0, .ref h0), (1, .int (nI mi))] := hl
    refine lv_aload_n hx hb d_Mod_linkMember_14 rfl (lv_at hl 1 rfl) ?_
    refine lv_aload_n hx hb d_Mod_linkMember_15 rfl (lv_at hl 1 rfl) ?_
    refine va_get (D := g.1) (ci := 10) (v := .ref (q 29)) (C := R_Mod) (T := F_Mod) (N := 61) hx hb hts in_Mod hown hK hP 0 rfl rfl 29 (by decide) (hts _ wd_1279) (fun _ h9 => h9) rfl d_Mod_linkMember_16 ?_
    refine lv_iload_n hx hb d_Mod_linkMember_19 rfl (lv_at hl 2 rfl) ?_
    refine va_iald hx hb hK hP 7 0 rfl rfl (vp_in_nI (by omega) (by decide)) d_Mod_linkMember_20 ?_
    obtain ⟨xn2, exn2⟩ : ∃ z : Int32, na mi = z := ⟨_, rfl⟩
    refine tw_ri (e2 := xn2) (by rw [nI_clamp (by omega)]; exact exn2) ?_
    refine lv_iconst (v := 1) hx hb d_Mod_linkMember_21 (by decide) ?_
    refine tw_si (tw_runV (ws := [(h0, .inr (10, mob q rf n mm mb fa fp av ev wi mn tp tc sc nf fd me mp xn mt wh tq ag an ig)), ((q 2), aI g 600 bs), ((q 14), aI g 620 tg), ((q 16), aI g 620 on), ((q 17), aI g 620 tw), ((q 27), aI g 160 fl), ((q 28), aI g 160 pl), ((q 29), aI g 160 na), ((q 30), aI g 160 ty), ((q 31), aI g 160 ca)]) (wc := [(h0, .inr (10, mob q rf n mm mb fa fp av ev wi mn tp tc sc nf fd me mp xn mt wh tq ag an ig)), ((q 14), aI g 620 tg)]) (As := [.int xn2, .int 1]) (rest := []) E hB hK hZ (g_Mod_isTagI l g H.size h0 q rf n mm mb fa fp av ev wi mn tp tc sc nf fd me mp xn mt wh tq ag an ig tg xn2 1 (by omega)) mc_Mod_isTag mi_Mod_isTag me_Mod_isTag wd_1508 hP hD hS hA [0, 2] rfl (by decide) 0 rfl rfl rfl rfl rfl (by decide) rfl hl.1 rfl (Nat.le_of_ble_eq_true rfl) (by decide) d_Mod_linkMember_22) (fun r1 hr1 => ?_)
    have hB1 := hr1
    refine lv_if_eq (tgt := 42) hx hb d_Mod_linkMember_25 (by decide) (fun h25 => ?_) (fun h25 => ?_)
    · refine lv_aload_n hx hb d_Mod_linkMember_42 rfl (lv_at hl 1 rfl) ?_
      refine lv_bipush (v := 6) hx hb d_Mod_linkMember_43 (by decide) ?_
      refine lv_aload_n hx hb d_Mod_linkMember_45 rfl (lv_at hl 1 rfl) ?_
      refine va_get (D := g.1) (ci := 10) (v := .ref (q 28)) (C := R_Mod) (T := F_Mod) (N := 61) hx hb hts in_Mod hown hK hP 0 rfl rfl 28 (by decide) (hts _ wd_1278) (fun _ h9 => h9) rfl d_Mod_linkMember_46 ?_
      refine lv_iload_n hx hb d_Mod_linkMember_49 rfl (lv_at hl 2 rfl) ?_
      refine va_iald hx hb hK hP 6 0 rfl rfl (vp_in_nI (by omega) (by decide)) d_Mod_linkMember_50 ?_
      obtain ⟨x2, ex2⟩ : ∃ z : Int32, pl ((nI mi).toNatClampNeg) = z := ⟨_, rfl⟩
      refine tw_ri (e2 := x2) ex2 ?_
      refine tw_wv (wr := [((q 2), aI g 600 bs), ((q 14), aI g 620 tg), ((q 16), aI g 620 on), ((q 17), aI g 620 tw), ((q 27), aI g 160 fl), ((q 28), aI g 160 pl), ((q 29), aI g 160 na), ((q 30), aI g 160 ty), ((q 31), aI g 160 ca)]) (tw_runV (ws := [(h0, .inr (10, mob q rf n mm mb fa fp av ev wi mn tp tc sc nf fd me mp xn mt wh tq ag an ig)), ((q 2), aI g 600 bs), ((q 14), aI g 620 tg), ((q 16), aI g 620 on), ((q 17), aI g 620 tw), ((q 27), aI g 160 fl), ((q 28), aI g 160 pl), ((q 29), aI g 160 na), ((q 30), aI g 160 ty), ((q 31), aI g 160 ca)]) (wc := [(h0, .inr (10, mob q rf n mm mb fa fp av ev wi mn tp tc sc nf fd me mp xn mt wh tq ag an ig))]) (As := [.int 6, .int x2]) (rest := []) E hB hK hZ (g_Mod_fail l g H.size h0 q rf n mm mb av ev wi mn tp tc sc nf fd me mp xn mt wh tq ag an ig fa fp 6 x2 (by decide)) mc_Mod_fail mi_Mod_fail me_Mod_fail wd_1478 hP hD hS hA [0] rfl (by decide) 0 rfl rfl rfl rfl rfl (by decide) rfl hl.1 rfl (Nat.le_of_ble_eq_true rfl) (by decide) d_Mod_linkMember_51) hP hD hS hA [0] [1, 2, 3, 4, 5, 6, 7, 8, 9] rfl rfl (by decide) (by decide) (fun u4 H locs hr3 hP hD hS => ?_)
      try dsimp only at hr3
      have hP : va_P g.1 classes [((q 2), aI g 600 bs), ((q 14), aI g 620 tg), ((q 16), aI g 620 on), ((q 17), aI g 620 tw), ((q 27), aI g 160 fl), ((q 28), aI g 160 pl), ((q 29), aI g 160 na), ((q 30), aI g 160 ty), ((q 31), aI g 160 ca), (h0, .inr (10, mob q rf n mm mb u4.1 u4.2 av ev wi mn tp tc sc nf fd me mp xn mt wh tq ag an ig))] H := hP
      have hD : va_D A [((q 2), aI g 600 bs), ((q 14), aI g 620 tg), ((q 16), aI g 620 on), ((q 17), aI g 620 tw), ((q 27), aI g 160 fl), ((q 28), aI g 160 pl), ((q 29), aI g 160 na), ((q 30), aI g 160 ty), ((q 31), aI g 160 ca), (h0, .inr (10, mob q rf n mm mb u4.1 u4.2 av ev wi mn tp tc sc nf fd me mp xn mt wh tq ag an ig))] := hD
      have hP : va_P g.1 classes [(h0, .inr (10, mob q rf n mm mb u4.1 u4.2 av ev wi mn tp tc sc nf fd me mp xn mt wh tq ag an ig)), ((q 2), aI g 600 bs), ((q 14), aI g 620 tg), ((q 16), aI g 620 on), ((q 17), aI g 620 tw), ((q 27), aI g 160 fl), ((q 28), aI g 160 pl), ((q 29), aI g 160 na), ((q 30), aI g 160 ty), ((q 31), aI g 160 ca)] H := hP.sub [9, 0, 1, 2, 3, 4, 5, 6, 7, 8] rfl
      have hD : va_D A [(h0, .inr (10, mob q rf n mm mb u4.1 u4.2 av ev wi mn tp tc sc nf fd me mp xn mt wh tq ag an ig)), ((q 2), aI g 600 bs), ((q 14), aI g 620 tg), ((q 16), aI g 620 on), ((q 17), aI g 620 tw), ((q 27), aI g 160 fl), ((q 28), aI g 160 pl), ((q 29), aI g 160 na), ((q 30), aI g 160 ty), ((q 31), aI g 160 ca)] := hD.sub [9, 0, 1, 2, 3, 4, 5, 6, 7, 8] (by decide) rfl
      have hp4_0 := hr3
      exact tw_vret E hS (u4.1, u4.2) (⟨(fun h => absurd h hp4_0), (fun h => absurd h hp4_0)⟩) hP hD d_Mod_linkMember_54
    · have hT25 := hB1.2 (hB1.1.resolve_left h25)
      obtain ⟨jn, jn0, jn1, jne, jnt⟩ := hT25
      subst jne
      obtain ⟨pn, ln1, pna, pnb, pnc⟩ := hTX jn (by omega) jnt
      refine lv_aload_n hx hb d_Mod_linkMember_28 rfl (lv_at hl 1 rfl) ?_
      refine lv_aload_n hx hb d_Mod_linkMember_29 rfl (lv_at hl 1 rfl) ?_
      refine va_get (D := g.1) (ci := 10) (v := .ref (q 30)) (C := R_Mod) (T := F_Mod) (N := 61) hx hb hts in_Mod hown hK hP 0 rfl rfl 30 (by decide) (hts _ wd_1280) (fun _ h9 => h9) rfl d_Mod_linkMember_30 ?_
      refine lv_iload_n hx hb d_Mod_linkMember_33 rfl (lv_at hl 2 rfl) ?_
      refine va_iald hx hb hK hP 8 0 rfl rfl (vp_in_nI (by omega) (by decide)) d_Mod_linkMember_34 ?_
      obtain ⟨xt2, ext2⟩ : ∃ z : Int32, ty mi = z := ⟨_, rfl⟩
      refine tw_ri (e2 := xt2) (by rw [nI_clamp (by omega)]; exact ext2) ?_
      refine lv_iconst (v := 1) hx hb d_Mod_linkMember_35 (by decide) ?_
      refine tw_si (tw_runV (ws := [(h0, .inr (10, mob q rf n mm mb fa fp av ev wi mn tp tc sc nf fd me mp xn mt wh tq ag an ig)), ((q 2), aI g 600 bs), ((q 14), aI g 620 tg), ((q 16), aI g 620 on), ((q 17), aI g 620 tw), ((q 27), aI g 160 fl), ((q 28), aI g 160 pl), ((q 29), aI g 160 na), ((q 30), aI g 160 ty), ((q 31), aI g 160 ca)]) (wc := [(h0, .inr (10, mob q rf n mm mb fa fp av ev wi mn tp tc sc nf fd me mp xn mt wh tq ag an ig)), ((q 14), aI g 620 tg)]) (As := [.int xt2, .int 1]) (rest := []) E hB hK hZ (g_Mod_isTagI l g H.size h0 q rf n mm mb fa fp av ev wi mn tp tc sc nf fd me mp xn mt wh tq ag an ig tg xt2 1 (by omega)) mc_Mod_isTag mi_Mod_isTag me_Mod_isTag wd_1508 hP hD hS hA [0, 2] rfl (by decide) 0 rfl rfl rfl rfl rfl (by decide) rfl hl.1 rfl (Nat.le_of_ble_eq_true rfl) (by decide) d_Mod_linkMember_36) (fun r5 hr5 => ?_)
      have hB5 := hr5
      refine lv_if_ne (tgt := 55) hx hb d_Mod_linkMember_39 (by decide) (fun h39 => ?_) (fun h39 => ?_)
      · have hT39 := hB5.2 (hB5.1.resolve_left h39)
        obtain ⟨jt, jt0, jt1, jte, jtt⟩ := hT39
        subst jte
        obtain ⟨pt, lt1, pta, ptb, ptc⟩ := hTX jt (by omega) jtt
        refine lv_aload_n hx hb d_Mod_linkMember_55 rfl (lv_at hl 1 rfl) ?_
        refine va_get (D := g.1) (ci := 10) (v := .ref (q 29)) (C := R_Mod) (T := F_Mod) (N := 61) hx hb hts in_Mod hown hK hP 0 rfl rfl 29 (by decide) (hts _ wd_1279) (fun _ h9 => h9) rfl d_Mod_linkMember_56 ?_
        refine lv_iload_n hx hb d_Mod_linkMember_59 rfl (lv_at hl 2 rfl) ?_
        refine va_iald hx hb hK hP 7 0 rfl rfl (vp_in_nI (by omega) (by decide)) d_Mod_linkMember_60 ?_
        refine tw_ri (e2 := nI jn) (by rw [nI_clamp (by omega)]; exact exn2) ?_
        refine lv_istore_n hx hb d_Mod_linkMember_61 rfl hl (by decide) rfl (fun ls hl => ?_)
        have hl : lv_has ls 6 [(3, .int (nI jn)), (2, .int 0), (0, .ref h0), (1, .int (nI mi))] := hl
        refine lv_aload_n hx hb d_Mod_linkMember_62 rfl (lv_at hl 2 rfl) ?_
        refine va_get (D := g.1) (ci := 10) (v := .ref (q 30)) (C := R_Mod) (T := F_Mod) (N := 61) hx hb hts in_Mod hown hK hP 0 rfl rfl 30 (by decide) (hts _ wd_1280) (fun _ h9 => h9) rfl d_Mod_linkMember_63 ?_
        refine lv_iload_n hx hb d_Mod_linkMember_66 rfl (lv_at hl 3 rfl) ?_
        refine va_iald hx hb hK hP 8 0 rfl rfl (vp_in_nI (by omega) (by decide)) d_Mod_linkMember_67 ?_
        refine tw_ri (e2 := nI jt) (by rw [nI_clamp (by omega)]; exact ext2) ?_
        refine lv_istore hx hb d_Mod_linkMember_68 hl (by decide) rfl (fun ls hl => ?_)
        have hl : lv_has ls 6 [(4, .int (nI jt)), (3, .int (nI jn)), (2, .int 0), (0, .ref h0), (1, .int (nI mi))] := hl
        refine lv_aload_n hx hb d_Mod_linkMember_70 rfl (lv_at hl 3 rfl) ?_
        refine lv_aload_n hx hb d_Mod_linkMember_71 rfl (lv_at hl 3 rfl) ?_
        refine va_get (D := g.1) (ci := 10) (v := .ref (q 16)) (C := R_Mod) (T := F_Mod) (N := 61) hx hb hts in_Mod hown hK hP 0 rfl rfl 16 (by decide) (hts _ wd_1266) (fun _ h9 => h9) rfl d_Mod_linkMember_72 ?_
        refine lv_iload_n hx hb d_Mod_linkMember_75 rfl (lv_at hl 1 rfl) ?_
        refine va_iald hx hb hK hP 3 0 rfl rfl (vp_in_nI (by omega) (by decide)) d_Mod_linkMember_76 ?_
        refine tw_ri (e2 := nI pn) (by rw [nI_clamp (by omega)]; exact pna) ?_
        refine lv_aload_n hx hb d_Mod_linkMember_77 rfl (lv_at hl 3 rfl) ?_
        refine lv_iload_n hx hb d_Mod_linkMember_78 rfl (lv_at hl 1 rfl) ?_
        refine tw_si (tw_runV (ws := [(h0, .inr (10, mob q rf n mm mb fa fp av ev wi mn tp tc sc nf fd me mp xn mt wh tq ag an ig)), ((q 2), aI g 600 bs), ((q 14), aI g 620 tg), ((q 16), aI g 620 on), ((q 17), aI g 620 tw), ((q 27), aI g 160 fl), ((q 28), aI g 160 pl), ((q 29), aI g 160 na), ((q 30), aI g 160 ty), ((q 31), aI g 160 ca)]) (wc := [(h0, .inr (10, mob q rf n mm mb fa fp av ev wi mn tp tc sc nf fd me mp xn mt wh tq ag an ig)), ((q 16), aI g 620 on), ((q 17), aI g 620 tw)]) (As := [.int (nI jn)]) (rest := [.int (nI pn), .ref h0]) E hB hK hZ (g_Mod_endOf l g H.size h0 q rf n mm mb fa fp av ev wi mn tp tc sc nf fd me mp xn mt wh tq ag an ig on tw jn pn ln1 (by omega) pna pnb pnc) mc_Mod_endOf mi_Mod_endOf me_Mod_endOf wd_1536 hP hD hS hA [0, 3, 4] rfl (by decide) 0 rfl rfl rfl rfl rfl (by decide) rfl hl.1 rfl (Nat.le_of_ble_eq_true rfl) (by decide) d_Mod_linkMember_79) (fun r6 hr6 => ?_)
        have hB6 := hr6
        subst hB6
        refine tw_si (tw_runV (ws := [(h0, .inr (10, mob q rf n mm mb fa fp av ev wi mn tp tc sc nf fd me mp xn mt wh tq ag an ig)), ((q 2), aI g 600 bs), ((q 14), aI g 620 tg), ((q 16), aI g 620 on), ((q 17), aI g 620 tw), ((q 27), aI g 160 fl), ((q 28), aI g 160 pl), ((q 29), aI g 160 na), ((q 30), aI g 160 ty), ((q 31), aI g 160 ca)]) (wc := [(h0, .inr (10, mob q rf n mm mb fa fp av ev wi mn tp tc sc nf fd me mp xn mt wh tq ag an ig)), ((q 2), aI g 600 bs)]) (As := [.int (nI pn), .int (nI (pn + ln1))]) (rest := []) E hB hK hZ (g_Mod_isName l g H.size h0 q rf n mm mb fa fp av ev wi mn tp tc sc nf fd me mp xn mt wh tq ag an ig bs pn (pn + ln1) (by omega) (by omega)) mc_Mod_isName mi_Mod_isName me_Mod_isName wd_1544 hP hD hS hA [0, 1] rfl (by decide) 0 rfl rfl rfl rfl rfl (by decide) rfl hl.1 rfl (Nat.le_of_ble_eq_true rfl) (by decide) d_Mod_linkMember_82) (fun r7 hr7 => ?_)
        have hB7 := hr7
        refine lv_if_ne (tgt := 123) hx hb d_Mod_linkMember_85 (by decide) (fun h85 => ?_) (fun h85 => ?_)
        · refine lv_iload_n hx hb d_Mod_linkMember_123 rfl (lv_at hl 2 rfl) ?_
          refine lv_if_eq (tgt := 150) hx hb d_Mod_linkMember_124 (by decide) (fun h124 => ?_) (fun h124 => ?_)
          · refine lv_aload_n hx hb d_Mod_linkMember_150 rfl (lv_at hl 3 rfl) ?_
            refine lv_aload_n hx hb d_Mod_linkMember_151 rfl (lv_at hl 3 rfl) ?_
            refine va_get (D := g.1) (ci := 10) (v := .ref (q 16)) (C := R_Mod) (T := F_Mod) (N := 61) hx hb hts in_Mod hown hK hP 0 rfl rfl 16 (by decide) (hts _ wd_1266) (fun _ h9 => h9) rfl d_Mod_linkMember_152 ?_
            refine lv_iload hx hb d_Mod_linkMember_155 (lv_at hl 0 rfl) ?_
            refine va_iald hx hb hK hP 3 0 rfl rfl (vp_in_nI (by omega) (by decide)) d_Mod_linkMember_157 ?_
            refine tw_ri (e2 := nI pt) (by rw [nI_clamp (by omega)]; exact pta) ?_
            refine lv_aload_n hx hb d_Mod_linkMember_158 rfl (lv_at hl 3 rfl) ?_
            refine lv_iload hx hb d_Mod_linkMember_159 (lv_at hl 0 rfl) ?_
            refine tw_si (tw_runV (ws := [(h0, .inr (10, mob q rf n mm mb fa fp av ev wi mn tp tc sc nf fd me mp xn mt wh tq ag an ig)), ((q 2), aI g 600 bs), ((q 14), aI g 620 tg), ((q 16), aI g 620 on), ((q 17), aI g 620 tw), ((q 27), aI g 160 fl), ((q 28), aI g 160 pl), ((q 29), aI g 160 na), ((q 30), aI g 160 ty), ((q 31), aI g 160 ca)]) (wc := [(h0, .inr (10, mob q rf n mm mb fa fp av ev wi mn tp tc sc nf fd me mp xn mt wh tq ag an ig)), ((q 16), aI g 620 on), ((q 17), aI g 620 tw)]) (As := [.int (nI jt)]) (rest := [.int (nI pt), .ref h0]) E hB hK hZ (g_Mod_endOf l g H.size h0 q rf n mm mb fa fp av ev wi mn tp tc sc nf fd me mp xn mt wh tq ag an ig on tw jt pt lt1 (by omega) pta ptb ptc) mc_Mod_endOf mi_Mod_endOf me_Mod_endOf wd_1536 hP hD hS hA [0, 3, 4] rfl (by decide) 0 rfl rfl rfl rfl rfl (by decide) rfl hl.1 rfl (Nat.le_of_ble_eq_true rfl) (by decide) d_Mod_linkMember_161) (fun r8 hr8 => ?_)
            have hB8 := hr8
            subst hB8
            refine tw_si (tw_runV (ws := [(h0, .inr (10, mob q rf n mm mb fa fp av ev wi mn tp tc sc nf fd me mp xn mt wh tq ag an ig)), ((q 2), aI g 600 bs), ((q 14), aI g 620 tg), ((q 16), aI g 620 on), ((q 17), aI g 620 tw), ((q 27), aI g 160 fl), ((q 28), aI g 160 pl), ((q 29), aI g 160 na), ((q 30), aI g 160 ty), ((q 31), aI g 160 ca)]) (wc := [(h0, .inr (10, mob q rf n mm mb fa fp av ev wi mn tp tc sc nf fd me mp xn mt wh tq ag an ig)), ((q 2), aI g 600 bs)]) (As := [.int (nI pt), .int (nI (pt + lt1))]) (rest := []) E hB hK hZ (g_Mod_isType l g H.size h0 q rf n mm mb fa fp av ev wi mn tp tc sc nf fd me mp xn mt wh tq ag an ig bs pt (pt + lt1) (by omega) (by omega)) mc_Mod_isType mi_Mod_isType me_Mod_isType wd_1555 hP hD hS hA [0, 1] rfl (by decide) 0 rfl rfl rfl rfl rfl (by decide) rfl hl.1 rfl (Nat.le_of_ble_eq_true rfl) (by decide) d_Mod_linkMember_164) (fun r9 hr9 => ?_)
            have hB9 := hr9
            refine lv_if_ne (tgt := 182) hx hb d_Mod_linkMember_167 (by decide) (fun h167 => ?_) (fun h167 => ?_)
            · have hT167 := hB9.2 (hB9.1.resolve_left h167)
              refine lv_iload_n hx hb d_Mod_linkMember_182 rfl (lv_at hl 2 rfl) ?_
              refine lv_if_eq (tgt := 193) hx hb d_Mod_linkMember_183 (by decide) (fun h183 => ?_) (fun h183 => ?_)
              · refine lv_iconst (v := 0) hx hb d_Mod_linkMember_193 (by decide) ?_
                refine lv_istore hx hb d_Mod_linkMember_194 hl (by decide) rfl (fun ls hl => ?_)
                have hl : lv_has ls 6 [(5, .int 0), (4, .int (nI jt)), (3, .int (nI jn)), (2, .int 0), (0, .ref h0), (1, .int (nI mi))] := hl
                have loop196 : ∀ (kq : Nat) (i : Nat) (fa9 : Int32) (fp9 : Int32) (ls : Array Slot) (H : Heap) (locs : List Loc) , mi - i = kq → (hc9 : fa9 = 0 → fa = 0) → (hib : i ≤ 160) → lv_has ls 6 [(5, .int (nI i)), (4, .int (nI jt)), (3, .int (nI jn)), (2, .int 0), (0, .ref h0), (1, .int (nI mi))] → va_P g.1 classes [(h0, .inr (10, mob q rf n mm mb fa9 fp9 av ev wi mn tp tc sc nf fd me mp xn mt wh tq ag an ig)), ((q 2), aI g 600 bs), ((q 14), aI g 620 tg), ((q 16), aI g 620 on), ((q 17), aI g 620 tw), ((q 27), aI g 160 fl), ((q 28), aI g 160 pl), ((q 29), aI g 160 na), ((q 30), aI g 160 ty), ((q 31), aI g 160 ca)] H → va_D A [(h0, .inr (10, mob q rf n mm mb fa9 fp9 av ev wi mn tp tc sc nf fd me mp xn mt wh tq ag an ig)), ((q 2), aI g 600 bs), ((q 14), aI g 620 tg), ((q 16), aI g 620 on), ((q 17), aI g 620 tw), ((q 27), aI g 160 fl), ((q 28), aI g 160 pl), ((q 29), aI g 160 na), ((q 30), aI g 160 ty), ((q 31), aI g 160 ca)] → va_S A s.heap H locs → W p l e ({ frames := 6, cells := 0, slots := 0, locals := 139 }) s m [.ref h0, .int (nI mi)].toArray below meth c H locs 0 0 (MQ below (tw_Qv g (fun (u : Int32 × Int32) => (u.1 = 0 → fa = 0) ∧ (u.1 = 0 → LMB bs mn tg on tw fd na ty mi)) (fun u : Int32 × Int32 => [(h0, .inr (10, mob q rf n mm mb u.1 u.2 av ev wi mn tp tc sc nf fd me mp xn mt wh tq ag an ig)), ((q 2), aI g 600 bs), ((q 14), aI g 620 tg), ((q 16), aI g 620 on), ((q 17), aI g 620 tw), ((q 27), aI g 160 fl), ((q 28), aI g 160 pl), ((q 29), aI g 160 na), ((q 30), aI g 160 ty), ((q 31), aI g 160 ca)]) A) [.ref h0, .int (nI mi)].toArray s 0 0 A) (F0 m 196 ls []) := by
                  intro kq
                  induction kq using Nat.strongRecOn with
                  | _ kq ih =>
                    intro i fa9 fp9 ls H locs hk hc9 hib hl hP hD hS
                    refine lv_iload hx hb d_Mod_linkMember_196 (lv_at hl 0 rfl) ?_
                    refine lv_iload_n hx hb d_Mod_linkMember_198 rfl (lv_at hl 5 rfl) ?_
                    refine lv_icmp_ge (tgt := 251) hx hb d_Mod_linkMember_199 (by decide) (fun h199 => ?_) (fun h199 => ?_)
                    · refine lv_iload_n hx hb d_Mod_linkMember_251 rfl (lv_at hl 3 rfl) ?_
                      refine lv_if_eq (tgt := 302) hx hb d_Mod_linkMember_252 (by decide) (fun h252 => ?_) (fun h252 => ?_)
                      · exact tw_vret E hS (fa9, fp9) (⟨(fun _ => hf0), (fun hz => by have hz10 := hc9 hz; exact ⟨⟨jn, jn0, jn1, exn2, jnt⟩, ⟨jt, pt, lt1, jt0, jt1, ext2, jtt, pta, ptb, ptc, (fun h9 => absurd h9 (by omega))⟩⟩)⟩) hP hD d_Mod_linkMember_302
                      · first | exact absurd h252 (by decide) | exact absurd (by decide) h252
                    · have h199 := tn_nle h199 (by omega) (by omega)
                      obtain ⟨⟨i1, u0, u1, u2, ut⟩, ⟨i2, pi2, li2, v0, v1, v2, vt, v3, v4, v5, v6⟩⟩ := hLM i h199
                      obtain ⟨pi1, li1, u3, u4, u5⟩ := hTX i1 (by omega) ut
                      refine lv_aload_n hx hb d_Mod_linkMember_202 rfl (lv_at hl 4 rfl) ?_
                      refine lv_aload_n hx hb d_Mod_linkMember_203 rfl (lv_at hl 4 rfl) ?_
                      refine va_get (D := g.1) (ci := 10) (v := .ref (q 29)) (C := R_Mod) (T := F_Mod) (N := 61) hx hb hts in_Mod hown hK hP 0 rfl rfl 29 (by decide) (hts _ wd_1279) (fun _ h9 => h9) rfl d_Mod_linkMember_204 ?_
                      refine lv_iload hx hb d_Mod_linkMember_207 (lv_at hl 0 rfl) ?_
                      refine va_iald hx hb hK hP 7 0 rfl rfl (vp_in_nI (by omega) (by decide)) d_Mod_linkMember_209 ?_
                      refine tw_ri (e2 := nI i1) (by rw [nI_clamp (by omega)]; exact u2) ?_
                      refine lv_iload_n hx hb d_Mod_linkMember_210 rfl (lv_at hl 2 rfl) ?_
                      refine tw_si (tw_runV (ws := [(h0, .inr (10, mob q rf n mm mb fa9 fp9 av ev wi mn tp tc sc nf fd me mp xn mt wh tq ag an ig)), ((q 2), aI g 600 bs), ((q 14), aI g 620 tg), ((q 16), aI g 620 on), ((q 17), aI g 620 tw), ((q 27), aI g 160 fl), ((q 28), aI g 160 pl), ((q 29), aI g 160 na), ((q 30), aI g 160 ty), ((q 31), aI g 160 ca)]) (wc := [(h0, .inr (10, mob q rf n mm mb fa9 fp9 av ev wi mn tp tc sc nf fd me mp xn mt wh tq ag an ig)), ((q 2), aI g 600 bs), ((q 16), aI g 620 on), ((q 17), aI g 620 tw)]) (As := [.int (nI i1), .int (nI jn)]) (rest := []) E hB hK hZ (g_Mod_sameTexts l g H.size h0 q rf n mm mb fa9 fp9 av ev wi mn tp tc sc nf fd me mp xn mt wh tq ag an ig bs on tw i1 jn pi1 li1 pn ln1 (by omega) u3 u4 u5 (by omega) pna pnb pnc) mc_Mod_sameTexts mi_Mod_sameTexts me_Mod_sameTexts wd_1579 hP hD hS hA [0, 1, 3, 4] rfl (by decide) 0 rfl rfl rfl rfl rfl (by decide) rfl hl.1 rfl (Nat.le_of_ble_eq_true rfl) (by decide) d_Mod_linkMember_211) (fun r11 hr11 => ?_)
                      have hB11 := hr11
                      refine lv_if_eq (tgt := 245) hx hb d_Mod_linkMember_214 (by decide) (fun h214 => ?_) (fun h214 => ?_)
                      · refine lv_iinc (k := 0) (v := nI (i + 1)) hx hb d_Mod_linkMember_245 hl rfl ((nI_succ i).symm) (by decide) rfl (fun ls hl => ?_)
                        have hl : lv_has ls 6 [(5, .int (nI (i + 1))), (4, .int (nI jt)), (3, .int (nI jn)), (2, .int 0), (0, .ref h0), (1, .int (nI mi))] := hl
                        refine lv_goto (tgt := 196) hx hb d_Mod_linkMember_248 (by decide) ?_
                        have hP : va_P g.1 classes [(h0, .inr (10, mob q rf n mm mb fa9 fp9 av ev wi mn tp tc sc nf fd me mp xn mt wh tq ag an ig)), ((q 2), aI g 600 bs), ((q 14), aI g 620 tg), ((q 16), aI g 620 on), ((q 17), aI g 620 tw), ((q 27), aI g 160 fl), ((q 28), aI g 160 pl), ((q 29), aI g 160 na), ((q 30), aI g 160 ty), ((q 31), aI g 160 ca)] H := hP.sub [0, 1, 2, 3, 4, 5, 6, 7, 8, 9] rfl
                        have hD : va_D A [(h0, .inr (10, mob q rf n mm mb fa9 fp9 av ev wi mn tp tc sc nf fd me mp xn mt wh tq ag an ig)), ((q 2), aI g 600 bs), ((q 14), aI g 620 tg), ((q 16), aI g 620 on), ((q 17), aI g 620 tw), ((q 27), aI g 160 fl), ((q 28), aI g 160 pl), ((q 29), aI g 160 na), ((q 30), aI g 160 ty), ((q 31), aI g 160 ca)] := hD.sub [0, 1, 2, 3, 4, 5, 6, 7, 8, 9] (by decide) rfl
                        exact ih _ (by omega) (i + 1) fa9 fp9 ls _ _ rfl (fun _ => hf0) (by omega) (lv_sub hl [0, 1, 2, 3, 4, 5] rfl) hP hD hS
                      · refine lv_aload_n hx hb d_Mod_linkMember_217 rfl (lv_at hl 4 rfl) ?_
                        refine lv_aload_n hx hb d_Mod_linkMember_218 rfl (lv_at hl 4 rfl) ?_
                        refine va_get (D := g.1) (ci := 10) (v := .ref (q 30)) (C := R_Mod) (T := F_Mod) (N := 61) hx hb hts in_Mod hown hK hP 0 rfl rfl 30 (by decide) (hts _ wd_1280) (fun _ h9 => h9) rfl d_Mod_linkMember_219 ?_
                        refine lv_iload hx hb d_Mod_linkMember_222 (lv_at hl 0 rfl) ?_
                        refine va_iald hx hb hK hP 8 0 rfl rfl (vp_in_nI (by omega) (by decide)) d_Mod_linkMember_224 ?_
                        refine tw_ri (e2 := nI i2) (by rw [nI_clamp (by omega)]; exact v2) ?_
                        refine lv_iload hx hb d_Mod_linkMember_225 (lv_at hl 1 rfl) ?_
                        refine tw_si (tw_runV (ws := [(h0, .inr (10, mob q rf n mm mb fa9 fp9 av ev wi mn tp tc sc nf fd me mp xn mt wh tq ag an ig)), ((q 2), aI g 600 bs), ((q 14), aI g 620 tg), ((q 16), aI g 620 on), ((q 17), aI g 620 tw), ((q 27), aI g 160 fl), ((q 28), aI g 160 pl), ((q 29), aI g 160 na), ((q 30), aI g 160 ty), ((q 31), aI g 160 ca)]) (wc := [(h0, .inr (10, mob q rf n mm mb fa9 fp9 av ev wi mn tp tc sc nf fd me mp xn mt wh tq ag an ig)), ((q 2), aI g 600 bs), ((q 16), aI g 620 on), ((q 17), aI g 620 tw)]) (As := [.int (nI i2), .int (nI jt)]) (rest := []) E hB hK hZ (g_Mod_sameTexts l g H.size h0 q rf n mm mb fa9 fp9 av ev wi mn tp tc sc nf fd me mp xn mt wh tq ag an ig bs on tw i2 jt pi2 li2 pt lt1 (by omega) v3 v4 v5 (by omega) pta ptb ptc) mc_Mod_sameTexts mi_Mod_sameTexts me_Mod_sameTexts wd_1579 hP hD hS hA [0, 1, 3, 4] rfl (by decide) 0 rfl rfl rfl rfl rfl (by decide) rfl hl.1 rfl (Nat.le_of_ble_eq_true rfl) (by decide) d_Mod_linkMember_227) (fun r12 hr12 => ?_)
                        have hB12 := hr12
                        refine lv_if_eq (tgt := 245) hx hb d_Mod_linkMember_230 (by decide) (fun h230 => ?_) (fun h230 => ?_)
                        · refine lv_iinc (k := 0) (v := nI (i + 1)) hx hb d_Mod_linkMember_245 hl rfl ((nI_succ i).symm) (by decide) rfl (fun ls hl => ?_)
                          have hl : lv_has ls 6 [(5, .int (nI (i + 1))), (4, .int (nI jt)), (3, .int (nI jn)), (2, .int 0), (0, .ref h0), (1, .int (nI mi))] := hl
                          refine lv_goto (tgt := 196) hx hb d_Mod_linkMember_248 (by decide) ?_
                          have hP : va_P g.1 classes [(h0, .inr (10, mob q rf n mm mb fa9 fp9 av ev wi mn tp tc sc nf fd me mp xn mt wh tq ag an ig)), ((q 2), aI g 600 bs), ((q 14), aI g 620 tg), ((q 16), aI g 620 on), ((q 17), aI g 620 tw), ((q 27), aI g 160 fl), ((q 28), aI g 160 pl), ((q 29), aI g 160 na), ((q 30), aI g 160 ty), ((q 31), aI g 160 ca)] H := hP.sub [0, 1, 2, 3, 4, 5, 6, 7, 8, 9] rfl
                          have hD : va_D A [(h0, .inr (10, mob q rf n mm mb fa9 fp9 av ev wi mn tp tc sc nf fd me mp xn mt wh tq ag an ig)), ((q 2), aI g 600 bs), ((q 14), aI g 620 tg), ((q 16), aI g 620 on), ((q 17), aI g 620 tw), ((q 27), aI g 160 fl), ((q 28), aI g 160 pl), ((q 29), aI g 160 na), ((q 30), aI g 160 ty), ((q 31), aI g 160 ca)] := hD.sub [0, 1, 2, 3, 4, 5, 6, 7, 8, 9] (by decide) rfl
                          exact ih _ (by omega) (i + 1) fa9 fp9 ls _ _ rfl (fun _ => hf0) (by omega) (lv_sub hl [0, 1, 2, 3, 4, 5] rfl) hP hD hS
                        · refine lv_aload_n hx hb d_Mod_linkMember_233 rfl (lv_at hl 4 rfl) ?_
                          refine lv_bipush (v := 7) hx hb d_Mod_linkMember_234 (by decide) ?_
                          refine lv_aload_n hx hb d_Mod_linkMember_236 rfl (lv_at hl 4 rfl) ?_
                          refine va_get (D := g.1) (ci := 10) (v := .ref (q 28)) (C := R_Mod) (T := F_Mod) (N := 61) hx hb hts in_Mod hown hK hP 0 rfl rfl 28 (by decide) (hts _ wd_1278) (fun _ h9 => h9) rfl d_Mod_linkMember_237 ?_
                          refine lv_iload_n hx hb d_Mod_linkMember_240 rfl (lv_at hl 5 rfl) ?_
                          refine va_iald hx hb hK hP 6 0 rfl rfl (vp_in_nI (by omega) (by decide)) d_Mod_linkMember_241 ?_
                          obtain ⟨x13, ex13⟩ : ∃ z : Int32, pl ((nI mi).toNatClampNeg) = z := ⟨_, rfl⟩
                          refine tw_ri (e2 := x13) ex13 ?_
                          refine tw_wv (wr := [((q 2), aI g 600 bs), ((q 14), aI g 620 tg), ((q 16), aI g 620 on), ((q 17), aI g 620 tw), ((q 27), aI g 160 fl), ((q 28), aI g 160 pl), ((q 29), aI g 160 na), ((q 30), aI g 160 ty), ((q 31), aI g 160 ca)]) (tw_runV (ws := [(h0, .inr (10, mob q rf n mm mb fa9 fp9 av ev wi mn tp tc sc nf fd me mp xn mt wh tq ag an ig)), ((q 2), aI g 600 bs), ((q 14), aI g 620 tg), ((q 16), aI g 620 on), ((q 17), aI g 620 tw), ((q 27), aI g 160 fl), ((q 28), aI g 160 pl), ((q 29), aI g 160 na), ((q 30), aI g 160 ty), ((q 31), aI g 160 ca)]) (wc := [(h0, .inr (10, mob q rf n mm mb fa9 fp9 av ev wi mn tp tc sc nf fd me mp xn mt wh tq ag an ig))]) (As := [.int 7, .int x13]) (rest := []) E hB hK hZ (g_Mod_fail l g H.size h0 q rf n mm mb av ev wi mn tp tc sc nf fd me mp xn mt wh tq ag an ig fa9 fp9 7 x13 (by decide)) mc_Mod_fail mi_Mod_fail me_Mod_fail wd_1478 hP hD hS hA [0] rfl (by decide) 0 rfl rfl rfl rfl rfl (by decide) rfl hl.1 rfl (Nat.le_of_ble_eq_true rfl) (by decide) d_Mod_linkMember_242) hP hD hS hA [0] [1, 2, 3, 4, 5, 6, 7, 8, 9] rfl rfl (by decide) (by decide) (fun u15 H locs hr14 hP hD hS => ?_)
                          try dsimp only at hr14
                          have hP : va_P g.1 classes [((q 2), aI g 600 bs), ((q 14), aI g 620 tg), ((q 16), aI g 620 on), ((q 17), aI g 620 tw), ((q 27), aI g 160 fl), ((q 28), aI g 160 pl), ((q 29), aI g 160 na), ((q 30), aI g 160 ty), ((q 31), aI g 160 ca), (h0, .inr (10, mob q rf n mm mb u15.1 u15.2 av ev wi mn tp tc sc nf fd me mp xn mt wh tq ag an ig))] H := hP
                          have hD : va_D A [((q 2), aI g 600 bs), ((q 14), aI g 620 tg), ((q 16), aI g 620 on), ((q 17), aI g 620 tw), ((q 27), aI g 160 fl), ((q 28), aI g 160 pl), ((q 29), aI g 160 na), ((q 30), aI g 160 ty), ((q 31), aI g 160 ca), (h0, .inr (10, mob q rf n mm mb u15.1 u15.2 av ev wi mn tp tc sc nf fd me mp xn mt wh tq ag an ig))] := hD
                          have hP : va_P g.1 classes [(h0, .inr (10, mob q rf n mm mb u15.1 u15.2 av ev wi mn tp tc sc nf fd me mp xn mt wh tq ag an ig)), ((q 2), aI g 600 bs), ((q 14), aI g 620 tg), ((q 16), aI g 620 on), ((q 17), aI g 620 tw), ((q 27), aI g 160 fl), ((q 28), aI g 160 pl), ((q 29), aI g 160 na), ((q 30), aI g 160 ty), ((q 31), aI g 160 ca)] H := hP.sub [9, 0, 1, 2, 3, 4, 5, 6, 7, 8] rfl
                          have hD : va_D A [(h0, .inr (10, mob q rf n mm mb u15.1 u15.2 av ev wi mn tp tc sc nf fd me mp xn mt wh tq ag an ig)), ((q 2), aI g 600 bs), ((q 14), aI g 620 tg), ((q 16), aI g 620 on), ((q 17), aI g 620 tw), ((q 27), aI g 160 fl), ((q 28), aI g 160 pl), ((q 29), aI g 160 na), ((q 30), aI g 160 ty), ((q 31), aI g 160 ca)] := hD.sub [9, 0, 1, 2, 3, 4, 5, 6, 7, 8] (by decide) rfl
                          have hp15_0 := hr14
                          refine lv_iinc (k := 0) (v := nI (i + 1)) hx hb d_Mod_linkMember_245 hl rfl ((nI_succ i).symm) (by decide) rfl (fun ls hl => ?_)
                          have hl : lv_has ls 6 [(5, .int (nI (i + 1))), (4, .int (nI jt)), (3, .int (nI jn)), (2, .int 0), (0, .ref h0), (1, .int (nI mi))] := hl
                          refine lv_goto (tgt := 196) hx hb d_Mod_linkMember_248 (by decide) ?_
                          have hP : va_P g.1 classes [(h0, .inr (10, mob q rf n mm mb u15.1 u15.2 av ev wi mn tp tc sc nf fd me mp xn mt wh tq ag an ig)), ((q 2), aI g 600 bs), ((q 14), aI g 620 tg), ((q 16), aI g 620 on), ((q 17), aI g 620 tw), ((q 27), aI g 160 fl), ((q 28), aI g 160 pl), ((q 29), aI g 160 na), ((q 30), aI g 160 ty), ((q 31), aI g 160 ca)] H := hP.sub [0, 1, 2, 3, 4, 5, 6, 7, 8, 9] rfl
                          have hD : va_D A [(h0, .inr (10, mob q rf n mm mb u15.1 u15.2 av ev wi mn tp tc sc nf fd me mp xn mt wh tq ag an ig)), ((q 2), aI g 600 bs), ((q 14), aI g 620 tg), ((q 16), aI g 620 on), ((q 17), aI g 620 tw), ((q 27), aI g 160 fl), ((q 28), aI g 160 pl), ((q 29), aI g 160 na), ((q 30), aI g 160 ty), ((q 31), aI g 160 ca)] := hD.sub [0, 1, 2, 3, 4, 5, 6, 7, 8, 9] (by decide) rfl
                          exact ih _ (by omega) (i + 1) u15.1 u15.2 ls _ _ rfl (fun h => absurd h hp15_0) (by omega) (lv_sub hl [0, 1, 2, 3, 4, 5] rfl) hP hD hS
                exact loop196 _ 0 fa fp ls _ _ rfl (fun h => h) (by omega) (hl) hP hD hS
              · first | exact absurd h183 (by decide) | exact absurd (by decide) h183
            · refine lv_aload_n hx hb d_Mod_linkMember_170 rfl (lv_at hl 3 rfl) ?_
              refine lv_bipush (v := 11) hx hb d_Mod_linkMember_171 (by decide) ?_
              refine lv_aload_n hx hb d_Mod_linkMember_173 rfl (lv_at hl 3 rfl) ?_
              refine va_get (D := g.1) (ci := 10) (v := .ref (q 28)) (C := R_Mod) (T := F_Mod) (N := 61) hx hb hts in_Mod hown hK hP 0 rfl rfl 28 (by decide) (hts _ wd_1278) (fun _ h9 => h9) rfl d_Mod_linkMember_174 ?_
              refine lv_iload_n hx hb d_Mod_linkMember_177 rfl (lv_at hl 4 rfl) ?_
              refine va_iald hx hb hK hP 6 0 rfl rfl (vp_in_nI (by omega) (by decide)) d_Mod_linkMember_178 ?_
              obtain ⟨x16, ex16⟩ : ∃ z : Int32, pl ((nI mi).toNatClampNeg) = z := ⟨_, rfl⟩
              refine tw_ri (e2 := x16) ex16 ?_
              refine tw_wv (wr := [((q 2), aI g 600 bs), ((q 14), aI g 620 tg), ((q 16), aI g 620 on), ((q 17), aI g 620 tw), ((q 27), aI g 160 fl), ((q 28), aI g 160 pl), ((q 29), aI g 160 na), ((q 30), aI g 160 ty), ((q 31), aI g 160 ca)]) (tw_runV (ws := [(h0, .inr (10, mob q rf n mm mb fa fp av ev wi mn tp tc sc nf fd me mp xn mt wh tq ag an ig)), ((q 2), aI g 600 bs), ((q 14), aI g 620 tg), ((q 16), aI g 620 on), ((q 17), aI g 620 tw), ((q 27), aI g 160 fl), ((q 28), aI g 160 pl), ((q 29), aI g 160 na), ((q 30), aI g 160 ty), ((q 31), aI g 160 ca)]) (wc := [(h0, .inr (10, mob q rf n mm mb fa fp av ev wi mn tp tc sc nf fd me mp xn mt wh tq ag an ig))]) (As := [.int 11, .int x16]) (rest := []) E hB hK hZ (g_Mod_fail l g H.size h0 q rf n mm mb av ev wi mn tp tc sc nf fd me mp xn mt wh tq ag an ig fa fp 11 x16 (by decide)) mc_Mod_fail mi_Mod_fail me_Mod_fail wd_1478 hP hD hS hA [0] rfl (by decide) 0 rfl rfl rfl rfl rfl (by decide) rfl hl.1 rfl (Nat.le_of_ble_eq_true rfl) (by decide) d_Mod_linkMember_179) hP hD hS hA [0] [1, 2, 3, 4, 5, 6, 7, 8, 9] rfl rfl (by decide) (by decide) (fun u18 H locs hr17 hP hD hS => ?_)
              try dsimp only at hr17
              have hP : va_P g.1 classes [((q 2), aI g 600 bs), ((q 14), aI g 620 tg), ((q 16), aI g 620 on), ((q 17), aI g 620 tw), ((q 27), aI g 160 fl), ((q 28), aI g 160 pl), ((q 29), aI g 160 na), ((q 30), aI g 160 ty), ((q 31), aI g 160 ca), (h0, .inr (10, mob q rf n mm mb u18.1 u18.2 av ev wi mn tp tc sc nf fd me mp xn mt wh tq ag an ig))] H := hP
              have hD : va_D A [((q 2), aI g 600 bs), ((q 14), aI g 620 tg), ((q 16), aI g 620 on), ((q 17), aI g 620 tw), ((q 27), aI g 160 fl), ((q 28), aI g 160 pl), ((q 29), aI g 160 na), ((q 30), aI g 160 ty), ((q 31), aI g 160 ca), (h0, .inr (10, mob q rf n mm mb u18.1 u18.2 av ev wi mn tp tc sc nf fd me mp xn mt wh tq ag an ig))] := hD
              have hP : va_P g.1 classes [(h0, .inr (10, mob q rf n mm mb u18.1 u18.2 av ev wi mn tp tc sc nf fd me mp xn mt wh tq ag an ig)), ((q 2), aI g 600 bs), ((q 14), aI g 620 tg), ((q 16), aI g 620 on), ((q 17), aI g 620 tw), ((q 27), aI g 160 fl), ((q 28), aI g 160 pl), ((q 29), aI g 160 na), ((q 30), aI g 160 ty), ((q 31), aI g 160 ca)] H := hP.sub [9, 0, 1, 2, 3, 4, 5, 6, 7, 8] rfl
              have hD : va_D A [(h0, .inr (10, mob q rf n mm mb u18.1 u18.2 av ev wi mn tp tc sc nf fd me mp xn mt wh tq ag an ig)), ((q 2), aI g 600 bs), ((q 14), aI g 620 tg), ((q 16), aI g 620 on), ((q 17), aI g 620 tw), ((q 27), aI g 160 fl), ((q 28), aI g 160 pl), ((q 29), aI g 160 na), ((q 30), aI g 160 ty), ((q 31), aI g 160 ca)] := hD.sub [9, 0, 1, 2, 3, 4, 5, 6, 7, 8] (by decide) rfl
              have hp18_0 := hr17
              refine lv_iload_n hx hb d_Mod_linkMember_182 rfl (lv_at hl 2 rfl) ?_
              refine lv_if_eq (tgt := 193) hx hb d_Mod_linkMember_183 (by decide) (fun h183 => ?_) (fun h183 => ?_)
              · refine lv_iconst (v := 0) hx hb d_Mod_linkMember_193 (by decide) ?_
                refine lv_istore hx hb d_Mod_linkMember_194 hl (by decide) rfl (fun ls hl => ?_)
                have hl : lv_has ls 6 [(5, .int 0), (4, .int (nI jt)), (3, .int (nI jn)), (2, .int 0), (0, .ref h0), (1, .int (nI mi))] := hl
                have loop196 : ∀ (kq : Nat) (i : Nat) (fa9 : Int32) (fp9 : Int32) (ls : Array Slot) (H : Heap) (locs : List Loc) , mi - i = kq → (hc9 : fa9 = 0 → u18.1 = 0) → (hib : i ≤ 160) → lv_has ls 6 [(5, .int (nI i)), (4, .int (nI jt)), (3, .int (nI jn)), (2, .int 0), (0, .ref h0), (1, .int (nI mi))] → va_P g.1 classes [(h0, .inr (10, mob q rf n mm mb fa9 fp9 av ev wi mn tp tc sc nf fd me mp xn mt wh tq ag an ig)), ((q 2), aI g 600 bs), ((q 14), aI g 620 tg), ((q 16), aI g 620 on), ((q 17), aI g 620 tw), ((q 27), aI g 160 fl), ((q 28), aI g 160 pl), ((q 29), aI g 160 na), ((q 30), aI g 160 ty), ((q 31), aI g 160 ca)] H → va_D A [(h0, .inr (10, mob q rf n mm mb fa9 fp9 av ev wi mn tp tc sc nf fd me mp xn mt wh tq ag an ig)), ((q 2), aI g 600 bs), ((q 14), aI g 620 tg), ((q 16), aI g 620 on), ((q 17), aI g 620 tw), ((q 27), aI g 160 fl), ((q 28), aI g 160 pl), ((q 29), aI g 160 na), ((q 30), aI g 160 ty), ((q 31), aI g 160 ca)] → va_S A s.heap H locs → W p l e ({ frames := 6, cells := 0, slots := 0, locals := 139 }) s m [.ref h0, .int (nI mi)].toArray below meth c H locs 0 0 (MQ below (tw_Qv g (fun (u : Int32 × Int32) => (u.1 = 0 → fa = 0) ∧ (u.1 = 0 → LMB bs mn tg on tw fd na ty mi)) (fun u : Int32 × Int32 => [(h0, .inr (10, mob q rf n mm mb u.1 u.2 av ev wi mn tp tc sc nf fd me mp xn mt wh tq ag an ig)), ((q 2), aI g 600 bs), ((q 14), aI g 620 tg), ((q 16), aI g 620 on), ((q 17), aI g 620 tw), ((q 27), aI g 160 fl), ((q 28), aI g 160 pl), ((q 29), aI g 160 na), ((q 30), aI g 160 ty), ((q 31), aI g 160 ca)]) A) [.ref h0, .int (nI mi)].toArray s 0 0 A) (F0 m 196 ls []) := by
                  intro kq
                  induction kq using Nat.strongRecOn with
                  | _ kq ih =>
                    intro i fa9 fp9 ls H locs hk hc9 hib hl hP hD hS
                    refine lv_iload hx hb d_Mod_linkMember_196 (lv_at hl 0 rfl) ?_
                    refine lv_iload_n hx hb d_Mod_linkMember_198 rfl (lv_at hl 5 rfl) ?_
                    refine lv_icmp_ge (tgt := 251) hx hb d_Mod_linkMember_199 (by decide) (fun h199 => ?_) (fun h199 => ?_)
                    · refine lv_iload_n hx hb d_Mod_linkMember_251 rfl (lv_at hl 3 rfl) ?_
                      refine lv_if_eq (tgt := 302) hx hb d_Mod_linkMember_252 (by decide) (fun h252 => ?_) (fun h252 => ?_)
                      · exact tw_vret E hS (fa9, fp9) (⟨(fun h => absurd h (fun h => hp18_0 (hc9 h))), (fun h => absurd h (fun h => hp18_0 (hc9 h)))⟩) hP hD d_Mod_linkMember_302
                      · first | exact absurd h252 (by decide) | exact absurd (by decide) h252
                    · have h199 := tn_nle h199 (by omega) (by omega)
                      obtain ⟨⟨i1, u0, u1, u2, ut⟩, ⟨i2, pi2, li2, v0, v1, v2, vt, v3, v4, v5, v6⟩⟩ := hLM i h199
                      obtain ⟨pi1, li1, u3, u4, u5⟩ := hTX i1 (by omega) ut
                      refine lv_aload_n hx hb d_Mod_linkMember_202 rfl (lv_at hl 4 rfl) ?_
                      refine lv_aload_n hx hb d_Mod_linkMember_203 rfl (lv_at hl 4 rfl) ?_
                      refine va_get (D := g.1) (ci := 10) (v := .ref (q 29)) (C := R_Mod) (T := F_Mod) (N := 61) hx hb hts in_Mod hown hK hP 0 rfl rfl 29 (by decide) (hts _ wd_1279) (fun _ h9 => h9) rfl d_Mod_linkMember_204 ?_
                      refine lv_iload hx hb d_Mod_linkMember_207 (lv_at hl 0 rfl) ?_
                      refine va_iald hx hb hK hP 7 0 rfl rfl (vp_in_nI (by omega) (by decide)) d_Mod_linkMember_209 ?_
                      refine tw_ri (e2 := nI i1) (by rw [nI_clamp (by omega)]; exact u2) ?_
                      refine lv_iload_n hx hb d_Mod_linkMember_210 rfl (lv_at hl 2 rfl) ?_
                      refine tw_si (tw_runV (ws := [(h0, .inr (10, mob q rf n mm mb fa9 fp9 av ev wi mn tp tc sc nf fd me mp xn mt wh tq ag an ig)), ((q 2), aI g 600 bs), ((q 14), aI g 620 tg), ((q 16), aI g 620 on), ((q 17), aI g 620 tw), ((q 27), aI g 160 fl), ((q 28), aI g 160 pl), ((q 29), aI g 160 na), ((q 30), aI g 160 ty), ((q 31), aI g 160 ca)]) (wc := [(h0, .inr (10, mob q rf n mm mb fa9 fp9 av ev wi mn tp tc sc nf fd me mp xn mt wh tq ag an ig)), ((q 2), aI g 600 bs), ((q 16), aI g 620 on), ((q 17), aI g 620 tw)]) (As := [.int (nI i1), .int (nI jn)]) (rest := []) E hB hK hZ (g_Mod_sameTexts l g H.size h0 q rf n mm mb fa9 fp9 av ev wi mn tp tc sc nf fd me mp xn mt wh tq ag an ig bs on tw i1 jn pi1 li1 pn ln1 (by omega) u3 u4 u5 (by omega) pna pnb pnc) mc_Mod_sameTexts mi_Mod_sameTexts me_Mod_sameTexts wd_1579 hP hD hS hA [0, 1, 3, 4] rfl (by decide) 0 rfl rfl rfl rfl rfl (by decide) rfl hl.1 rfl (Nat.le_of_ble_eq_true rfl) (by decide) d_Mod_linkMember_211) (fun r19 hr19 => ?_)
                      have hB19 := hr19
                      refine lv_if_eq (tgt := 245) hx hb d_Mod_linkMember_214 (by decide) (fun h214 => ?_) (fun h214 => ?_)
                      · refine lv_iinc (k := 0) (v := nI (i + 1)) hx hb d_Mod_linkMember_245 hl rfl ((nI_succ i).symm) (by decide) rfl (fun ls hl => ?_)
                        have hl : lv_has ls 6 [(5, .int (nI (i + 1))), (4, .int (nI jt)), (3, .int (nI jn)), (2, .int 0), (0, .ref h0), (1, .int (nI mi))] := hl
                        refine lv_goto (tgt := 196) hx hb d_Mod_linkMember_248 (by decide) ?_
                        have hP : va_P g.1 classes [(h0, .inr (10, mob q rf n mm mb fa9 fp9 av ev wi mn tp tc sc nf fd me mp xn mt wh tq ag an ig)), ((q 2), aI g 600 bs), ((q 14), aI g 620 tg), ((q 16), aI g 620 on), ((q 17), aI g 620 tw), ((q 27), aI g 160 fl), ((q 28), aI g 160 pl), ((q 29), aI g 160 na), ((q 30), aI g 160 ty), ((q 31), aI g 160 ca)] H := hP.sub [0, 1, 2, 3, 4, 5, 6, 7, 8, 9] rfl
                        have hD : va_D A [(h0, .inr (10, mob q rf n mm mb fa9 fp9 av ev wi mn tp tc sc nf fd me mp xn mt wh tq ag an ig)), ((q 2), aI g 600 bs), ((q 14), aI g 620 tg), ((q 16), aI g 620 on), ((q 17), aI g 620 tw), ((q 27), aI g 160 fl), ((q 28), aI g 160 pl), ((q 29), aI g 160 na), ((q 30), aI g 160 ty), ((q 31), aI g 160 ca)] := hD.sub [0, 1, 2, 3, 4, 5, 6, 7, 8, 9] (by decide) rfl
                        exact ih _ (by omega) (i + 1) fa9 fp9 ls _ _ rfl (fun h => absurd h (fun h => hp18_0 (hc9 h))) (by omega) (lv_sub hl [0, 1, 2, 3, 4, 5] rfl) hP hD hS
                      · refine lv_aload_n hx hb d_Mod_linkMember_217 rfl (lv_at hl 4 rfl) ?_
                        refine lv_aload_n hx hb d_Mod_linkMember_218 rfl (lv_at hl 4 rfl) ?_
                        refine va_get (D := g.1) (ci := 10) (v := .ref (q 30)) (C := R_Mod) (T := F_Mod) (N := 61) hx hb hts in_Mod hown hK hP 0 rfl rfl 30 (by decide) (hts _ wd_1280) (fun _ h9 => h9) rfl d_Mod_linkMember_219 ?_
                        refine lv_iload hx hb d_Mod_linkMember_222 (lv_at hl 0 rfl) ?_
                        refine va_iald hx hb hK hP 8 0 rfl rfl (vp_in_nI (by omega) (by decide)) d_Mod_linkMember_224 ?_
                        refine tw_ri (e2 := nI i2) (by rw [nI_clamp (by omega)]; exact v2) ?_
                        refine lv_iload hx hb d_Mod_linkMember_225 (lv_at hl 1 rfl) ?_
                        refine tw_si (tw_runV (ws := [(h0, .inr (10, mob q rf n mm mb fa9 fp9 av ev wi mn tp tc sc nf fd me mp xn mt wh tq ag an ig)), ((q 2), aI g 600 bs), ((q 14), aI g 620 tg), ((q 16), aI g 620 on), ((q 17), aI g 620 tw), ((q 27), aI g 160 fl), ((q 28), aI g 160 pl), ((q 29), aI g 160 na), ((q 30), aI g 160 ty), ((q 31), aI g 160 ca)]) (wc := [(h0, .inr (10, mob q rf n mm mb fa9 fp9 av ev wi mn tp tc sc nf fd me mp xn mt wh tq ag an ig)), ((q 2), aI g 600 bs), ((q 16), aI g 620 on), ((q 17), aI g 620 tw)]) (As := [.int (nI i2), .int (nI jt)]) (rest := []) E hB hK hZ (g_Mod_sameTexts l g H.size h0 q rf n mm mb fa9 fp9 av ev wi mn tp tc sc nf fd me mp xn mt wh tq ag an ig bs on tw i2 jt pi2 li2 pt lt1 (by omega) v3 v4 v5 (by omega) pta ptb ptc) mc_Mod_sameTexts mi_Mod_sameTexts me_Mod_sameTexts wd_1579 hP hD hS hA [0, 1, 3, 4] rfl (by decide) 0 rfl rfl rfl rfl rfl (by decide) rfl hl.1 rfl (Nat.le_of_ble_eq_true rfl) (by decide) d_Mod_linkMember_227) (fun r20 hr20 => ?_)
                        have hB20 := hr20
                        refine lv_if_eq (tgt := 245) hx hb d_Mod_linkMember_230 (by decide) (fun h230 => ?_) (fun h230 => ?_)
                        · refine lv_iinc (k := 0) (v := nI (i + 1)) hx hb d_Mod_linkMember_245 hl rfl ((nI_succ i).symm) (by decide) rfl (fun ls hl => ?_)
                          have hl : lv_has ls 6 [(5, .int (nI (i + 1))), (4, .int (nI jt)), (3, .int (nI jn)), (2, .int 0), (0, .ref h0), (1, .int (nI mi))] := hl
                          refine lv_goto (tgt := 196) hx hb d_Mod_linkMember_248 (by decide) ?_
                          have hP : va_P g.1 classes [(h0, .inr (10, mob q rf n mm mb fa9 fp9 av ev wi mn tp tc sc nf fd me mp xn mt wh tq ag an ig)), ((q 2), aI g 600 bs), ((q 14), aI g 620 tg), ((q 16), aI g 620 on), ((q 17), aI g 620 tw), ((q 27), aI g 160 fl), ((q 28), aI g 160 pl), ((q 29), aI g 160 na), ((q 30), aI g 160 ty), ((q 31), aI g 160 ca)] H := hP.sub [0, 1, 2, 3, 4, 5, 6, 7, 8, 9] rfl
                          have hD : va_D A [(h0, .inr (10, mob q rf n mm mb fa9 fp9 av ev wi mn tp tc sc nf fd me mp xn mt wh tq ag an ig)), ((q 2), aI g 600 bs), ((q 14), aI g 620 tg), ((q 16), aI g 620 on), ((q 17), aI g 620 tw), ((q 27), aI g 160 fl), ((q 28), aI g 160 pl), ((q 29), aI g 160 na), ((q 30), aI g 160 ty), ((q 31), aI g 160 ca)] := hD.sub [0, 1, 2, 3, 4, 5, 6, 7, 8, 9] (by decide) rfl
                          exact ih _ (by omega) (i + 1) fa9 fp9 ls _ _ rfl (fun h => absurd h (fun h => hp18_0 (hc9 h))) (by omega) (lv_sub hl [0, 1, 2, 3, 4, 5] rfl) hP hD hS
                        · refine lv_aload_n hx hb d_Mod_linkMember_233 rfl (lv_at hl 4 rfl) ?_
                          refine lv_bipush (v := 7) hx hb d_Mod_linkMember_234 (by decide) ?_
                          refine lv_aload_n hx hb d_Mod_linkMember_236 rfl (lv_at hl 4 rfl) ?_
                          refine va_get (D := g.1) (ci := 10) (v := .ref (q 28)) (C := R_Mod) (T := F_Mod) (N := 61) hx hb hts in_Mod hown hK hP 0 rfl rfl 28 (by decide) (hts _ wd_1278) (fun _ h9 => h9) rfl d_Mod_linkMember_237 ?_
                          refine lv_iload_n hx hb d_Mod_linkMember_240 rfl (lv_at hl 5 rfl) ?_
                          refine va_iald hx hb hK hP 6 0 rfl rfl (vp_in_nI (by omega) (by decide)) d_Mod_linkMember_241 ?_
                          obtain ⟨x21, ex21⟩ : ∃ z : Int32, pl ((nI mi).toNatClampNeg) = z := ⟨_, rfl⟩
                          refine tw_ri (e2 := x21) ex21 ?_
                          refine tw_wv (wr := [((q 2), aI g 600 bs), ((q 14), aI g 620 tg), ((q 16), aI g 620 on), ((q 17), aI g 620 tw), ((q 27), aI g 160 fl), ((q 28), aI g 160 pl), ((q 29), aI g 160 na), ((q 30), aI g 160 ty), ((q 31), aI g 160 ca)]) (tw_runV (ws := [(h0, .inr (10, mob q rf n mm mb fa9 fp9 av ev wi mn tp tc sc nf fd me mp xn mt wh tq ag an ig)), ((q 2), aI g 600 bs), ((q 14), aI g 620 tg), ((q 16), aI g 620 on), ((q 17), aI g 620 tw), ((q 27), aI g 160 fl), ((q 28), aI g 160 pl), ((q 29), aI g 160 na), ((q 30), aI g 160 ty), ((q 31), aI g 160 ca)]) (wc := [(h0, .inr (10, mob q rf n mm mb fa9 fp9 av ev wi mn tp tc sc nf fd me mp xn mt wh tq ag an ig))]) (As := [.int 7, .int x21]) (rest := []) E hB hK hZ (g_Mod_fail l g H.size h0 q rf n mm mb av ev wi mn tp tc sc nf fd me mp xn mt wh tq ag an ig fa9 fp9 7 x21 (by decide)) mc_Mod_fail mi_Mod_fail me_Mod_fail wd_1478 hP hD hS hA [0] rfl (by decide) 0 rfl rfl rfl rfl rfl (by decide) rfl hl.1 rfl (Nat.le_of_ble_eq_true rfl) (by decide) d_Mod_linkMember_242) hP hD hS hA [0] [1, 2, 3, 4, 5, 6, 7, 8, 9] rfl rfl (by decide) (by decide) (fun u23 H locs hr22 hP hD hS => ?_)
                          try dsimp only at hr22
                          have hP : va_P g.1 classes [((q 2), aI g 600 bs), ((q 14), aI g 620 tg), ((q 16), aI g 620 on), ((q 17), aI g 620 tw), ((q 27), aI g 160 fl), ((q 28), aI g 160 pl), ((q 29), aI g 160 na), ((q 30), aI g 160 ty), ((q 31), aI g 160 ca), (h0, .inr (10, mob q rf n mm mb u23.1 u23.2 av ev wi mn tp tc sc nf fd me mp xn mt wh tq ag an ig))] H := hP
                          have hD : va_D A [((q 2), aI g 600 bs), ((q 14), aI g 620 tg), ((q 16), aI g 620 on), ((q 17), aI g 620 tw), ((q 27), aI g 160 fl), ((q 28), aI g 160 pl), ((q 29), aI g 160 na), ((q 30), aI g 160 ty), ((q 31), aI g 160 ca), (h0, .inr (10, mob q rf n mm mb u23.1 u23.2 av ev wi mn tp tc sc nf fd me mp xn mt wh tq ag an ig))] := hD
                          have hP : va_P g.1 classes [(h0, .inr (10, mob q rf n mm mb u23.1 u23.2 av ev wi mn tp tc sc nf fd me mp xn mt wh tq ag an ig)), ((q 2), aI g 600 bs), ((q 14), aI g 620 tg), ((q 16), aI g 620 on), ((q 17), aI g 620 tw), ((q 27), aI g 160 fl), ((q 28), aI g 160 pl), ((q 29), aI g 160 na), ((q 30), aI g 160 ty), ((q 31), aI g 160 ca)] H := hP.sub [9, 0, 1, 2, 3, 4, 5, 6, 7, 8] rfl
                          have hD : va_D A [(h0, .inr (10, mob q rf n mm mb u23.1 u23.2 av ev wi mn tp tc sc nf fd me mp xn mt wh tq ag an ig)), ((q 2), aI g 600 bs), ((q 14), aI g 620 tg), ((q 16), aI g 620 on), ((q 17), aI g 620 tw), ((q 27), aI g 160 fl), ((q 28), aI g 160 pl), ((q 29), aI g 160 na), ((q 30), aI g 160 ty), ((q 31), aI g 160 ca)] := hD.sub [9, 0, 1, 2, 3, 4, 5, 6, 7, 8] (by decide) rfl
                          have hp23_0 := hr22
                          refine lv_iinc (k := 0) (v := nI (i + 1)) hx hb d_Mod_linkMember_245 hl rfl ((nI_succ i).symm) (by decide) rfl (fun ls hl => ?_)
                          have hl : lv_has ls 6 [(5, .int (nI (i + 1))), (4, .int (nI jt)), (3, .int (nI jn)), (2, .int 0), (0, .ref h0), (1, .int (nI mi))] := hl
                          refine lv_goto (tgt := 196) hx hb d_Mod_linkMember_248 (by decide) ?_
                          have hP : va_P g.1 classes [(h0, .inr (10, mob q rf n mm mb u23.1 u23.2 av ev wi mn tp tc sc nf fd me mp xn mt wh tq ag an ig)), ((q 2), aI g 600 bs), ((q 14), aI g 620 tg), ((q 16), aI g 620 on), ((q 17), aI g 620 tw), ((q 27), aI g 160 fl), ((q 28), aI g 160 pl), ((q 29), aI g 160 na), ((q 30), aI g 160 ty), ((q 31), aI g 160 ca)] H := hP.sub [0, 1, 2, 3, 4, 5, 6, 7, 8, 9] rfl
                          have hD : va_D A [(h0, .inr (10, mob q rf n mm mb u23.1 u23.2 av ev wi mn tp tc sc nf fd me mp xn mt wh tq ag an ig)), ((q 2), aI g 600 bs), ((q 14), aI g 620 tg), ((q 16), aI g 620 on), ((q 17), aI g 620 tw), ((q 27), aI g 160 fl), ((q 28), aI g 160 pl), ((q 29), aI g 160 na), ((q 30), aI g 160 ty), ((q 31), aI g 160 ca)] := hD.sub [0, 1, 2, 3, 4, 5, 6, 7, 8, 9] (by decide) rfl
                          exact ih _ (by omega) (i + 1) u23.1 u23.2 ls _ _ rfl (fun h => absurd h hp23_0) (by omega) (lv_sub hl [0, 1, 2, 3, 4, 5] rfl) hP hD hS
                exact loop196 _ 0 u18.1 u18.2 ls _ _ rfl (fun h => h) (by omega) (hl) hP hD hS
              · first | exact absurd h183 (by decide) | exact absurd (by decide) h183
          · first | exact absurd h124 (by decide) | exact absurd (by decide) h124
        · refine lv_iload_n hx hb d_Mod_linkMember_88 rfl (lv_at hl 2 rfl) ?_
          refine lv_if_eq (tgt := 108) hx hb d_Mod_linkMember_89 (by decide) (fun h89 => ?_) (fun h89 => ?_)
          · refine lv_aload_n hx hb d_Mod_linkMember_108 rfl (lv_at hl 3 rfl) ?_
            refine lv_bipush (v := 10) hx hb d_Mod_linkMember_109 (by decide) ?_
            refine lv_aload_n hx hb d_Mod_linkMember_111 rfl (lv_at hl 3 rfl) ?_
            refine va_get (D := g.1) (ci := 10) (v := .ref (q 28)) (C := R_Mod) (T := F_Mod) (N := 61) hx hb hts in_Mod hown hK hP 0 rfl rfl 28 (by decide) (hts _ wd_1278) (fun _ h9 => h9) rfl d_Mod_linkMember_112 ?_
            refine lv_iload_n hx hb d_Mod_linkMember_115 rfl (lv_at hl 4 rfl) ?_
            refine va_iald hx hb hK hP 6 0 rfl rfl (vp_in_nI (by omega) (by decide)) d_Mod_linkMember_116 ?_
            obtain ⟨x24, ex24⟩ : ∃ z : Int32, pl ((nI mi).toNatClampNeg) = z := ⟨_, rfl⟩
            refine tw_ri (e2 := x24) ex24 ?_
            refine tw_wv (wr := [((q 2), aI g 600 bs), ((q 14), aI g 620 tg), ((q 16), aI g 620 on), ((q 17), aI g 620 tw), ((q 27), aI g 160 fl), ((q 28), aI g 160 pl), ((q 29), aI g 160 na), ((q 30), aI g 160 ty), ((q 31), aI g 160 ca)]) (tw_runV (ws := [(h0, .inr (10, mob q rf n mm mb fa fp av ev wi mn tp tc sc nf fd me mp xn mt wh tq ag an ig)), ((q 2), aI g 600 bs), ((q 14), aI g 620 tg), ((q 16), aI g 620 on), ((q 17), aI g 620 tw), ((q 27), aI g 160 fl), ((q 28), aI g 160 pl), ((q 29), aI g 160 na), ((q 30), aI g 160 ty), ((q 31), aI g 160 ca)]) (wc := [(h0, .inr (10, mob q rf n mm mb fa fp av ev wi mn tp tc sc nf fd me mp xn mt wh tq ag an ig))]) (As := [.int 10, .int x24]) (rest := []) E hB hK hZ (g_Mod_fail l g H.size h0 q rf n mm mb av ev wi mn tp tc sc nf fd me mp xn mt wh tq ag an ig fa fp 10 x24 (by decide)) mc_Mod_fail mi_Mod_fail me_Mod_fail wd_1478 hP hD hS hA [0] rfl (by decide) 0 rfl rfl rfl rfl rfl (by decide) rfl hl.1 rfl (Nat.le_of_ble_eq_true rfl) (by decide) d_Mod_linkMember_117) hP hD hS hA [0] [1, 2, 3, 4, 5, 6, 7, 8, 9] rfl rfl (by decide) (by decide) (fun u26 H locs hr25 hP hD hS => ?_)
            try dsimp only at hr25
            have hP : va_P g.1 classes [((q 2), aI g 600 bs), ((q 14), aI g 620 tg), ((q 16), aI g 620 on), ((q 17), aI g 620 tw), ((q 27), aI g 160 fl), ((q 28), aI g 160 pl), ((q 29), aI g 160 na), ((q 30), aI g 160 ty), ((q 31), aI g 160 ca), (h0, .inr (10, mob q rf n mm mb u26.1 u26.2 av ev wi mn tp tc sc nf fd me mp xn mt wh tq ag an ig))] H := hP
            have hD : va_D A [((q 2), aI g 600 bs), ((q 14), aI g 620 tg), ((q 16), aI g 620 on), ((q 17), aI g 620 tw), ((q 27), aI g 160 fl), ((q 28), aI g 160 pl), ((q 29), aI g 160 na), ((q 30), aI g 160 ty), ((q 31), aI g 160 ca), (h0, .inr (10, mob q rf n mm mb u26.1 u26.2 av ev wi mn tp tc sc nf fd me mp xn mt wh tq ag an ig))] := hD
            have hP : va_P g.1 classes [(h0, .inr (10, mob q rf n mm mb u26.1 u26.2 av ev wi mn tp tc sc nf fd me mp xn mt wh tq ag an ig)), ((q 2), aI g 600 bs), ((q 14), aI g 620 tg), ((q 16), aI g 620 on), ((q 17), aI g 620 tw), ((q 27), aI g 160 fl), ((q 28), aI g 160 pl), ((q 29), aI g 160 na), ((q 30), aI g 160 ty), ((q 31), aI g 160 ca)] H := hP.sub [9, 0, 1, 2, 3, 4, 5, 6, 7, 8] rfl
            have hD : va_D A [(h0, .inr (10, mob q rf n mm mb u26.1 u26.2 av ev wi mn tp tc sc nf fd me mp xn mt wh tq ag an ig)), ((q 2), aI g 600 bs), ((q 14), aI g 620 tg), ((q 16), aI g 620 on), ((q 17), aI g 620 tw), ((q 27), aI g 160 fl), ((q 28), aI g 160 pl), ((q 29), aI g 160 na), ((q 30), aI g 160 ty), ((q 31), aI g 160 ca)] := hD.sub [9, 0, 1, 2, 3, 4, 5, 6, 7, 8] (by decide) rfl
            have hp26_0 := hr25
            refine lv_goto (tgt := 182) hx hb d_Mod_linkMember_120 (by decide) ?_
            refine lv_iload_n hx hb d_Mod_linkMember_182 rfl (lv_at hl 2 rfl) ?_
            refine lv_if_eq (tgt := 193) hx hb d_Mod_linkMember_183 (by decide) (fun h183 => ?_) (fun h183 => ?_)
            · refine lv_iconst (v := 0) hx hb d_Mod_linkMember_193 (by decide) ?_
              refine lv_istore hx hb d_Mod_linkMember_194 hl (by decide) rfl (fun ls hl => ?_)
              have hl : lv_has ls 6 [(5, .int 0), (4, .int (nI jt)), (3, .int (nI jn)), (2, .int 0), (0, .ref h0), (1, .int (nI mi))] := hl
              have loop196 : ∀ (kq : Nat) (i : Nat) (fa9 : Int32) (fp9 : Int32) (ls : Array Slot) (H : Heap) (locs : List Loc) , mi - i = kq → (hc9 : fa9 = 0 → u26.1 = 0) → (hib : i ≤ 160) → lv_has ls 6 [(5, .int (nI i)), (4, .int (nI jt)), (3, .int (nI jn)), (2, .int 0), (0, .ref h0), (1, .int (nI mi))] → va_P g.1 classes [(h0, .inr (10, mob q rf n mm mb fa9 fp9 av ev wi mn tp tc sc nf fd me mp xn mt wh tq ag an ig)), ((q 2), aI g 600 bs), ((q 14), aI g 620 tg), ((q 16), aI g 620 on), ((q 17), aI g 620 tw), ((q 27), aI g 160 fl), ((q 28), aI g 160 pl), ((q 29), aI g 160 na), ((q 30), aI g 160 ty), ((q 31), aI g 160 ca)] H → va_D A [(h0, .inr (10, mob q rf n mm mb fa9 fp9 av ev wi mn tp tc sc nf fd me mp xn mt wh tq ag an ig)), ((q 2), aI g 600 bs), ((q 14), aI g 620 tg), ((q 16), aI g 620 on), ((q 17), aI g 620 tw), ((q 27), aI g 160 fl), ((q 28), aI g 160 pl), ((q 29), aI g 160 na), ((q 30), aI g 160 ty), ((q 31), aI g 160 ca)] → va_S A s.heap H locs → W p l e ({ frames := 6, cells := 0, slots := 0, locals := 139 }) s m [.ref h0, .int (nI mi)].toArray below meth c H locs 0 0 (MQ below (tw_Qv g (fun (u : Int32 × Int32) => (u.1 = 0 → fa = 0) ∧ (u.1 = 0 → LMB bs mn tg on tw fd na ty mi)) (fun u : Int32 × Int32 => [(h0, .inr (10, mob q rf n mm mb u.1 u.2 av ev wi mn tp tc sc nf fd me mp xn mt wh tq ag an ig)), ((q 2), aI g 600 bs), ((q 14), aI g 620 tg), ((q 16), aI g 620 on), ((q 17), aI g 620 tw), ((q 27), aI g 160 fl), ((q 28), aI g 160 pl), ((q 29), aI g 160 na), ((q 30), aI g 160 ty), ((q 31), aI g 160 ca)]) A) [.ref h0, .int (nI mi)].toArray s 0 0 A) (F0 m 196 ls []) := by
                intro kq
                induction kq using Nat.strongRecOn with
                | _ kq ih =>
                  intro i fa9 fp9 ls H locs hk hc9 hib hl hP hD hS
                  refine lv_iload hx hb d_Mod_linkMember_196 (lv_at hl 0 rfl) ?_
                  refine lv_iload_n hx hb d_Mod_linkMember_198 rfl (lv_at hl 5 rfl) ?_
                  refine lv_icmp_ge (tgt := 251) hx hb d_Mod_linkMember_199 (by decide) (fun h199 => ?_) (fun h199 => ?_)
                  · refine lv_iload_n hx hb d_Mod_linkMember_251 rfl (lv_at hl 3 rfl) ?_
                    refine lv_if_eq (tgt := 302) hx hb d_Mod_linkMember_252 (by decide) (fun h252 => ?_) (fun h252 => ?_)
                    · exact tw_vret E hS (fa9, fp9) (⟨(fun h => absurd h (fun h => hp26_0 (hc9 h))), (fun h => absurd h (fun h => hp26_0 (hc9 h)))⟩) hP hD d_Mod_linkMember_302
                    · first | exact absurd h252 (by decide) | exact absurd (by decide) h252
                  · have h199 := tn_nle h199 (by omega) (by omega)
                    obtain ⟨⟨i1, u0, u1, u2, ut⟩, ⟨i2, pi2, li2, v0, v1, v2, vt, v3, v4, v5, v6⟩⟩ := hLM i h199
                    obtain ⟨pi1, li1, u3, u4, u5⟩ := hTX i1 (by omega) ut
                    refine lv_aload_n hx hb d_Mod_linkMember_202 rfl (lv_at hl 4 rfl) ?_
                    refine lv_aload_n hx hb d_Mod_linkMember_203 rfl (lv_at hl 4 rfl) ?_
                    refine va_get (D := g.1) (ci := 10) (v := .ref (q 29)) (C := R_Mod) (T := F_Mod) (N := 61) hx hb hts in_Mod hown hK hP 0 rfl rfl 29 (by decide) (hts _ wd_1279) (fun _ h9 => h9) rfl d_Mod_linkMember_204 ?_
                    refine lv_iload hx hb d_Mod_linkMember_207 (lv_at hl 0 rfl) ?_
                    refine va_iald hx hb hK hP 7 0 rfl rfl (vp_in_nI (by omega) (by decide)) d_Mod_linkMember_209 ?_
                    refine tw_ri (e2 := nI i1) (by rw [nI_clamp (by omega)]; exact u2) ?_
                    refine lv_iload_n hx hb d_Mod_linkMember_210 rfl (lv_at hl 2 rfl) ?_
                    refine tw_si (tw_runV (ws := [(h0, .inr (10, mob q rf n mm mb fa9 fp9 av ev wi mn tp tc sc nf fd me mp xn mt wh tq ag an ig)), ((q 2), aI g 600 bs), ((q 14), aI g 620 tg), ((q 16), aI g 620 on), ((q 17), aI g 620 tw), ((q 27), aI g 160 fl), ((q 28), aI g 160 pl), ((q 29), aI g 160 na), ((q 30), aI g 160 ty), ((q 31), aI g 160 ca)]) (wc := [(h0, .inr (10, mob q rf n mm mb fa9 fp9 av ev wi mn tp tc sc nf fd me mp xn mt wh tq ag an ig)), ((q 2), aI g 600 bs), ((q 16), aI g 620 on), ((q 17), aI g 620 tw)]) (As := [.int (nI i1), .int (nI jn)]) (rest := []) E hB hK hZ (g_Mod_sameTexts l g H.size h0 q rf n mm mb fa9 fp9 av ev wi mn tp tc sc nf fd me mp xn mt wh tq ag an ig bs on tw i1 jn pi1 li1 pn ln1 (by omega) u3 u4 u5 (by omega) pna pnb pnc) mc_Mod_sameTexts mi_Mod_sameTexts me_Mod_sameTexts wd_1579 hP hD hS hA [0, 1, 3, 4] rfl (by decide) 0 rfl rfl rfl rfl rfl (by decide) rfl hl.1 rfl (Nat.le_of_ble_eq_true rfl) (by decide) d_Mod_linkMember_211) (fun r27 hr27 => ?_)
                    have hB27 := hr27
                    refine lv_if_eq (tgt := 245) hx hb d_Mod_linkMember_214 (by decide) (fun h214 => ?_) (fun h214 => ?_)
                    · refine lv_iinc (k := 0) (v := nI (i + 1)) hx hb d_Mod_linkMember_245 hl rfl ((nI_succ i).symm) (by decide) rfl (fun ls hl => ?_)
                      have hl : lv_has ls 6 [(5, .int (nI (i + 1))), (4, .int (nI jt)), (3, .int (nI jn)), (2, .int 0), (0, .ref h0), (1, .int (nI mi))] := hl
                      refine lv_goto (tgt := 196) hx hb d_Mod_linkMember_248 (by decide) ?_
                      have hP : va_P g.1 classes [(h0, .inr (10, mob q rf n mm mb fa9 fp9 av ev wi mn tp tc sc nf fd me mp xn mt wh tq ag an ig)), ((q 2), aI g 600 bs), ((q 14), aI g 620 tg), ((q 16), aI g 620 on), ((q 17), aI g 620 tw), ((q 27), aI g 160 fl), ((q 28), aI g 160 pl), ((q 29), aI g 160 na), ((q 30), aI g 160 ty), ((q 31), aI g 160 ca)] H := hP.sub [0, 1, 2, 3, 4, 5, 6, 7, 8, 9] rfl
                      have hD : va_D A [(h0, .inr (10, mob q rf n mm mb fa9 fp9 av ev wi mn tp tc sc nf fd me mp xn mt wh tq ag an ig)), ((q 2), aI g 600 bs), ((q 14), aI g 620 tg), ((q 16), aI g 620 on), ((q 17), aI g 620 tw), ((q 27), aI g 160 fl), ((q 28), aI g 160 pl), ((q 29), aI g 160 na), ((q 30), aI g 160 ty), ((q 31), aI g 160 ca)] := hD.sub [0, 1, 2, 3, 4, 5, 6, 7, 8, 9] (by decide) rfl
                      exact ih _ (by omega) (i + 1) fa9 fp9 ls _ _ rfl (fun h => absurd h (fun h => hp26_0 (hc9 h))) (by omega) (lv_sub hl [0, 1, 2, 3, 4, 5] rfl) hP hD hS
                    · refine lv_aload_n hx hb d_Mod_linkMember_217 rfl (lv_at hl 4 rfl) ?_
                      refine lv_aload_n hx hb d_Mod_linkMember_218 rfl (lv_at hl 4 rfl) ?_
                      refine va_get (D := g.1) (ci := 10) (v := .ref (q 30)) (C := R_Mod) (T := F_Mod) (N := 61) hx hb hts in_Mod hown hK hP 0 rfl rfl 30 (by decide) (hts _ wd_1280) (fun _ h9 => h9) rfl d_Mod_linkMember_219 ?_
                      refine lv_iload hx hb d_Mod_linkMember_222 (lv_at hl 0 rfl) ?_
                      refine va_iald hx hb hK hP 8 0 rfl rfl (vp_in_nI (by omega) (by decide)) d_Mod_linkMember_224 ?_
                      refine tw_ri (e2 := nI i2) (by rw [nI_clamp (by omega)]; exact v2) ?_
                      refine lv_iload hx hb d_Mod_linkMember_225 (lv_at hl 1 rfl) ?_
                      refine tw_si (tw_runV (ws := [(h0, .inr (10, mob q rf n mm mb fa9 fp9 av ev wi mn tp tc sc nf fd me mp xn mt wh tq ag an ig)), ((q 2), aI g 600 bs), ((q 14), aI g 620 tg), ((q 16), aI g 620 on), ((q 17), aI g 620 tw), ((q 27), aI g 160 fl), ((q 28), aI g 160 pl), ((q 29), aI g 160 na), ((q 30), aI g 160 ty), ((q 31), aI g 160 ca)]) (wc := [(h0, .inr (10, mob q rf n mm mb fa9 fp9 av ev wi mn tp tc sc nf fd me mp xn mt wh tq ag an ig)), ((q 2), aI g 600 bs), ((q 16), aI g 620 on), ((q 17), aI g 620 tw)]) (As := [.int (nI i2), .int (nI jt)]) (rest := []) E hB hK hZ (g_Mod_sameTexts l g H.size h0 q rf n mm mb fa9 fp9 av ev wi mn tp tc sc nf fd me mp xn mt wh tq ag an ig bs on tw i2 jt pi2 li2 pt lt1 (by omega) v3 v4 v5 (by omega) pta ptb ptc) mc_Mod_sameTexts mi_Mod_sameTexts me_Mod_sameTexts wd_1579 hP hD hS hA [0, 1, 3, 4] rfl (by decide) 0 rfl rfl rfl rfl rfl (by decide) rfl hl.1 rfl (Nat.le_of_ble_eq_true rfl) (by decide) d_Mod_linkMember_227) (fun r28 hr28 => ?_)
                      have hB28 := hr28
                      refine lv_if_eq (tgt := 245) hx hb d_Mod_linkMember_230 (by decide) (fun h230 => ?_) (fun h230 => ?_)
                      · refine lv_iinc (k := 0) (v := nI (i + 1)) hx hb d_Mod_linkMember_245 hl rfl ((nI_succ i).symm) (by decide) rfl (fun ls hl => ?_)
                        have hl : lv_has ls 6 [(5, .int (nI (i + 1))), (4, .int (nI jt)), (3, .int (nI jn)), (2, .int 0), (0, .ref h0), (1, .int (nI mi))] := hl
                        refine lv_goto (tgt := 196) hx hb d_Mod_linkMember_248 (by decide) ?_
                        have hP : va_P g.1 classes [(h0, .inr (10, mob q rf n mm mb fa9 fp9 av ev wi mn tp tc sc nf fd me mp xn mt wh tq ag an ig)), ((q 2), aI g 600 bs), ((q 14), aI g 620 tg), ((q 16), aI g 620 on), ((q 17), aI g 620 tw), ((q 27), aI g 160 fl), ((q 28), aI g 160 pl), ((q 29), aI g 160 na), ((q 30), aI g 160 ty), ((q 31), aI g 160 ca)] H := hP.sub [0, 1, 2, 3, 4, 5, 6, 7, 8, 9] rfl
                        have hD : va_D A [(h0, .inr (10, mob q rf n mm mb fa9 fp9 av ev wi mn tp tc sc nf fd me mp xn mt wh tq ag an ig)), ((q 2), aI g 600 bs), ((q 14), aI g 620 tg), ((q 16), aI g 620 on), ((q 17), aI g 620 tw), ((q 27), aI g 160 fl), ((q 28), aI g 160 pl), ((q 29), aI g 160 na), ((q 30), aI g 160 ty), ((q 31), aI g 160 ca)] := hD.sub [0, 1, 2, 3, 4, 5, 6, 7, 8, 9] (by decide) rfl
                        exact ih _ (by omega) (i + 1) fa9 fp9 ls _ _ rfl (fun h => absurd h (fun h => hp26_0 (hc9 h))) (by omega) (lv_sub hl [0, 1, 2, 3, 4, 5] rfl) hP hD hS
                      · refine lv_aload_n hx hb d_Mod_linkMember_233 rfl (lv_at hl 4 rfl) ?_
                        refine lv_bipush (v := 7) hx hb d_Mod_linkMember_234 (by decide) ?_
                        refine lv_aload_n hx hb d_Mod_linkMember_236 rfl (lv_at hl 4 rfl) ?_
                        refine va_get (D := g.1) (ci := 10) (v := .ref (q 28)) (C := R_Mod) (T := F_Mod) (N := 61) hx hb hts in_Mod hown hK hP 0 rfl rfl 28 (by decide) (hts _ wd_1278) (fun _ h9 => h9) rfl d_Mod_linkMember_237 ?_
                        refine lv_iload_n hx hb d_Mod_linkMember_240 rfl (lv_at hl 5 rfl) ?_
                        refine va_iald hx hb hK hP 6 0 rfl rfl (vp_in_nI (by omega) (by decide)) d_Mod_linkMember_241 ?_
                        obtain ⟨x29, ex29⟩ : ∃ z : Int32, pl ((nI mi).toNatClampNeg) = z := ⟨_, rfl⟩
                        refine tw_ri (e2 := x29) ex29 ?_
                        refine tw_wv (wr := [((q 2), aI g 600 bs), ((q 14), aI g 620 tg), ((q 16), aI g 620 on), ((q 17), aI g 620 tw), ((q 27), aI g 160 fl), ((q 28), aI g 160 pl), ((q 29), aI g 160 na), ((q 30), aI g 160 ty), ((q 31), aI g 160 ca)]) (tw_runV (ws := [(h0, .inr (10, mob q rf n mm mb fa9 fp9 av ev wi mn tp tc sc nf fd me mp xn mt wh tq ag an ig)), ((q 2), aI g 600 bs), ((q 14), aI g 620 tg), ((q 16), aI g 620 on), ((q 17), aI g 620 tw), ((q 27), aI g 160 fl), ((q 28), aI g 160 pl), ((q 29), aI g 160 na), ((q 30), aI g 160 ty), ((q 31), aI g 160 ca)]) (wc := [(h0, .inr (10, mob q rf n mm mb fa9 fp9 av ev wi mn tp tc sc nf fd me mp xn mt wh tq ag an ig))]) (As := [.int 7, .int x29]) (rest := []) E hB hK hZ (g_Mod_fail l g H.size h0 q rf n mm mb av ev wi mn tp tc sc nf fd me mp xn mt wh tq ag an ig fa9 fp9 7 x29 (by decide)) mc_Mod_fail mi_Mod_fail me_Mod_fail wd_1478 hP hD hS hA [0] rfl (by decide) 0 rfl rfl rfl rfl rfl (by decide) rfl hl.1 rfl (Nat.le_of_ble_eq_true rfl) (by decide) d_Mod_linkMember_242) hP hD hS hA [0] [1, 2, 3, 4, 5, 6, 7, 8, 9] rfl rfl (by decide) (by decide) (fun u31 H locs hr30 hP hD hS => ?_)
                        try dsimp only at hr30
                        have hP : va_P g.1 classes [((q 2), aI g 600 bs), ((q 14), aI g 620 tg), ((q 16), aI g 620 on), ((q 17), aI g 620 tw), ((q 27), aI g 160 fl), ((q 28), aI g 160 pl), ((q 29), aI g 160 na), ((q 30), aI g 160 ty), ((q 31), aI g 160 ca), (h0, .inr (10, mob q rf n mm mb u31.1 u31.2 av ev wi mn tp tc sc nf fd me mp xn mt wh tq ag an ig))] H := hP
                        have hD : va_D A [((q 2), aI g 600 bs), ((q 14), aI g 620 tg), ((q 16), aI g 620 on), ((q 17), aI g 620 tw), ((q 27), aI g 160 fl), ((q 28), aI g 160 pl), ((q 29), aI g 160 na), ((q 30), aI g 160 ty), ((q 31), aI g 160 ca), (h0, .inr (10, mob q rf n mm mb u31.1 u31.2 av ev wi mn tp tc sc nf fd me mp xn mt wh tq ag an ig))] := hD
                        have hP : va_P g.1 classes [(h0, .inr (10, mob q rf n mm mb u31.1 u31.2 av ev wi mn tp tc sc nf fd me mp xn mt wh tq ag an ig)), ((q 2), aI g 600 bs), ((q 14), aI g 620 tg), ((q 16), aI g 620 on), ((q 17), aI g 620 tw), ((q 27), aI g 160 fl), ((q 28), aI g 160 pl), ((q 29), aI g 160 na), ((q 30), aI g 160 ty), ((q 31), aI g 160 ca)] H := hP.sub [9, 0, 1, 2, 3, 4, 5, 6, 7, 8] rfl
                        have hD : va_D A [(h0, .inr (10, mob q rf n mm mb u31.1 u31.2 av ev wi mn tp tc sc nf fd me mp xn mt wh tq ag an ig)), ((q 2), aI g 600 bs), ((q 14), aI g 620 tg), ((q 16), aI g 620 on), ((q 17), aI g 620 tw), ((q 27), aI g 160 fl), ((q 28), aI g 160 pl), ((q 29), aI g 160 na), ((q 30), aI g 160 ty), ((q 31), aI g 160 ca)] := hD.sub [9, 0, 1, 2, 3, 4, 5, 6, 7, 8] (by decide) rfl
                        have hp31_0 := hr30
                        refine lv_iinc (k := 0) (v := nI (i + 1)) hx hb d_Mod_linkMember_245 hl rfl ((nI_succ i).symm) (by decide) rfl (fun ls hl => ?_)
                        have hl : lv_has ls 6 [(5, .int (nI (i + 1))), (4, .int (nI jt)), (3, .int (nI jn)), (2, .int 0), (0, .ref h0), (1, .int (nI mi))] := hl
                        refine lv_goto (tgt := 196) hx hb d_Mod_linkMember_248 (by decide) ?_
                        have hP : va_P g.1 classes [(h0, .inr (10, mob q rf n mm mb u31.1 u31.2 av ev wi mn tp tc sc nf fd me mp xn mt wh tq ag an ig)), ((q 2), aI g 600 bs), ((q 14), aI g 620 tg), ((q 16), aI g 620 on), ((q 17), aI g 620 tw), ((q 27), aI g 160 fl), ((q 28), aI g 160 pl), ((q 29), aI g 160 na), ((q 30), aI g 160 ty), ((q 31), aI g 160 ca)] H := hP.sub [0, 1, 2, 3, 4, 5, 6, 7, 8, 9] rfl
                        have hD : va_D A [(h0, .inr (10, mob q rf n mm mb u31.1 u31.2 av ev wi mn tp tc sc nf fd me mp xn mt wh tq ag an ig)), ((q 2), aI g 600 bs), ((q 14), aI g 620 tg), ((q 16), aI g 620 on), ((q 17), aI g 620 tw), ((q 27), aI g 160 fl), ((q 28), aI g 160 pl), ((q 29), aI g 160 na), ((q 30), aI g 160 ty), ((q 31), aI g 160 ca)] := hD.sub [0, 1, 2, 3, 4, 5, 6, 7, 8, 9] (by decide) rfl
                        exact ih _ (by omega) (i + 1) u31.1 u31.2 ls _ _ rfl (fun h => absurd h hp31_0) (by omega) (lv_sub hl [0, 1, 2, 3, 4, 5] rfl) hP hD hS
              exact loop196 _ 0 u26.1 u26.2 ls _ _ rfl (fun h => h) (by omega) (hl) hP hD hS
            · first | exact absurd h183 (by decide) | exact absurd (by decide) h183
          · first | exact absurd h89 (by decide) | exact absurd (by decide) h89
      · refine lv_aload_n hx hb d_Mod_linkMember_42 rfl (lv_at hl 1 rfl) ?_
        refine lv_bipush (v := 6) hx hb d_Mod_linkMember_43 (by decide) ?_
        refine lv_aload_n hx hb d_Mod_linkMember_45 rfl (lv_at hl 1 rfl) ?_
        refine va_get (D := g.1) (ci := 10) (v := .ref (q 28)) (C := R_Mod) (T := F_Mod) (N := 61) hx hb hts in_Mod hown hK hP 0 rfl rfl 28 (by decide) (hts _ wd_1278) (fun _ h9 => h9) rfl d_Mod_linkMember_46 ?_
        refine lv_iload_n hx hb d_Mod_linkMember_49 rfl (lv_at hl 2 rfl) ?_
        refine va_iald hx hb hK hP 6 0 rfl rfl (vp_in_nI (by omega) (by decide)) d_Mod_linkMember_50 ?_
        obtain ⟨x32, ex32⟩ : ∃ z : Int32, pl ((nI mi).toNatClampNeg) = z := ⟨_, rfl⟩
        refine tw_ri (e2 := x32) ex32 ?_
        refine tw_wv (wr := [((q 2), aI g 600 bs), ((q 14), aI g 620 tg), ((q 16), aI g 620 on), ((q 17), aI g 620 tw), ((q 27), aI g 160 fl), ((q 28), aI g 160 pl), ((q 29), aI g 160 na), ((q 30), aI g 160 ty), ((q 31), aI g 160 ca)]) (tw_runV (ws := [(h0, .inr (10, mob q rf n mm mb fa fp av ev wi mn tp tc sc nf fd me mp xn mt wh tq ag an ig)), ((q 2), aI g 600 bs), ((q 14), aI g 620 tg), ((q 16), aI g 620 on), ((q 17), aI g 620 tw), ((q 27), aI g 160 fl), ((q 28), aI g 160 pl), ((q 29), aI g 160 na), ((q 30), aI g 160 ty), ((q 31), aI g 160 ca)]) (wc := [(h0, .inr (10, mob q rf n mm mb fa fp av ev wi mn tp tc sc nf fd me mp xn mt wh tq ag an ig))]) (As := [.int 6, .int x32]) (rest := []) E hB hK hZ (g_Mod_fail l g H.size h0 q rf n mm mb av ev wi mn tp tc sc nf fd me mp xn mt wh tq ag an ig fa fp 6 x32 (by decide)) mc_Mod_fail mi_Mod_fail me_Mod_fail wd_1478 hP hD hS hA [0] rfl (by decide) 0 rfl rfl rfl rfl rfl (by decide) rfl hl.1 rfl (Nat.le_of_ble_eq_true rfl) (by decide) d_Mod_linkMember_51) hP hD hS hA [0] [1, 2, 3, 4, 5, 6, 7, 8, 9] rfl rfl (by decide) (by decide) (fun u34 H locs hr33 hP hD hS => ?_)
        try dsimp only at hr33
        have hP : va_P g.1 classes [((q 2), aI g 600 bs), ((q 14), aI g 620 tg), ((q 16), aI g 620 on), ((q 17), aI g 620 tw), ((q 27), aI g 160 fl), ((q 28), aI g 160 pl), ((q 29), aI g 160 na), ((q 30), aI g 160 ty), ((q 31), aI g 160 ca), (h0, .inr (10, mob q rf n mm mb u34.1 u34.2 av ev wi mn tp tc sc nf fd me mp xn mt wh tq ag an ig))] H := hP
        have hD : va_D A [((q 2), aI g 600 bs), ((q 14), aI g 620 tg), ((q 16), aI g 620 on), ((q 17), aI g 620 tw), ((q 27), aI g 160 fl), ((q 28), aI g 160 pl), ((q 29), aI g 160 na), ((q 30), aI g 160 ty), ((q 31), aI g 160 ca), (h0, .inr (10, mob q rf n mm mb u34.1 u34.2 av ev wi mn tp tc sc nf fd me mp xn mt wh tq ag an ig))] := hD
        have hP : va_P g.1 classes [(h0, .inr (10, mob q rf n mm mb u34.1 u34.2 av ev wi mn tp tc sc nf fd me mp xn mt wh tq ag an ig)), ((q 2), aI g 600 bs), ((q 14), aI g 620 tg), ((q 16), aI g 620 on), ((q 17), aI g 620 tw), ((q 27), aI g 160 fl), ((q 28), aI g 160 pl), ((q 29), aI g 160 na), ((q 30), aI g 160 ty), ((q 31), aI g 160 ca)] H := hP.sub [9, 0, 1, 2, 3, 4, 5, 6, 7, 8] rfl
        have hD : va_D A [(h0, .inr (10, mob q rf n mm mb u34.1 u34.2 av ev wi mn tp tc sc nf fd me mp xn mt wh tq ag an ig)), ((q 2), aI g 600 bs), ((q 14), aI g 620 tg), ((q 16), aI g 620 on), ((q 17), aI g 620 tw), ((q 27), aI g 160 fl), ((q 28), aI g 160 pl), ((q 29), aI g 160 na), ((q 30), aI g 160 ty), ((q 31), aI g 160 ca)] := hD.sub [9, 0, 1, 2, 3, 4, 5, 6, 7, 8] (by decide) rfl
        have hp34_0 := hr33
        exact tw_vret E hS (u34.1, u34.2) (⟨(fun h => absurd h hp34_0), (fun h => absurd h hp34_0)⟩) hP hD d_Mod_linkMember_54
  · refine lv_iconst (v := 1) hx hb d_Mod_linkMember_8 (by decide) ?_
    refine lv_goto (tgt := 13) hx hb d_Mod_linkMember_9 (by decide) ?_
    refine lv_istore_n hx hb d_Mod_linkMember_13 rfl hl (by decide) rfl (fun ls hl => ?_)
    have hl : lv_has ls 6 [(2, .int 1), (0, .ref h0), (1, .int (nI mi))] := hl
    refine lv_aload_n hx hb d_Mod_linkMember_14 rfl (lv_at hl 1 rfl) ?_
    refine lv_aload_n hx hb d_Mod_linkMember_15 rfl (lv_at hl 1 rfl) ?_
    refine va_get (D := g.1) (ci := 10) (v := .ref (q 29)) (C := R_Mod) (T := F_Mod) (N := 61) hx hb hts in_Mod hown hK hP 0 rfl rfl 29 (by decide) (hts _ wd_1279) (fun _ h9 => h9) rfl d_Mod_linkMember_16 ?_
    refine lv_iload_n hx hb d_Mod_linkMember_19 rfl (lv_at hl 2 rfl) ?_
    refine va_iald hx hb hK hP 7 0 rfl rfl (vp_in_nI (by omega) (by decide)) d_Mod_linkMember_20 ?_
    obtain ⟨xn2, exn2⟩ : ∃ z : Int32, na mi = z := ⟨_, rfl⟩
    refine tw_ri (e2 := xn2) (by rw [nI_clamp (by omega)]; exact exn2) ?_
    refine lv_iconst (v := 1) hx hb d_Mod_linkMember_21 (by decide) ?_
    refine tw_si (tw_runV (ws := [(h0, .inr (10, mob q rf n mm mb fa fp av ev wi mn tp tc sc nf fd me mp xn mt wh tq ag an ig)), ((q 2), aI g 600 bs), ((q 14), aI g 620 tg), ((q 16), aI g 620 on), ((q 17), aI g 620 tw), ((q 27), aI g 160 fl), ((q 28), aI g 160 pl), ((q 29), aI g 160 na), ((q 30), aI g 160 ty), ((q 31), aI g 160 ca)]) (wc := [(h0, .inr (10, mob q rf n mm mb fa fp av ev wi mn tp tc sc nf fd me mp xn mt wh tq ag an ig)), ((q 14), aI g 620 tg)]) (As := [.int xn2, .int 1]) (rest := []) E hB hK hZ (g_Mod_isTagI l g H.size h0 q rf n mm mb fa fp av ev wi mn tp tc sc nf fd me mp xn mt wh tq ag an ig tg xn2 1 (by omega)) mc_Mod_isTag mi_Mod_isTag me_Mod_isTag wd_1508 hP hD hS hA [0, 2] rfl (by decide) 0 rfl rfl rfl rfl rfl (by decide) rfl hl.1 rfl (Nat.le_of_ble_eq_true rfl) (by decide) d_Mod_linkMember_22) (fun r35 hr35 => ?_)
    have hB35 := hr35
    refine lv_if_eq (tgt := 42) hx hb d_Mod_linkMember_25 (by decide) (fun h25 => ?_) (fun h25 => ?_)
    · refine lv_aload_n hx hb d_Mod_linkMember_42 rfl (lv_at hl 1 rfl) ?_
      refine lv_bipush (v := 6) hx hb d_Mod_linkMember_43 (by decide) ?_
      refine lv_aload_n hx hb d_Mod_linkMember_45 rfl (lv_at hl 1 rfl) ?_
      refine va_get (D := g.1) (ci := 10) (v := .ref (q 28)) (C := R_Mod) (T := F_Mod) (N := 61) hx hb hts in_Mod hown hK hP 0 rfl rfl 28 (by decide) (hts _ wd_1278) (fun _ h9 => h9) rfl d_Mod_linkMember_46 ?_
      refine lv_iload_n hx hb d_Mod_linkMember_49 rfl (lv_at hl 2 rfl) ?_
      refine va_iald hx hb hK hP 6 0 rfl rfl (vp_in_nI (by omega) (by decide)) d_Mod_linkMember_50 ?_
      obtain ⟨x36, ex36⟩ : ∃ z : Int32, pl ((nI mi).toNatClampNeg) = z := ⟨_, rfl⟩
      refine tw_ri (e2 := x36) ex36 ?_
      refine tw_wv (wr := [((q 2), aI g 600 bs), ((q 14), aI g 620 tg), ((q 16), aI g 620 on), ((q 17), aI g 620 tw), ((q 27), aI g 160 fl), ((q 28), aI g 160 pl), ((q 29), aI g 160 na), ((q 30), aI g 160 ty), ((q 31), aI g 160 ca)]) (tw_runV (ws := [(h0, .inr (10, mob q rf n mm mb fa fp av ev wi mn tp tc sc nf fd me mp xn mt wh tq ag an ig)), ((q 2), aI g 600 bs), ((q 14), aI g 620 tg), ((q 16), aI g 620 on), ((q 17), aI g 620 tw), ((q 27), aI g 160 fl), ((q 28), aI g 160 pl), ((q 29), aI g 160 na), ((q 30), aI g 160 ty), ((q 31), aI g 160 ca)]) (wc := [(h0, .inr (10, mob q rf n mm mb fa fp av ev wi mn tp tc sc nf fd me mp xn mt wh tq ag an ig))]) (As := [.int 6, .int x36]) (rest := []) E hB hK hZ (g_Mod_fail l g H.size h0 q rf n mm mb av ev wi mn tp tc sc nf fd me mp xn mt wh tq ag an ig fa fp 6 x36 (by decide)) mc_Mod_fail mi_Mod_fail me_Mod_fail wd_1478 hP hD hS hA [0] rfl (by decide) 0 rfl rfl rfl rfl rfl (by decide) rfl hl.1 rfl (Nat.le_of_ble_eq_true rfl) (by decide) d_Mod_linkMember_51) hP hD hS hA [0] [1, 2, 3, 4, 5, 6, 7, 8, 9] rfl rfl (by decide) (by decide) (fun u38 H locs hr37 hP hD hS => ?_)
      try dsimp only at hr37
      have hP : va_P g.1 classes [((q 2), aI g 600 bs), ((q 14), aI g 620 tg), ((q 16), aI g 620 on), ((q 17), aI g 620 tw), ((q 27), aI g 160 fl), ((q 28), aI g 160 pl), ((q 29), aI g 160 na), ((q 30), aI g 160 ty), ((q 31), aI g 160 ca), (h0, .inr (10, mob q rf n mm mb u38.1 u38.2 av ev wi mn tp tc sc nf fd me mp xn mt wh tq ag an ig))] H := hP
      have hD : va_D A [((q 2), aI g 600 bs), ((q 14), aI g 620 tg), ((q 16), aI g 620 on), ((q 17), aI g 620 tw), ((q 27), aI g 160 fl), ((q 28), aI g 160 pl), ((q 29), aI g 160 na), ((q 30), aI g 160 ty), ((q 31), aI g 160 ca), (h0, .inr (10, mob q rf n mm mb u38.1 u38.2 av ev wi mn tp tc sc nf fd me mp xn mt wh tq ag an ig))] := hD
      have hP : va_P g.1 classes [(h0, .inr (10, mob q rf n mm mb u38.1 u38.2 av ev wi mn tp tc sc nf fd me mp xn mt wh tq ag an ig)), ((q 2), aI g 600 bs), ((q 14), aI g 620 tg), ((q 16), aI g 620 on), ((q 17), aI g 620 tw), ((q 27), aI g 160 fl), ((q 28), aI g 160 pl), ((q 29), aI g 160 na), ((q 30), aI g 160 ty), ((q 31), aI g 160 ca)] H := hP.sub [9, 0, 1, 2, 3, 4, 5, 6, 7, 8] rfl
      have hD : va_D A [(h0, .inr (10, mob q rf n mm mb u38.1 u38.2 av ev wi mn tp tc sc nf fd me mp xn mt wh tq ag an ig)), ((q 2), aI g 600 bs), ((q 14), aI g 620 tg), ((q 16), aI g 620 on), ((q 17), aI g 620 tw), ((q 27), aI g 160 fl), ((q 28), aI g 160 pl), ((q 29), aI g 160 na), ((q 30), aI g 160 ty), ((q 31), aI g 160 ca)] := hD.sub [9, 0, 1, 2, 3, 4, 5, 6, 7, 8] (by decide) rfl
      have hp38_0 := hr37
      exact tw_vret E hS (u38.1, u38.2) (⟨(fun h => absurd h hp38_0), (fun h => absurd h hp38_0)⟩) hP hD d_Mod_linkMember_54
    · have hT25 := hB35.2 (hB35.1.resolve_left h25)
      obtain ⟨jn, jn0, jn1, jne, jnt⟩ := hT25
      subst jne
      obtain ⟨pn, ln1, pna, pnb, pnc⟩ := hTX jn (by omega) jnt
      refine lv_aload_n hx hb d_Mod_linkMember_28 rfl (lv_at hl 1 rfl) ?_
      refine lv_aload_n hx hb d_Mod_linkMember_29 rfl (lv_at hl 1 rfl) ?_
      refine va_get (D := g.1) (ci := 10) (v := .ref (q 30)) (C := R_Mod) (T := F_Mod) (N := 61) hx hb hts in_Mod hown hK hP 0 rfl rfl 30 (by decide) (hts _ wd_1280) (fun _ h9 => h9) rfl d_Mod_linkMember_30 ?_
      refine lv_iload_n hx hb d_Mod_linkMember_33 rfl (lv_at hl 2 rfl) ?_
      refine va_iald hx hb hK hP 8 0 rfl rfl (vp_in_nI (by omega) (by decide)) d_Mod_linkMember_34 ?_
      obtain ⟨xt2, ext2⟩ : ∃ z : Int32, ty mi = z := ⟨_, rfl⟩
      refine tw_ri (e2 := xt2) (by rw [nI_clamp (by omega)]; exact ext2) ?_
      refine lv_iconst (v := 1) hx hb d_Mod_linkMember_35 (by decide) ?_
      refine tw_si (tw_runV (ws := [(h0, .inr (10, mob q rf n mm mb fa fp av ev wi mn tp tc sc nf fd me mp xn mt wh tq ag an ig)), ((q 2), aI g 600 bs), ((q 14), aI g 620 tg), ((q 16), aI g 620 on), ((q 17), aI g 620 tw), ((q 27), aI g 160 fl), ((q 28), aI g 160 pl), ((q 29), aI g 160 na), ((q 30), aI g 160 ty), ((q 31), aI g 160 ca)]) (wc := [(h0, .inr (10, mob q rf n mm mb fa fp av ev wi mn tp tc sc nf fd me mp xn mt wh tq ag an ig)), ((q 14), aI g 620 tg)]) (As := [.int xt2, .int 1]) (rest := []) E hB hK hZ (g_Mod_isTagI l g H.size h0 q rf n mm mb fa fp av ev wi mn tp tc sc nf fd me mp xn mt wh tq ag an ig tg xt2 1 (by omega)) mc_Mod_isTag mi_Mod_isTag me_Mod_isTag wd_1508 hP hD hS hA [0, 2] rfl (by decide) 0 rfl rfl rfl rfl rfl (by decide) rfl hl.1 rfl (Nat.le_of_ble_eq_true rfl) (by decide) d_Mod_linkMember_36) (fun r39 hr39 => ?_)
      have hB39 := hr39
      refine lv_if_ne (tgt := 55) hx hb d_Mod_linkMember_39 (by decide) (fun h39 => ?_) (fun h39 => ?_)
      · have hT39 := hB39.2 (hB39.1.resolve_left h39)
        obtain ⟨jt, jt0, jt1, jte, jtt⟩ := hT39
        subst jte
        obtain ⟨pt, lt1, pta, ptb, ptc⟩ := hTX jt (by omega) jtt
        refine lv_aload_n hx hb d_Mod_linkMember_55 rfl (lv_at hl 1 rfl) ?_
        refine va_get (D := g.1) (ci := 10) (v := .ref (q 29)) (C := R_Mod) (T := F_Mod) (N := 61) hx hb hts in_Mod hown hK hP 0 rfl rfl 29 (by decide) (hts _ wd_1279) (fun _ h9 => h9) rfl d_Mod_linkMember_56 ?_
        refine lv_iload_n hx hb d_Mod_linkMember_59 rfl (lv_at hl 2 rfl) ?_
        refine va_iald hx hb hK hP 7 0 rfl rfl (vp_in_nI (by omega) (by decide)) d_Mod_linkMember_60 ?_
        refine tw_ri (e2 := nI jn) (by rw [nI_clamp (by omega)]; exact exn2) ?_
        refine lv_istore_n hx hb d_Mod_linkMember_61 rfl hl (by decide) rfl (fun ls hl => ?_)
        have hl : lv_has ls 6 [(3, .int (nI jn)), (2, .int 1), (0, .ref h0), (1, .int (nI mi))] := hl
        refine lv_aload_n hx hb d_Mod_linkMember_62 rfl (lv_at hl 2 rfl) ?_
        refine va_get (D := g.1) (ci := 10) (v := .ref (q 30)) (C := R_Mod) (T := F_Mod) (N := 61) hx hb hts in_Mod hown hK hP 0 rfl rfl 30 (by decide) (hts _ wd_1280) (fun _ h9 => h9) rfl d_Mod_linkMember_63 ?_
        refine lv_iload_n hx hb d_Mod_linkMember_66 rfl (lv_at hl 3 rfl) ?_
        refine va_iald hx hb hK hP 8 0 rfl rfl (vp_in_nI (by omega) (by decide)) d_Mod_linkMember_67 ?_
        refine tw_ri (e2 := nI jt) (by rw [nI_clamp (by omega)]; exact ext2) ?_
        refine lv_istore hx hb d_Mod_linkMember_68 hl (by decide) rfl (fun ls hl => ?_)
        have hl : lv_has ls 6 [(4, .int (nI jt)), (3, .int (nI jn)), (2, .int 1), (0, .ref h0), (1, .int (nI mi))] := hl
        refine lv_aload_n hx hb d_Mod_linkMember_70 rfl (lv_at hl 3 rfl) ?_
        refine lv_aload_n hx hb d_Mod_linkMember_71 rfl (lv_at hl 3 rfl) ?_
        refine va_get (D := g.1) (ci := 10) (v := .ref (q 16)) (C := R_Mod) (T := F_Mod) (N := 61) hx hb hts in_Mod hown hK hP 0 rfl rfl 16 (by decide) (hts _ wd_1266) (fun _ h9 => h9) rfl d_Mod_linkMember_72 ?_
        refine lv_iload_n hx hb d_Mod_linkMember_75 rfl (lv_at hl 1 rfl) ?_
        refine va_iald hx hb hK hP 3 0 rfl rfl (vp_in_nI (by omega) (by decide)) d_Mod_linkMember_76 ?_
        refine tw_ri (e2 := nI pn) (by rw [nI_clamp (by omega)]; exact pna) ?_
        refine lv_aload_n hx hb d_Mod_linkMember_77 rfl (lv_at hl 3 rfl) ?_
        refine lv_iload_n hx hb d_Mod_linkMember_78 rfl (lv_at hl 1 rfl) ?_
        refine tw_si (tw_runV (ws := [(h0, .inr (10, mob q rf n mm mb fa fp av ev wi mn tp tc sc nf fd me mp xn mt wh tq ag an ig)), ((q 2), aI g 600 bs), ((q 14), aI g 620 tg), ((q 16), aI g 620 on), ((q 17), aI g 620 tw), ((q 27), aI g 160 fl), ((q 28), aI g 160 pl), ((q 29), aI g 160 na), ((q 30), aI g 160 ty), ((q 31), aI g 160 ca)]) (wc := [(h0, .inr (10, mob q rf n mm mb fa fp av ev wi mn tp tc sc nf fd me mp xn mt wh tq ag an ig)), ((q 16), aI g 620 on), ((q 17), aI g 620 tw)]) (As := [.int (nI jn)]) (rest := [.int (nI pn), .ref h0]) E hB hK hZ (g_Mod_endOf l g H.size h0 q rf n mm mb fa fp av ev wi mn tp tc sc nf fd me mp xn mt wh tq ag an ig on tw jn pn ln1 (by omega) pna pnb pnc) mc_Mod_endOf mi_Mod_endOf me_Mod_endOf wd_1536 hP hD hS hA [0, 3, 4] rfl (by decide) 0 rfl rfl rfl rfl rfl (by decide) rfl hl.1 rfl (Nat.le_of_ble_eq_true rfl) (by decide) d_Mod_linkMember_79) (fun r40 hr40 => ?_)
        have hB40 := hr40
        subst hB40
        refine tw_si (tw_runV (ws := [(h0, .inr (10, mob q rf n mm mb fa fp av ev wi mn tp tc sc nf fd me mp xn mt wh tq ag an ig)), ((q 2), aI g 600 bs), ((q 14), aI g 620 tg), ((q 16), aI g 620 on), ((q 17), aI g 620 tw), ((q 27), aI g 160 fl), ((q 28), aI g 160 pl), ((q 29), aI g 160 na), ((q 30), aI g 160 ty), ((q 31), aI g 160 ca)]) (wc := [(h0, .inr (10, mob q rf n mm mb fa fp av ev wi mn tp tc sc nf fd me mp xn mt wh tq ag an ig)), ((q 2), aI g 600 bs)]) (As := [.int (nI pn), .int (nI (pn + ln1))]) (rest := []) E hB hK hZ (g_Mod_isName l g H.size h0 q rf n mm mb fa fp av ev wi mn tp tc sc nf fd me mp xn mt wh tq ag an ig bs pn (pn + ln1) (by omega) (by omega)) mc_Mod_isName mi_Mod_isName me_Mod_isName wd_1544 hP hD hS hA [0, 1] rfl (by decide) 0 rfl rfl rfl rfl rfl (by decide) rfl hl.1 rfl (Nat.le_of_ble_eq_true rfl) (by decide) d_Mod_linkMember_82) (fun r41 hr41 => ?_)
        have hB41 := hr41
        refine lv_if_ne (tgt := 123) hx hb d_Mod_linkMember_85 (by decide) (fun h85 => ?_) (fun h85 => ?_)
        · refine lv_iload_n hx hb d_Mod_linkMember_123 rfl (lv_at hl 2 rfl) ?_
          refine lv_if_eq (tgt := 150) hx hb d_Mod_linkMember_124 (by decide) (fun h124 => ?_) (fun h124 => ?_)
          · first | exact absurd h124 (by decide) | exact absurd (by decide) h124
          · refine lv_aload_n hx hb d_Mod_linkMember_127 rfl (lv_at hl 3 rfl) ?_
            refine lv_aload_n hx hb d_Mod_linkMember_128 rfl (lv_at hl 3 rfl) ?_
            refine va_get (D := g.1) (ci := 10) (v := .ref (q 16)) (C := R_Mod) (T := F_Mod) (N := 61) hx hb hts in_Mod hown hK hP 0 rfl rfl 16 (by decide) (hts _ wd_1266) (fun _ h9 => h9) rfl d_Mod_linkMember_129 ?_
            refine lv_iload hx hb d_Mod_linkMember_132 (lv_at hl 0 rfl) ?_
            refine va_iald hx hb hK hP 3 0 rfl rfl (vp_in_nI (by omega) (by decide)) d_Mod_linkMember_134 ?_
            refine tw_ri (e2 := nI pt) (by rw [nI_clamp (by omega)]; exact pta) ?_
            refine lv_aload_n hx hb d_Mod_linkMember_135 rfl (lv_at hl 3 rfl) ?_
            refine lv_iload hx hb d_Mod_linkMember_136 (lv_at hl 0 rfl) ?_
            refine tw_si (tw_runV (ws := [(h0, .inr (10, mob q rf n mm mb fa fp av ev wi mn tp tc sc nf fd me mp xn mt wh tq ag an ig)), ((q 2), aI g 600 bs), ((q 14), aI g 620 tg), ((q 16), aI g 620 on), ((q 17), aI g 620 tw), ((q 27), aI g 160 fl), ((q 28), aI g 160 pl), ((q 29), aI g 160 na), ((q 30), aI g 160 ty), ((q 31), aI g 160 ca)]) (wc := [(h0, .inr (10, mob q rf n mm mb fa fp av ev wi mn tp tc sc nf fd me mp xn mt wh tq ag an ig)), ((q 16), aI g 620 on), ((q 17), aI g 620 tw)]) (As := [.int (nI jt)]) (rest := [.int (nI pt), .ref h0]) E hB hK hZ (g_Mod_endOf l g H.size h0 q rf n mm mb fa fp av ev wi mn tp tc sc nf fd me mp xn mt wh tq ag an ig on tw jt pt lt1 (by omega) pta ptb ptc) mc_Mod_endOf mi_Mod_endOf me_Mod_endOf wd_1536 hP hD hS hA [0, 3, 4] rfl (by decide) 0 rfl rfl rfl rfl rfl (by decide) rfl hl.1 rfl (Nat.le_of_ble_eq_true rfl) (by decide) d_Mod_linkMember_138) (fun r42 hr42 => ?_)
            have hB42 := hr42
            subst hB42
            refine tw_si (tw_runV (ws := [(h0, .inr (10, mob q rf n mm mb fa fp av ev wi mn tp tc sc nf fd me mp xn mt wh tq ag an ig)), ((q 2), aI g 600 bs), ((q 14), aI g 620 tg), ((q 16), aI g 620 on), ((q 17), aI g 620 tw), ((q 27), aI g 160 fl), ((q 28), aI g 160 pl), ((q 29), aI g 160 na), ((q 30), aI g 160 ty), ((q 31), aI g 160 ca)]) (wc := [(h0, .inr (10, mob q rf n mm mb fa fp av ev wi mn tp tc sc nf fd me mp xn mt wh tq ag an ig)), ((q 2), aI g 600 bs)]) (As := [.int (nI pt), .int (nI (pt + lt1))]) (rest := []) E hB hK hZ (g_Mod_isMethodType l g H.size h0 q rf n mm mb fa fp av ev wi mn tp tc sc nf fd me mp xn mt wh tq ag an ig bs pt (pt + lt1) (by omega) (by omega)) mc_Mod_isMethodType mi_Mod_isMethodType me_Mod_isMethodType wd_1563 hP hD hS hA [0, 1] rfl (by decide) 0 rfl rfl rfl rfl rfl (by decide) rfl hl.1 rfl (Nat.le_of_ble_eq_true rfl) (by decide) d_Mod_linkMember_141) (fun r43 hr43 => ?_)
            have hB43 := hr43
            refine lv_if_ne (tgt := 182) hx hb d_Mod_linkMember_144 (by decide) (fun h144 => ?_) (fun h144 => ?_)
            · have hT144 := hB43.2 (hB43.1.resolve_left h144)
              refine lv_iload_n hx hb d_Mod_linkMember_182 rfl (lv_at hl 2 rfl) ?_
              refine lv_if_eq (tgt := 193) hx hb d_Mod_linkMember_183 (by decide) (fun h183 => ?_) (fun h183 => ?_)
              · first | exact absurd h183 (by decide) | exact absurd (by decide) h183
              · refine lv_aload_n hx hb d_Mod_linkMember_186 rfl (lv_at hl 3 rfl) ?_
                refine va_get (D := g.1) (ci := 10) (v := .int (nI fd)) (C := R_Mod) (T := F_Mod) (N := 61) hx hb hts in_Mod hown hK hP 0 rfl rfl 24 (by decide) (hts _ wd_1274) (fun _ h9 => h9) rfl d_Mod_linkMember_187 ?_
                refine lv_goto (tgt := 194) hx hb d_Mod_linkMember_190 (by decide) ?_
                refine lv_istore hx hb d_Mod_linkMember_194 hl (by decide) rfl (fun ls hl => ?_)
                have hl : lv_has ls 6 [(5, .int (nI fd)), (4, .int (nI jt)), (3, .int (nI jn)), (2, .int 1), (0, .ref h0), (1, .int (nI mi))] := hl
                have loop196 : ∀ (kq : Nat) (i : Nat) (fa9 : Int32) (fp9 : Int32) (ls : Array Slot) (H : Heap) (locs : List Loc) , mi - i = kq → (hc9 : fa9 = 0 → fa = 0) → (hib : i ≤ 160) → lv_has ls 6 [(5, .int (nI i)), (4, .int (nI jt)), (3, .int (nI jn)), (2, .int 1), (0, .ref h0), (1, .int (nI mi))] → va_P g.1 classes [(h0, .inr (10, mob q rf n mm mb fa9 fp9 av ev wi mn tp tc sc nf fd me mp xn mt wh tq ag an ig)), ((q 2), aI g 600 bs), ((q 14), aI g 620 tg), ((q 16), aI g 620 on), ((q 17), aI g 620 tw), ((q 27), aI g 160 fl), ((q 28), aI g 160 pl), ((q 29), aI g 160 na), ((q 30), aI g 160 ty), ((q 31), aI g 160 ca)] H → va_D A [(h0, .inr (10, mob q rf n mm mb fa9 fp9 av ev wi mn tp tc sc nf fd me mp xn mt wh tq ag an ig)), ((q 2), aI g 600 bs), ((q 14), aI g 620 tg), ((q 16), aI g 620 on), ((q 17), aI g 620 tw), ((q 27), aI g 160 fl), ((q 28), aI g 160 pl), ((q 29), aI g 160 na), ((q 30), aI g 160 ty), ((q 31), aI g 160 ca)] → va_S A s.heap H locs → W p l e ({ frames := 6, cells := 0, slots := 0, locals := 139 }) s m [.ref h0, .int (nI mi)].toArray below meth c H locs 0 0 (MQ below (tw_Qv g (fun (u : Int32 × Int32) => (u.1 = 0 → fa = 0) ∧ (u.1 = 0 → LMB bs mn tg on tw fd na ty mi)) (fun u : Int32 × Int32 => [(h0, .inr (10, mob q rf n mm mb u.1 u.2 av ev wi mn tp tc sc nf fd me mp xn mt wh tq ag an ig)), ((q 2), aI g 600 bs), ((q 14), aI g 620 tg), ((q 16), aI g 620 on), ((q 17), aI g 620 tw), ((q 27), aI g 160 fl), ((q 28), aI g 160 pl), ((q 29), aI g 160 na), ((q 30), aI g 160 ty), ((q 31), aI g 160 ca)]) A) [.ref h0, .int (nI mi)].toArray s 0 0 A) (F0 m 196 ls []) := by
                  intro kq
                  induction kq using Nat.strongRecOn with
                  | _ kq ih =>
                    intro i fa9 fp9 ls H locs hk hc9 hib hl hP hD hS
                    refine lv_iload hx hb d_Mod_linkMember_196 (lv_at hl 0 rfl) ?_
                    refine lv_iload_n hx hb d_Mod_linkMember_198 rfl (lv_at hl 5 rfl) ?_
                    refine lv_icmp_ge (tgt := 251) hx hb d_Mod_linkMember_199 (by decide) (fun h199 => ?_) (fun h199 => ?_)
                    · refine lv_iload_n hx hb d_Mod_linkMember_251 rfl (lv_at hl 3 rfl) ?_
                      refine lv_if_eq (tgt := 302) hx hb d_Mod_linkMember_252 (by decide) (fun h252 => ?_) (fun h252 => ?_)
                      · first | exact absurd h252 (by decide) | exact absurd (by decide) h252
                      · refine lv_aload_n hx hb d_Mod_linkMember_255 rfl (lv_at hl 4 rfl) ?_
                        refine va_get (D := g.1) (ci := 10) (v := .ref (q 31)) (C := R_Mod) (T := F_Mod) (N := 61) hx hb hts in_Mod hown hK hP 0 rfl rfl 31 (by decide) (hts _ wd_1281) (fun _ h9 => h9) rfl d_Mod_linkMember_256 ?_
                        refine lv_iload_n hx hb d_Mod_linkMember_259 rfl (lv_at hl 5 rfl) ?_
                        refine va_iald hx hb hK hP 9 0 rfl rfl (vp_in_nI (by omega) (by decide)) d_Mod_linkMember_260 ?_
                        obtain ⟨x44, ex44⟩ : ∃ z : Int32, ca ((nI mi).toNatClampNeg) = z := ⟨_, rfl⟩
                        refine tw_ri (e2 := x44) ex44 ?_
                        refine lv_if_le (tgt := 268) hx hb d_Mod_linkMember_261 (by decide) (fun h261 => ?_) (fun h261 => ?_)
                        · refine lv_iconst (v := 0) hx hb d_Mod_linkMember_268 (by decide) ?_
                          refine lv_aload_n hx hb d_Mod_linkMember_269 rfl (lv_at hl 4 rfl) ?_
                          refine va_get (D := g.1) (ci := 10) (v := .ref (q 27)) (C := R_Mod) (T := F_Mod) (N := 61) hx hb hts in_Mod hown hK hP 0 rfl rfl 27 (by decide) (hts _ wd_1277) (fun _ h9 => h9) rfl d_Mod_linkMember_270 ?_
                          refine lv_iload_n hx hb d_Mod_linkMember_273 rfl (lv_at hl 5 rfl) ?_
                          refine va_iald hx hb hK hP 5 0 rfl rfl (vp_in_nI (by omega) (by decide)) d_Mod_linkMember_274 ?_
                          obtain ⟨x45, ex45⟩ : ∃ z : Int32, fl ((nI mi).toNatClampNeg) = z := ⟨_, rfl⟩
                          refine tw_ri (e2 := x45) ex45 ?_
                          refine lv_sipush (v := 1280) hx hb d_Mod_linkMember_275 (by decide) ?_
                          refine lv_iand hx hb d_Mod_linkMember_278 ?_
                          obtain ⟨x46, ex46⟩ : ∃ z : Int32, x45 &&& 1280 = z := ⟨_, rfl⟩
                          refine tw_ri (e2 := x46) ex46 ?_
                          refine lv_if_eq (tgt := 286) hx hb d_Mod_linkMember_279 (by decide) (fun h279 => ?_) (fun h279 => ?_)
                          · refine lv_iconst (v := 0) hx hb d_Mod_linkMember_286 (by decide) ?_
                            refine lv_icmp_ne (tgt := 302) hx hb d_Mod_linkMember_287 (by decide) (fun h287 => ?_) (fun h287 => ?_)
                            · exact tw_vret E hS (fa9, fp9) (⟨(fun _ => hf0), (fun hz => by have hz47 := hc9 hz; exact ⟨⟨jn, jn0, jn1, exn2, jnt⟩, ⟨jt, pt, lt1, jt0, jt1, ext2, jtt, pta, ptb, ptc, (fun _ => hT144)⟩⟩)⟩) hP hD d_Mod_linkMember_302
                            · refine lv_aload_n hx hb d_Mod_linkMember_290 rfl (lv_at hl 4 rfl) ?_
                              refine lv_bipush (v := 12) hx hb d_Mod_linkMember_291 (by decide) ?_
                              refine lv_aload_n hx hb d_Mod_linkMember_293 rfl (lv_at hl 4 rfl) ?_
                              refine va_get (D := g.1) (ci := 10) (v := .ref (q 28)) (C := R_Mod) (T := F_Mod) (N := 61) hx hb hts in_Mod hown hK hP 0 rfl rfl 28 (by decide) (hts _ wd_1278) (fun _ h9 => h9) rfl d_Mod_linkMember_294 ?_
                              refine lv_iload_n hx hb d_Mod_linkMember_297 rfl (lv_at hl 5 rfl) ?_
                              refine va_iald hx hb hK hP 6 0 rfl rfl (vp_in_nI (by omega) (by decide)) d_Mod_linkMember_298 ?_
                              obtain ⟨x48, ex48⟩ : ∃ z : Int32, pl ((nI mi).toNatClampNeg) = z := ⟨_, rfl⟩
                              refine tw_ri (e2 := x48) ex48 ?_
                              refine tw_wv (wr := [((q 2), aI g 600 bs), ((q 14), aI g 620 tg), ((q 16), aI g 620 on), ((q 17), aI g 620 tw), ((q 27), aI g 160 fl), ((q 28), aI g 160 pl), ((q 29), aI g 160 na), ((q 30), aI g 160 ty), ((q 31), aI g 160 ca)]) (tw_runV (ws := [(h0, .inr (10, mob q rf n mm mb fa9 fp9 av ev wi mn tp tc sc nf fd me mp xn mt wh tq ag an ig)), ((q 2), aI g 600 bs), ((q 14), aI g 620 tg), ((q 16), aI g 620 on), ((q 17), aI g 620 tw), ((q 27), aI g 160 fl), ((q 28), aI g 160 pl), ((q 29), aI g 160 na), ((q 30), aI g 160 ty), ((q 31), aI g 160 ca)]) (wc := [(h0, .inr (10, mob q rf n mm mb fa9 fp9 av ev wi mn tp tc sc nf fd me mp xn mt wh tq ag an ig))]) (As := [.int 12, .int x48]) (rest := []) E hB hK hZ (g_Mod_fail l g H.size h0 q rf n mm mb av ev wi mn tp tc sc nf fd me mp xn mt wh tq ag an ig fa9 fp9 12 x48 (by decide)) mc_Mod_fail mi_Mod_fail me_Mod_fail wd_1478 hP hD hS hA [0] rfl (by decide) 0 rfl rfl rfl rfl rfl (by decide) rfl hl.1 rfl (Nat.le_of_ble_eq_true rfl) (by decide) d_Mod_linkMember_299) hP hD hS hA [0] [1, 2, 3, 4, 5, 6, 7, 8, 9] rfl rfl (by decide) (by decide) (fun u50 H locs hr49 hP hD hS => ?_)
                              try dsimp only at hr49
                              have hP : va_P g.1 classes [((q 2), aI g 600 bs), ((q 14), aI g 620 tg), ((q 16), aI g 620 on), ((q 17), aI g 620 tw), ((q 27), aI g 160 fl), ((q 28), aI g 160 pl), ((q 29), aI g 160 na), ((q 30), aI g 160 ty), ((q 31), aI g 160 ca), (h0, .inr (10, mob q rf n mm mb u50.1 u50.2 av ev wi mn tp tc sc nf fd me mp xn mt wh tq ag an ig))] H := hP
                              have hD : va_D A [((q 2), aI g 600 bs), ((q 14), aI g 620 tg), ((q 16), aI g 620 on), ((q 17), aI g 620 tw), ((q 27), aI g 160 fl), ((q 28), aI g 160 pl), ((q 29), aI g 160 na), ((q 30), aI g 160 ty), ((q 31), aI g 160 ca), (h0, .inr (10, mob q rf n mm mb u50.1 u50.2 av ev wi mn tp tc sc nf fd me mp xn mt wh tq ag an ig))] := hD
                              have hP : va_P g.1 classes [(h0, .inr (10, mob q rf n mm mb u50.1 u50.2 av ev wi mn tp tc sc nf fd me mp xn mt wh tq ag an ig)), ((q 2), aI g 600 bs), ((q 14), aI g 620 tg), ((q 16), aI g 620 on), ((q 17), aI g 620 tw), ((q 27), aI g 160 fl), ((q 28), aI g 160 pl), ((q 29), aI g 160 na), ((q 30), aI g 160 ty), ((q 31), aI g 160 ca)] H := hP.sub [9, 0, 1, 2, 3, 4, 5, 6, 7, 8] rfl
                              have hD : va_D A [(h0, .inr (10, mob q rf n mm mb u50.1 u50.2 av ev wi mn tp tc sc nf fd me mp xn mt wh tq ag an ig)), ((q 2), aI g 600 bs), ((q 14), aI g 620 tg), ((q 16), aI g 620 on), ((q 17), aI g 620 tw), ((q 27), aI g 160 fl), ((q 28), aI g 160 pl), ((q 29), aI g 160 na), ((q 30), aI g 160 ty), ((q 31), aI g 160 ca)] := hD.sub [9, 0, 1, 2, 3, 4, 5, 6, 7, 8] (by decide) rfl
                              have hp50_0 := hr49
                              exact tw_vret E hS (u50.1, u50.2) (⟨(fun h => absurd h hp50_0), (fun h => absurd h hp50_0)⟩) hP hD d_Mod_linkMember_302
                          · refine lv_iconst (v := 1) hx hb d_Mod_linkMember_282 (by decide) ?_
                            refine lv_goto (tgt := 287) hx hb d_Mod_linkMember_283 (by decide) ?_
                            refine lv_icmp_ne (tgt := 302) hx hb d_Mod_linkMember_287 (by decide) (fun h287 => ?_) (fun h287 => ?_)
                            · exact tw_vret E hS (fa9, fp9) (⟨(fun _ => hf0), (fun hz => by have hz51 := hc9 hz; exact ⟨⟨jn, jn0, jn1, exn2, jnt⟩, ⟨jt, pt, lt1, jt0, jt1, ext2, jtt, pta, ptb, ptc, (fun _ => hT144)⟩⟩)⟩) hP hD d_Mod_linkMember_302
                            · refine lv_aload_n hx hb d_Mod_linkMember_290 rfl (lv_at hl 4 rfl) ?_
                              refine lv_bipush (v := 12) hx hb d_Mod_linkMember_291 (by decide) ?_
                              refine lv_aload_n hx hb d_Mod_linkMember_293 rfl (lv_at hl 4 rfl) ?_
                              refine va_get (D := g.1) (ci := 10) (v := .ref (q 28)) (C := R_Mod) (T := F_Mod) (N := 61) hx hb hts in_Mod hown hK hP 0 rfl rfl 28 (by decide) (hts _ wd_1278) (fun _ h9 => h9) rfl d_Mod_linkMember_294 ?_
                              refine lv_iload_n hx hb d_Mod_linkMember_297 rfl (lv_at hl 5 rfl) ?_
                              refine va_iald hx hb hK hP 6 0 rfl rfl (vp_in_nI (by omega) (by decide)) d_Mod_linkMember_298 ?_
                              obtain ⟨x52, ex52⟩ : ∃ z : Int32, pl ((nI mi).toNatClampNeg) = z := ⟨_, rfl⟩
                              refine tw_ri (e2 := x52) ex52 ?_
                              refine tw_wv (wr := [((q 2), aI g 600 bs), ((q 14), aI g 620 tg), ((q 16), aI g 620 on), ((q 17), aI g 620 tw), ((q 27), aI g 160 fl), ((q 28), aI g 160 pl), ((q 29), aI g 160 na), ((q 30), aI g 160 ty), ((q 31), aI g 160 ca)]) (tw_runV (ws := [(h0, .inr (10, mob q rf n mm mb fa9 fp9 av ev wi mn tp tc sc nf fd me mp xn mt wh tq ag an ig)), ((q 2), aI g 600 bs), ((q 14), aI g 620 tg), ((q 16), aI g 620 on), ((q 17), aI g 620 tw), ((q 27), aI g 160 fl), ((q 28), aI g 160 pl), ((q 29), aI g 160 na), ((q 30), aI g 160 ty), ((q 31), aI g 160 ca)]) (wc := [(h0, .inr (10, mob q rf n mm mb fa9 fp9 av ev wi mn tp tc sc nf fd me mp xn mt wh tq ag an ig))]) (As := [.int 12, .int x52]) (rest := []) E hB hK hZ (g_Mod_fail l g H.size h0 q rf n mm mb av ev wi mn tp tc sc nf fd me mp xn mt wh tq ag an ig fa9 fp9 12 x52 (by decide)) mc_Mod_fail mi_Mod_fail me_Mod_fail wd_1478 hP hD hS hA [0] rfl (by decide) 0 rfl rfl rfl rfl rfl (by decide) rfl hl.1 rfl (Nat.le_of_ble_eq_true rfl) (by decide) d_Mod_linkMember_299) hP hD hS hA [0] [1, 2, 3, 4, 5, 6, 7, 8, 9] rfl rfl (by decide) (by decide) (fun u54 H locs hr53 hP hD hS => ?_)
                              try dsimp only at hr53
                              have hP : va_P g.1 classes [((q 2), aI g 600 bs), ((q 14), aI g 620 tg), ((q 16), aI g 620 on), ((q 17), aI g 620 tw), ((q 27), aI g 160 fl), ((q 28), aI g 160 pl), ((q 29), aI g 160 na), ((q 30), aI g 160 ty), ((q 31), aI g 160 ca), (h0, .inr (10, mob q rf n mm mb u54.1 u54.2 av ev wi mn tp tc sc nf fd me mp xn mt wh tq ag an ig))] H := hP
                              have hD : va_D A [((q 2), aI g 600 bs), ((q 14), aI g 620 tg), ((q 16), aI g 620 on), ((q 17), aI g 620 tw), ((q 27), aI g 160 fl), ((q 28), aI g 160 pl), ((q 29), aI g 160 na), ((q 30), aI g 160 ty), ((q 31), aI g 160 ca), (h0, .inr (10, mob q rf n mm mb u54.1 u54.2 av ev wi mn tp tc sc nf fd me mp xn mt wh tq ag an ig))] := hD
                              have hP : va_P g.1 classes [(h0, .inr (10, mob q rf n mm mb u54.1 u54.2 av ev wi mn tp tc sc nf fd me mp xn mt wh tq ag an ig)), ((q 2), aI g 600 bs), ((q 14), aI g 620 tg), ((q 16), aI g 620 on), ((q 17), aI g 620 tw), ((q 27), aI g 160 fl), ((q 28), aI g 160 pl), ((q 29), aI g 160 na), ((q 30), aI g 160 ty), ((q 31), aI g 160 ca)] H := hP.sub [9, 0, 1, 2, 3, 4, 5, 6, 7, 8] rfl
                              have hD : va_D A [(h0, .inr (10, mob q rf n mm mb u54.1 u54.2 av ev wi mn tp tc sc nf fd me mp xn mt wh tq ag an ig)), ((q 2), aI g 600 bs), ((q 14), aI g 620 tg), ((q 16), aI g 620 on), ((q 17), aI g 620 tw), ((q 27), aI g 160 fl), ((q 28), aI g 160 pl), ((q 29), aI g 160 na), ((q 30), aI g 160 ty), ((q 31), aI g 160 ca)] := hD.sub [9, 0, 1, 2, 3, 4, 5, 6, 7, 8] (by decide) rfl
                              have hp54_0 := hr53
                              exact tw_vret E hS (u54.1, u54.2) (⟨(fun h => absurd h hp54_0), (fun h => absurd h hp54_0)⟩) hP hD d_Mod_linkMember_302
                        · refine lv_iconst (v := 1) hx hb d_Mod_linkMember_264 (by decide) ?_
                          refine lv_goto (tgt := 269) hx hb d_Mod_linkMember_265 (by decide) ?_
                          refine lv_aload_n hx hb d_Mod_linkMember_269 rfl (lv_at hl 4 rfl) ?_
                          refine va_get (D := g.1) (ci := 10) (v := .ref (q 27)) (C := R_Mod) (T := F_Mod) (N := 61) hx hb hts in_Mod hown hK hP 0 rfl rfl 27 (by decide) (hts _ wd_1277) (fun _ h9 => h9) rfl d_Mod_linkMember_270 ?_
                          refine lv_iload_n hx hb d_Mod_linkMember_273 rfl (lv_at hl 5 rfl) ?_
                          refine va_iald hx hb hK hP 5 0 rfl rfl (vp_in_nI (by omega) (by decide)) d_Mod_linkMember_274 ?_
                          obtain ⟨x55, ex55⟩ : ∃ z : Int32, fl ((nI mi).toNatClampNeg) = z := ⟨_, rfl⟩
                          refine tw_ri (e2 := x55) ex55 ?_
                          refine lv_sipush (v := 1280) hx hb d_Mod_linkMember_275 (by decide) ?_
                          refine lv_iand hx hb d_Mod_linkMember_278 ?_
                          obtain ⟨x56, ex56⟩ : ∃ z : Int32, x55 &&& 1280 = z := ⟨_, rfl⟩
                          refine tw_ri (e2 := x56) ex56 ?_
                          refine lv_if_eq (tgt := 286) hx hb d_Mod_linkMember_279 (by decide) (fun h279 => ?_) (fun h279 => ?_)
                          · refine lv_iconst (v := 0) hx hb d_Mod_linkMember_286 (by decide) ?_
                            refine lv_icmp_ne (tgt := 302) hx hb d_Mod_linkMember_287 (by decide) (fun h287 => ?_) (fun h287 => ?_)
                            · exact tw_vret E hS (fa9, fp9) (⟨(fun _ => hf0), (fun hz => by have hz57 := hc9 hz; exact ⟨⟨jn, jn0, jn1, exn2, jnt⟩, ⟨jt, pt, lt1, jt0, jt1, ext2, jtt, pta, ptb, ptc, (fun _ => hT144)⟩⟩)⟩) hP hD d_Mod_linkMember_302
                            · refine lv_aload_n hx hb d_Mod_linkMember_290 rfl (lv_at hl 4 rfl) ?_
                              refine lv_bipush (v := 12) hx hb d_Mod_linkMember_291 (by decide) ?_
                              refine lv_aload_n hx hb d_Mod_linkMember_293 rfl (lv_at hl 4 rfl) ?_
                              refine va_get (D := g.1) (ci := 10) (v := .ref (q 28)) (C := R_Mod) (T := F_Mod) (N := 61) hx hb hts in_Mod hown hK hP 0 rfl rfl 28 (by decide) (hts _ wd_1278) (fun _ h9 => h9) rfl d_Mod_linkMember_294 ?_
                              refine lv_iload_n hx hb d_Mod_linkMember_297 rfl (lv_at hl 5 rfl) ?_
                              refine va_iald hx hb hK hP 6 0 rfl rfl (vp_in_nI (by omega) (by decide)) d_Mod_linkMember_298 ?_
                              obtain ⟨x58, ex58⟩ : ∃ z : Int32, pl ((nI mi).toNatClampNeg) = z := ⟨_, rfl⟩
                              refine tw_ri (e2 := x58) ex58 ?_
                              refine tw_wv (wr := [((q 2), aI g 600 bs), ((q 14), aI g 620 tg), ((q 16), aI g 620 on), ((q 17), aI g 620 tw), ((q 27), aI g 160 fl), ((q 28), aI g 160 pl), ((q 29), aI g 160 na), ((q 30), aI g 160 ty), ((q 31), aI g 160 ca)]) (tw_runV (ws := [(h0, .inr (10, mob q rf n mm mb fa9 fp9 av ev wi mn tp tc sc nf fd me mp xn mt wh tq ag an ig)), ((q 2), aI g 600 bs), ((q 14), aI g 620 tg), ((q 16), aI g 620 on), ((q 17), aI g 620 tw), ((q 27), aI g 160 fl), ((q 28), aI g 160 pl), ((q 29), aI g 160 na), ((q 30), aI g 160 ty), ((q 31), aI g 160 ca)]) (wc := [(h0, .inr (10, mob q rf n mm mb fa9 fp9 av ev wi mn tp tc sc nf fd me mp xn mt wh tq ag an ig))]) (As := [.int 12, .int x58]) (rest := []) E hB hK hZ (g_Mod_fail l g H.size h0 q rf n mm mb av ev wi mn tp tc sc nf fd me mp xn mt wh tq ag an ig fa9 fp9 12 x58 (by decide)) mc_Mod_fail mi_Mod_fail me_Mod_fail wd_1478 hP hD hS hA [0] rfl (by decide) 0 rfl rfl rfl rfl rfl (by decide) rfl hl.1 rfl (Nat.le_of_ble_eq_true rfl) (by decide) d_Mod_linkMember_299) hP hD hS hA [0] [1, 2, 3, 4, 5, 6, 7, 8, 9] rfl rfl (by decide) (by decide) (fun u60 H locs hr59 hP hD hS => ?_)
                              try dsimp only at hr59
                              have hP : va_P g.1 classes [((q 2), aI g 600 bs), ((q 14), aI g 620 tg), ((q 16), aI g 620 on), ((q 17), aI g 620 tw), ((q 27), aI g 160 fl), ((q 28), aI g 160 pl), ((q 29), aI g 160 na), ((q 30), aI g 160 ty), ((q 31), aI g 160 ca), (h0, .inr (10, mob q rf n mm mb u60.1 u60.2 av ev wi mn tp tc sc nf fd me mp xn mt wh tq ag an ig))] H := hP
                              have hD : va_D A [((q 2), aI g 600 bs), ((q 14), aI g 620 tg), ((q 16), aI g 620 on), ((q 17), aI g 620 tw), ((q 27), aI g 160 fl), ((q 28), aI g 160 pl), ((q 29), aI g 160 na), ((q 30), aI g 160 ty), ((q 31), aI g 160 ca), (h0, .inr (10, mob q rf n mm mb u60.1 u60.2 av ev wi mn tp tc sc nf fd me mp xn mt wh tq ag an ig))] := hD
                              have hP : va_P g.1 classes [(h0, .inr (10, mob q rf n mm mb u60.1 u60.2 av ev wi mn tp tc sc nf fd me mp xn mt wh tq ag an ig)), ((q 2), aI g 600 bs), ((q 14), aI g 620 tg), ((q 16), aI g 620 on), ((q 17), aI g 620 tw), ((q 27), aI g 160 fl), ((q 28), aI g 160 pl), ((q 29), aI g 160 na), ((q 30), aI g 160 ty), ((q 31), aI g 160 ca)] H := hP.sub [9, 0, 1, 2, 3, 4, 5, 6, 7, 8] rfl
                              have hD : va_D A [(h0, .inr (10, mob q rf n mm mb u60.1 u60.2 av ev wi mn tp tc sc nf fd me mp xn mt wh tq ag an ig)), ((q 2), aI g 600 bs), ((q 14), aI g 620 tg), ((q 16), aI g 620 on), ((q 17), aI g 620 tw), ((q 27), aI g 160 fl), ((q 28), aI g 160 pl), ((q 29), aI g 160 na), ((q 30), aI g 160 ty), ((q 31), aI g 160 ca)] := hD.sub [9, 0, 1, 2, 3, 4, 5, 6, 7, 8] (by decide) rfl
                              have hp60_0 := hr59
                              exact tw_vret E hS (u60.1, u60.2) (⟨(fun h => absurd h hp60_0), (fun h => absurd h hp60_0)⟩) hP hD d_Mod_linkMember_302
                          · refine lv_iconst (v := 1) hx hb d_Mod_linkMember_282 (by decide) ?_
                            refine lv_goto (tgt := 287) hx hb d_Mod_linkMember_283 (by decide) ?_
                            refine lv_icmp_ne (tgt := 302) hx hb d_Mod_linkMember_287 (by decide) (fun h287 => ?_) (fun h287 => ?_)
                            · exact tw_vret E hS (fa9, fp9) (⟨(fun _ => hf0), (fun hz => by have hz61 := hc9 hz; exact ⟨⟨jn, jn0, jn1, exn2, jnt⟩, ⟨jt, pt, lt1, jt0, jt1, ext2, jtt, pta, ptb, ptc, (fun _ => hT144)⟩⟩)⟩) hP hD d_Mod_linkMember_302
                            · refine lv_aload_n hx hb d_Mod_linkMember_290 rfl (lv_at hl 4 rfl) ?_
                              refine lv_bipush (v := 12) hx hb d_Mod_linkMember_291 (by decide) ?_
                              refine lv_aload_n hx hb d_Mod_linkMember_293 rfl (lv_at hl 4 rfl) ?_
                              refine va_get (D := g.1) (ci := 10) (v := .ref (q 28)) (C := R_Mod) (T := F_Mod) (N := 61) hx hb hts in_Mod hown hK hP 0 rfl rfl 28 (by decide) (hts _ wd_1278) (fun _ h9 => h9) rfl d_Mod_linkMember_294 ?_
                              refine lv_iload_n hx hb d_Mod_linkMember_297 rfl (lv_at hl 5 rfl) ?_
                              refine va_iald hx hb hK hP 6 0 rfl rfl (vp_in_nI (by omega) (by decide)) d_Mod_linkMember_298 ?_
                              obtain ⟨x62, ex62⟩ : ∃ z : Int32, pl ((nI mi).toNatClampNeg) = z := ⟨_, rfl⟩
                              refine tw_ri (e2 := x62) ex62 ?_
                              refine tw_wv (wr := [((q 2), aI g 600 bs), ((q 14), aI g 620 tg), ((q 16), aI g 620 on), ((q 17), aI g 620 tw), ((q 27), aI g 160 fl), ((q 28), aI g 160 pl), ((q 29), aI g 160 na), ((q 30), aI g 160 ty), ((q 31), aI g 160 ca)]) (tw_runV (ws := [(h0, .inr (10, mob q rf n mm mb fa9 fp9 av ev wi mn tp tc sc nf fd me mp xn mt wh tq ag an ig)), ((q 2), aI g 600 bs), ((q 14), aI g 620 tg), ((q 16), aI g 620 on), ((q 17), aI g 620 tw), ((q 27), aI g 160 fl), ((q 28), aI g 160 pl), ((q 29), aI g 160 na), ((q 30), aI g 160 ty), ((q 31), aI g 160 ca)]) (wc := [(h0, .inr (10, mob q rf n mm mb fa9 fp9 av ev wi mn tp tc sc nf fd me mp xn mt wh tq ag an ig))]) (As := [.int 12, .int x62]) (rest := []) E hB hK hZ (g_Mod_fail l g H.size h0 q rf n mm mb av ev wi mn tp tc sc nf fd me mp xn mt wh tq ag an ig fa9 fp9 12 x62 (by decide)) mc_Mod_fail mi_Mod_fail me_Mod_fail wd_1478 hP hD hS hA [0] rfl (by decide) 0 rfl rfl rfl rfl rfl (by decide) rfl hl.1 rfl (Nat.le_of_ble_eq_true rfl) (by decide) d_Mod_linkMember_299) hP hD hS hA [0] [1, 2, 3, 4, 5, 6, 7, 8, 9] rfl rfl (by decide) (by decide) (fun u64 H locs hr63 hP hD hS => ?_)
                              try dsimp only at hr63
                              have hP : va_P g.1 classes [((q 2), aI g 600 bs), ((q 14), aI g 620 tg), ((q 16), aI g 620 on), ((q 17), aI g 620 tw), ((q 27), aI g 160 fl), ((q 28), aI g 160 pl), ((q 29), aI g 160 na), ((q 30), aI g 160 ty), ((q 31), aI g 160 ca), (h0, .inr (10, mob q rf n mm mb u64.1 u64.2 av ev wi mn tp tc sc nf fd me mp xn mt wh tq ag an ig))] H := hP
                              have hD : va_D A [((q 2), aI g 600 bs), ((q 14), aI g 620 tg), ((q 16), aI g 620 on), ((q 17), aI g 620 tw), ((q 27), aI g 160 fl), ((q 28), aI g 160 pl), ((q 29), aI g 160 na), ((q 30), aI g 160 ty), ((q 31), aI g 160 ca), (h0, .inr (10, mob q rf n mm mb u64.1 u64.2 av ev wi mn tp tc sc nf fd me mp xn mt wh tq ag an ig))] := hD
                              have hP : va_P g.1 classes [(h0, .inr (10, mob q rf n mm mb u64.1 u64.2 av ev wi mn tp tc sc nf fd me mp xn mt wh tq ag an ig)), ((q 2), aI g 600 bs), ((q 14), aI g 620 tg), ((q 16), aI g 620 on), ((q 17), aI g 620 tw), ((q 27), aI g 160 fl), ((q 28), aI g 160 pl), ((q 29), aI g 160 na), ((q 30), aI g 160 ty), ((q 31), aI g 160 ca)] H := hP.sub [9, 0, 1, 2, 3, 4, 5, 6, 7, 8] rfl
                              have hD : va_D A [(h0, .inr (10, mob q rf n mm mb u64.1 u64.2 av ev wi mn tp tc sc nf fd me mp xn mt wh tq ag an ig)), ((q 2), aI g 600 bs), ((q 14), aI g 620 tg), ((q 16), aI g 620 on), ((q 17), aI g 620 tw), ((q 27), aI g 160 fl), ((q 28), aI g 160 pl), ((q 29), aI g 160 na), ((q 30), aI g 160 ty), ((q 31), aI g 160 ca)] := hD.sub [9, 0, 1, 2, 3, 4, 5, 6, 7, 8] (by decide) rfl
                              have hp64_0 := hr63
                              exact tw_vret E hS (u64.1, u64.2) (⟨(fun h => absurd h hp64_0), (fun h => absurd h hp64_0)⟩) hP hD d_Mod_linkMember_302
                    · have h199 := tn_nle h199 (by omega) (by omega)
                      obtain ⟨⟨i1, u0, u1, u2, ut⟩, ⟨i2, pi2, li2, v0, v1, v2, vt, v3, v4, v5, v6⟩⟩ := hLM i h199
                      obtain ⟨pi1, li1, u3, u4, u5⟩ := hTX i1 (by omega) ut
                      refine lv_aload_n hx hb d_Mod_linkMember_202 rfl (lv_at hl 4 rfl) ?_
                      refine lv_aload_n hx hb d_Mod_linkMember_203 rfl (lv_at hl 4 rfl) ?_
                      refine va_get (D := g.1) (ci := 10) (v := .ref (q 29)) (C := R_Mod) (T := F_Mod) (N := 61) hx hb hts in_Mod hown hK hP 0 rfl rfl 29 (by decide) (hts _ wd_1279) (fun _ h9 => h9) rfl d_Mod_linkMember_204 ?_
                      refine lv_iload hx hb d_Mod_linkMember_207 (lv_at hl 0 rfl) ?_
                      refine va_iald hx hb hK hP 7 0 rfl rfl (vp_in_nI (by omega) (by decide)) d_Mod_linkMember_209 ?_
                      refine tw_ri (e2 := nI i1) (by rw [nI_clamp (by omega)]; exact u2) ?_
                      refine lv_iload_n hx hb d_Mod_linkMember_210 rfl (lv_at hl 2 rfl) ?_
                      refine tw_si (tw_runV (ws := [(h0, .inr (10, mob q rf n mm mb fa9 fp9 av ev wi mn tp tc sc nf fd me mp xn mt wh tq ag an ig)), ((q 2), aI g 600 bs), ((q 14), aI g 620 tg), ((q 16), aI g 620 on), ((q 17), aI g 620 tw), ((q 27), aI g 160 fl), ((q 28), aI g 160 pl), ((q 29), aI g 160 na), ((q 30), aI g 160 ty), ((q 31), aI g 160 ca)]) (wc := [(h0, .inr (10, mob q rf n mm mb fa9 fp9 av ev wi mn tp tc sc nf fd me mp xn mt wh tq ag an ig)), ((q 2), aI g 600 bs), ((q 16), aI g 620 on), ((q 17), aI g 620 tw)]) (As := [.int (nI i1), .int (nI jn)]) (rest := []) E hB hK hZ (g_Mod_sameTexts l g H.size h0 q rf n mm mb fa9 fp9 av ev wi mn tp tc sc nf fd me mp xn mt wh tq ag an ig bs on tw i1 jn pi1 li1 pn ln1 (by omega) u3 u4 u5 (by omega) pna pnb pnc) mc_Mod_sameTexts mi_Mod_sameTexts me_Mod_sameTexts wd_1579 hP hD hS hA [0, 1, 3, 4] rfl (by decide) 0 rfl rfl rfl rfl rfl (by decide) rfl hl.1 rfl (Nat.le_of_ble_eq_true rfl) (by decide) d_Mod_linkMember_211) (fun r65 hr65 => ?_)
                      have hB65 := hr65
                      refine lv_if_eq (tgt := 245) hx hb d_Mod_linkMember_214 (by decide) (fun h214 => ?_) (fun h214 => ?_)
                      · refine lv_iinc (k := 0) (v := nI (i + 1)) hx hb d_Mod_linkMember_245 hl rfl ((nI_succ i).symm) (by decide) rfl (fun ls hl => ?_)
                        have hl : lv_has ls 6 [(5, .int (nI (i + 1))), (4, .int (nI jt)), (3, .int (nI jn)), (2, .int 1), (0, .ref h0), (1, .int (nI mi))] := hl
                        refine lv_goto (tgt := 196) hx hb d_Mod_linkMember_248 (by decide) ?_
                        have hP : va_P g.1 classes [(h0, .inr (10, mob q rf n mm mb fa9 fp9 av ev wi mn tp tc sc nf fd me mp xn mt wh tq ag an ig)), ((q 2), aI g 600 bs), ((q 14), aI g 620 tg), ((q 16), aI g 620 on), ((q 17), aI g 620 tw), ((q 27), aI g 160 fl), ((q 28), aI g 160 pl), ((q 29), aI g 160 na), ((q 30), aI g 160 ty), ((q 31), aI g 160 ca)] H := hP.sub [0, 1, 2, 3, 4, 5, 6, 7, 8, 9] rfl
                        have hD : va_D A [(h0, .inr (10, mob q rf n mm mb fa9 fp9 av ev wi mn tp tc sc nf fd me mp xn mt wh tq ag an ig)), ((q 2), aI g 600 bs), ((q 14), aI g 620 tg), ((q 16), aI g 620 on), ((q 17), aI g 620 tw), ((q 27), aI g 160 fl), ((q 28), aI g 160 pl), ((q 29), aI g 160 na), ((q 30), aI g 160 ty), ((q 31), aI g 160 ca)] := hD.sub [0, 1, 2, 3, 4, 5, 6, 7, 8, 9] (by decide) rfl
                        exact ih _ (by omega) (i + 1) fa9 fp9 ls _ _ rfl (fun _ => hf0) (by omega) (lv_sub hl [0, 1, 2, 3, 4, 5] rfl) hP hD hS
                      · refine lv_aload_n hx hb d_Mod_linkMember_217 rfl (lv_at hl 4 rfl) ?_
                        refine lv_aload_n hx hb d_Mod_linkMember_218 rfl (lv_at hl 4 rfl) ?_
                        refine va_get (D := g.1) (ci := 10) (v := .ref (q 30)) (C := R_Mod) (T := F_Mod) (N := 61) hx hb hts in_Mod hown hK hP 0 rfl rfl 30 (by decide) (hts _ wd_1280) (fun _ h9 => h9) rfl d_Mod_linkMember_219 ?_
                        refine lv_iload hx hb d_Mod_linkMember_222 (lv_at hl 0 rfl) ?_
                        refine va_iald hx hb hK hP 8 0 rfl rfl (vp_in_nI (by omega) (by decide)) d_Mod_linkMember_224 ?_
                        refine tw_ri (e2 := nI i2) (by rw [nI_clamp (by omega)]; exact v2) ?_
                        refine lv_iload hx hb d_Mod_linkMember_225 (lv_at hl 1 rfl) ?_
                        refine tw_si (tw_runV (ws := [(h0, .inr (10, mob q rf n mm mb fa9 fp9 av ev wi mn tp tc sc nf fd me mp xn mt wh tq ag an ig)), ((q 2), aI g 600 bs), ((q 14), aI g 620 tg), ((q 16), aI g 620 on), ((q 17), aI g 620 tw), ((q 27), aI g 160 fl), ((q 28), aI g 160 pl), ((q 29), aI g 160 na), ((q 30), aI g 160 ty), ((q 31), aI g 160 ca)]) (wc := [(h0, .inr (10, mob q rf n mm mb fa9 fp9 av ev wi mn tp tc sc nf fd me mp xn mt wh tq ag an ig)), ((q 2), aI g 600 bs), ((q 16), aI g 620 on), ((q 17), aI g 620 tw)]) (As := [.int (nI i2), .int (nI jt)]) (rest := []) E hB hK hZ (g_Mod_sameTexts l g H.size h0 q rf n mm mb fa9 fp9 av ev wi mn tp tc sc nf fd me mp xn mt wh tq ag an ig bs on tw i2 jt pi2 li2 pt lt1 (by omega) v3 v4 v5 (by omega) pta ptb ptc) mc_Mod_sameTexts mi_Mod_sameTexts me_Mod_sameTexts wd_1579 hP hD hS hA [0, 1, 3, 4] rfl (by decide) 0 rfl rfl rfl rfl rfl (by decide) rfl hl.1 rfl (Nat.le_of_ble_eq_true rfl) (by decide) d_Mod_linkMember_227) (fun r66 hr66 => ?_)
                        have hB66 := hr66
                        refine lv_if_eq (tgt := 245) hx hb d_Mod_linkMember_230 (by decide) (fun h230 => ?_) (fun h230 => ?_)
                        · refine lv_iinc (k := 0) (v := nI (i + 1)) hx hb d_Mod_linkMember_245 hl rfl ((nI_succ i).symm) (by decide) rfl (fun ls hl => ?_)
                          have hl : lv_has ls 6 [(5, .int (nI (i + 1))), (4, .int (nI jt)), (3, .int (nI jn)), (2, .int 1), (0, .ref h0), (1, .int (nI mi))] := hl
                          refine lv_goto (tgt := 196) hx hb d_Mod_linkMember_248 (by decide) ?_
                          have hP : va_P g.1 classes [(h0, .inr (10, mob q rf n mm mb fa9 fp9 av ev wi mn tp tc sc nf fd me mp xn mt wh tq ag an ig)), ((q 2), aI g 600 bs), ((q 14), aI g 620 tg), ((q 16), aI g 620 on), ((q 17), aI g 620 tw), ((q 27), aI g 160 fl), ((q 28), aI g 160 pl), ((q 29), aI g 160 na), ((q 30), aI g 160 ty), ((q 31), aI g 160 ca)] H := hP.sub [0, 1, 2, 3, 4, 5, 6, 7, 8, 9] rfl
                          have hD : va_D A [(h0, .inr (10, mob q rf n mm mb fa9 fp9 av ev wi mn tp tc sc nf fd me mp xn mt wh tq ag an ig)), ((q 2), aI g 600 bs), ((q 14), aI g 620 tg), ((q 16), aI g 620 on), ((q 17), aI g 620 tw), ((q 27), aI g 160 fl), ((q 28), aI g 160 pl), ((q 29), aI g 160 na), ((q 30), aI g 160 ty), ((q 31), aI g 160 ca)] := hD.sub [0, 1, 2, 3, 4, 5, 6, 7, 8, 9] (by decide) rfl
                          exact ih _ (by omega) (i + 1) fa9 fp9 ls _ _ rfl (fun _ => hf0) (by omega) (lv_sub hl [0, 1, 2, 3, 4, 5] rfl) hP hD hS
                        · refine lv_aload_n hx hb d_Mod_linkMember_233 rfl (lv_at hl 4 rfl) ?_
                          refine lv_bipush (v := 7) hx hb d_Mod_linkMember_234 (by decide) ?_
                          refine lv_aload_n hx hb d_Mod_linkMember_236 rfl (lv_at hl 4 rfl) ?_
                          refine va_get (D := g.1) (ci := 10) (v := .ref (q 28)) (C := R_Mod) (T := F_Mod) (N := 61) hx hb hts in_Mod hown hK hP 0 rfl rfl 28 (by decide) (hts _ wd_1278) (fun _ h9 => h9) rfl d_Mod_linkMember_237 ?_
                          refine lv_iload_n hx hb d_Mod_linkMember_240 rfl (lv_at hl 5 rfl) ?_
                          refine va_iald hx hb hK hP 6 0 rfl rfl (vp_in_nI (by omega) (by decide)) d_Mod_linkMember_241 ?_
                          obtain ⟨x67, ex67⟩ : ∃ z : Int32, pl ((nI mi).toNatClampNeg) = z := ⟨_, rfl⟩
                          refine tw_ri (e2 := x67) ex67 ?_
                          refine tw_wv (wr := [((q 2), aI g 600 bs), ((q 14), aI g 620 tg), ((q 16), aI g 620 on), ((q 17), aI g 620 tw), ((q 27), aI g 160 fl), ((q 28), aI g 160 pl), ((q 29), aI g 160 na), ((q 30), aI g 160 ty), ((q 31), aI g 160 ca)]) (tw_runV (ws := [(h0, .inr (10, mob q rf n mm mb fa9 fp9 av ev wi mn tp tc sc nf fd me mp xn mt wh tq ag an ig)), ((q 2), aI g 600 bs), ((q 14), aI g 620 tg), ((q 16), aI g 620 on), ((q 17), aI g 620 tw), ((q 27), aI g 160 fl), ((q 28), aI g 160 pl), ((q 29), aI g 160 na), ((q 30), aI g 160 ty), ((q 31), aI g 160 ca)]) (wc := [(h0, .inr (10, mob q rf n mm mb fa9 fp9 av ev wi mn tp tc sc nf fd me mp xn mt wh tq ag an ig))]) (As := [.int 7, .int x67]) (rest := []) E hB hK hZ (g_Mod_fail l g H.size h0 q rf n mm mb av ev wi mn tp tc sc nf fd me mp xn mt wh tq ag an ig fa9 fp9 7 x67 (by decide)) mc_Mod_fail mi_Mod_fail me_Mod_fail wd_1478 hP hD hS hA [0] rfl (by decide) 0 rfl rfl rfl rfl rfl (by decide) rfl hl.1 rfl (Nat.le_of_ble_eq_true rfl) (by decide) d_Mod_linkMember_242) hP hD hS hA [0] [1, 2, 3, 4, 5, 6, 7, 8, 9] rfl rfl (by decide) (by decide) (fun u69 H locs hr68 hP hD hS => ?_)
                          try dsimp only at hr68
                          have hP : va_P g.1 classes [((q 2), aI g 600 bs), ((q 14), aI g 620 tg), ((q 16), aI g 620 on), ((q 17), aI g 620 tw), ((q 27), aI g 160 fl), ((q 28), aI g 160 pl), ((q 29), aI g 160 na), ((q 30), aI g 160 ty), ((q 31), aI g 160 ca), (h0, .inr (10, mob q rf n mm mb u69.1 u69.2 av ev wi mn tp tc sc nf fd me mp xn mt wh tq ag an ig))] H := hP
                          have hD : va_D A [((q 2), aI g 600 bs), ((q 14), aI g 620 tg), ((q 16), aI g 620 on), ((q 17), aI g 620 tw), ((q 27), aI g 160 fl), ((q 28), aI g 160 pl), ((q 29), aI g 160 na), ((q 30), aI g 160 ty), ((q 31), aI g 160 ca), (h0, .inr (10, mob q rf n mm mb u69.1 u69.2 av ev wi mn tp tc sc nf fd me mp xn mt wh tq ag an ig))] := hD
                          have hP : va_P g.1 classes [(h0, .inr (10, mob q rf n mm mb u69.1 u69.2 av ev wi mn tp tc sc nf fd me mp xn mt wh tq ag an ig)), ((q 2), aI g 600 bs), ((q 14), aI g 620 tg), ((q 16), aI g 620 on), ((q 17), aI g 620 tw), ((q 27), aI g 160 fl), ((q 28), aI g 160 pl), ((q 29), aI g 160 na), ((q 30), aI g 160 ty), ((q 31), aI g 160 ca)] H := hP.sub [9, 0, 1, 2, 3, 4, 5, 6, 7, 8] rfl
                          have hD : va_D A [(h0, .inr (10, mob q rf n mm mb u69.1 u69.2 av ev wi mn tp tc sc nf fd me mp xn mt wh tq ag an ig)), ((q 2), aI g 600 bs), ((q 14), aI g 620 tg), ((q 16), aI g 620 on), ((q 17), aI g 620 tw), ((q 27), aI g 160 fl), ((q 28), aI g 160 pl), ((q 29), aI g 160 na), ((q 30), aI g 160 ty), ((q 31), aI g 160 ca)] := hD.sub [9, 0, 1, 2, 3, 4, 5, 6, 7, 8] (by decide) rfl
                          have hp69_0 := hr68
                          refine lv_iinc (k := 0) (v := nI (i + 1)) hx hb d_Mod_linkMember_245 hl rfl ((nI_succ i).symm) (by decide) rfl (fun ls hl => ?_)
                          have hl : lv_has ls 6 [(5, .int (nI (i + 1))), (4, .int (nI jt)), (3, .int (nI jn)), (2, .int 1), (0, .ref h0), (1, .int (nI mi))] := hl
                          refine lv_goto (tgt := 196) hx hb d_Mod_linkMember_248 (by decide) ?_
                          have hP : va_P g.1 classes [(h0, .inr (10, mob q rf n mm mb u69.1 u69.2 av ev wi mn tp tc sc nf fd me mp xn mt wh tq ag an ig)), ((q 2), aI g 600 bs), ((q 14), aI g 620 tg), ((q 16), aI g 620 on), ((q 17), aI g 620 tw), ((q 27), aI g 160 fl), ((q 28), aI g 160 pl), ((q 29), aI g 160 na), ((q 30), aI g 160 ty), ((q 31), aI g 160 ca)] H := hP.sub [0, 1, 2, 3, 4, 5, 6, 7, 8, 9] rfl
                          have hD : va_D A [(h0, .inr (10, mob q rf n mm mb u69.1 u69.2 av ev wi mn tp tc sc nf fd me mp xn mt wh tq ag an ig)), ((q 2), aI g 600 bs), ((q 14), aI g 620 tg), ((q 16), aI g 620 on), ((q 17), aI g 620 tw), ((q 27), aI g 160 fl), ((q 28), aI g 160 pl), ((q 29), aI g 160 na), ((q 30), aI g 160 ty), ((q 31), aI g 160 ca)] := hD.sub [0, 1, 2, 3, 4, 5, 6, 7, 8, 9] (by decide) rfl
                          exact ih _ (by omega) (i + 1) u69.1 u69.2 ls _ _ rfl (fun h => absurd h hp69_0) (by omega) (lv_sub hl [0, 1, 2, 3, 4, 5] rfl) hP hD hS
                exact loop196 _ fd fa fp ls _ _ rfl (fun h => h) (by omega) (hl) hP hD hS
            · refine lv_goto (tgt := 170) hx hb d_Mod_linkMember_147 (by decide) ?_
              refine lv_aload_n hx hb d_Mod_linkMember_170 rfl (lv_at hl 3 rfl) ?_
              refine lv_bipush (v := 11) hx hb d_Mod_linkMember_171 (by decide) ?_
              refine lv_aload_n hx hb d_Mod_linkMember_173 rfl (lv_at hl 3 rfl) ?_
              refine va_get (D := g.1) (ci := 10) (v := .ref (q 28)) (C := R_Mod) (T := F_Mod) (N := 61) hx hb hts in_Mod hown hK hP 0 rfl rfl 28 (by decide) (hts _ wd_1278) (fun _ h9 => h9) rfl d_Mod_linkMember_174 ?_
              refine lv_iload_n hx hb d_Mod_linkMember_177 rfl (lv_at hl 4 rfl) ?_
              refine va_iald hx hb hK hP 6 0 rfl rfl (vp_in_nI (by omega) (by decide)) d_Mod_linkMember_178 ?_
              obtain ⟨x70, ex70⟩ : ∃ z : Int32, pl ((nI mi).toNatClampNeg) = z := ⟨_, rfl⟩
              refine tw_ri (e2 := x70) ex70 ?_
              refine tw_wv (wr := [((q 2), aI g 600 bs), ((q 14), aI g 620 tg), ((q 16), aI g 620 on), ((q 17), aI g 620 tw), ((q 27), aI g 160 fl), ((q 28), aI g 160 pl), ((q 29), aI g 160 na), ((q 30), aI g 160 ty), ((q 31), aI g 160 ca)]) (tw_runV (ws := [(h0, .inr (10, mob q rf n mm mb fa fp av ev wi mn tp tc sc nf fd me mp xn mt wh tq ag an ig)), ((q 2), aI g 600 bs), ((q 14), aI g 620 tg), ((q 16), aI g 620 on), ((q 17), aI g 620 tw), ((q 27), aI g 160 fl), ((q 28), aI g 160 pl), ((q 29), aI g 160 na), ((q 30), aI g 160 ty), ((q 31), aI g 160 ca)]) (wc := [(h0, .inr (10, mob q rf n mm mb fa fp av ev wi mn tp tc sc nf fd me mp xn mt wh tq ag an ig))]) (As := [.int 11, .int x70]) (rest := []) E hB hK hZ (g_Mod_fail l g H.size h0 q rf n mm mb av ev wi mn tp tc sc nf fd me mp xn mt wh tq ag an ig fa fp 11 x70 (by decide)) mc_Mod_fail mi_Mod_fail me_Mod_fail wd_1478 hP hD hS hA [0] rfl (by decide) 0 rfl rfl rfl rfl rfl (by decide) rfl hl.1 rfl (Nat.le_of_ble_eq_true rfl) (by decide) d_Mod_linkMember_179) hP hD hS hA [0] [1, 2, 3, 4, 5, 6, 7, 8, 9] rfl rfl (by decide) (by decide) (fun u72 H locs hr71 hP hD hS => ?_)
              try dsimp only at hr71
              have hP : va_P g.1 classes [((q 2), aI g 600 bs), ((q 14), aI g 620 tg), ((q 16), aI g 620 on), ((q 17), aI g 620 tw), ((q 27), aI g 160 fl), ((q 28), aI g 160 pl), ((q 29), aI g 160 na), ((q 30), aI g 160 ty), ((q 31), aI g 160 ca), (h0, .inr (10, mob q rf n mm mb u72.1 u72.2 av ev wi mn tp tc sc nf fd me mp xn mt wh tq ag an ig))] H := hP
              have hD : va_D A [((q 2), aI g 600 bs), ((q 14), aI g 620 tg), ((q 16), aI g 620 on), ((q 17), aI g 620 tw), ((q 27), aI g 160 fl), ((q 28), aI g 160 pl), ((q 29), aI g 160 na), ((q 30), aI g 160 ty), ((q 31), aI g 160 ca), (h0, .inr (10, mob q rf n mm mb u72.1 u72.2 av ev wi mn tp tc sc nf fd me mp xn mt wh tq ag an ig))] := hD
              have hP : va_P g.1 classes [(h0, .inr (10, mob q rf n mm mb u72.1 u72.2 av ev wi mn tp tc sc nf fd me mp xn mt wh tq ag an ig)), ((q 2), aI g 600 bs), ((q 14), aI g 620 tg), ((q 16), aI g 620 on), ((q 17), aI g 620 tw), ((q 27), aI g 160 fl), ((q 28), aI g 160 pl), ((q 29), aI g 160 na), ((q 30), aI g 160 ty), ((q 31), aI g 160 ca)] H := hP.sub [9, 0, 1, 2, 3, 4, 5, 6, 7, 8] rfl
              have hD : va_D A [(h0, .inr (10, mob q rf n mm mb u72.1 u72.2 av ev wi mn tp tc sc nf fd me mp xn mt wh tq ag an ig)), ((q 2), aI g 600 bs), ((q 14), aI g 620 tg), ((q 16), aI g 620 on), ((q 17), aI g 620 tw), ((q 27), aI g 160 fl), ((q 28), aI g 160 pl), ((q 29), aI g 160 na), ((q 30), aI g 160 ty), ((q 31), aI g 160 ca)] := hD.sub [9, 0, 1, 2, 3, 4, 5, 6, 7, 8] (by decide) rfl
              have hp72_0 := hr71
              refine lv_iload_n hx hb d_Mod_linkMember_182 rfl (lv_at hl 2 rfl) ?_
              refine lv_if_eq (tgt := 193) hx hb d_Mod_linkMember_183 (by decide) (fun h183 => ?_) (fun h183 => ?_)
              · first | exact absurd h183 (by decide) | exact absurd (by decide) h183
              · refine lv_aload_n hx hb d_Mod_linkMember_186 rfl (lv_at hl 3 rfl) ?_
                refine va_get (D := g.1) (ci := 10) (v := .int (nI fd)) (C := R_Mod) (T := F_Mod) (N := 61) hx hb hts in_Mod hown hK hP 0 rfl rfl 24 (by decide) (hts _ wd_1274) (fun _ h9 => h9) rfl d_Mod_linkMember_187 ?_
                refine lv_goto (tgt := 194) hx hb d_Mod_linkMember_190 (by decide) ?_
                refine lv_istore hx hb d_Mod_linkMember_194 hl (by decide) rfl (fun ls hl => ?_)
                have hl : lv_has ls 6 [(5, .int (nI fd)), (4, .int (nI jt)), (3, .int (nI jn)), (2, .int 1), (0, .ref h0), (1, .int (nI mi))] := hl
                have loop196 : ∀ (kq : Nat) (i : Nat) (fa9 : Int32) (fp9 : Int32) (ls : Array Slot) (H : Heap) (locs : List Loc) , mi - i = kq → (hc9 : fa9 = 0 → u72.1 = 0) → (hib : i ≤ 160) → lv_has ls 6 [(5, .int (nI i)), (4, .int (nI jt)), (3, .int (nI jn)), (2, .int 1), (0, .ref h0), (1, .int (nI mi))] → va_P g.1 classes [(h0, .inr (10, mob q rf n mm mb fa9 fp9 av ev wi mn tp tc sc nf fd me mp xn mt wh tq ag an ig)), ((q 2), aI g 600 bs), ((q 14), aI g 620 tg), ((q 16), aI g 620 on), ((q 17), aI g 620 tw), ((q 27), aI g 160 fl), ((q 28), aI g 160 pl), ((q 29), aI g 160 na), ((q 30), aI g 160 ty), ((q 31), aI g 160 ca)] H → va_D A [(h0, .inr (10, mob q rf n mm mb fa9 fp9 av ev wi mn tp tc sc nf fd me mp xn mt wh tq ag an ig)), ((q 2), aI g 600 bs), ((q 14), aI g 620 tg), ((q 16), aI g 620 on), ((q 17), aI g 620 tw), ((q 27), aI g 160 fl), ((q 28), aI g 160 pl), ((q 29), aI g 160 na), ((q 30), aI g 160 ty), ((q 31), aI g 160 ca)] → va_S A s.heap H locs → W p l e ({ frames := 6, cells := 0, slots := 0, locals := 139 }) s m [.ref h0, .int (nI mi)].toArray below meth c H locs 0 0 (MQ below (tw_Qv g (fun (u : Int32 × Int32) => (u.1 = 0 → fa = 0) ∧ (u.1 = 0 → LMB bs mn tg on tw fd na ty mi)) (fun u : Int32 × Int32 => [(h0, .inr (10, mob q rf n mm mb u.1 u.2 av ev wi mn tp tc sc nf fd me mp xn mt wh tq ag an ig)), ((q 2), aI g 600 bs), ((q 14), aI g 620 tg), ((q 16), aI g 620 on), ((q 17), aI g 620 tw), ((q 27), aI g 160 fl), ((q 28), aI g 160 pl), ((q 29), aI g 160 na), ((q 30), aI g 160 ty), ((q 31), aI g 160 ca)]) A) [.ref h0, .int (nI mi)].toArray s 0 0 A) (F0 m 196 ls []) := by
                  intro kq
                  induction kq using Nat.strongRecOn with
                  | _ kq ih =>
                    intro i fa9 fp9 ls H locs hk hc9 hib hl hP hD hS
                    refine lv_iload hx hb d_Mod_linkMember_196 (lv_at hl 0 rfl) ?_
                    refine lv_iload_n hx hb d_Mod_linkMember_198 rfl (lv_at hl 5 rfl) ?_
                    refine lv_icmp_ge (tgt := 251) hx hb d_Mod_linkMember_199 (by decide) (fun h199 => ?_) (fun h199 => ?_)
                    · refine lv_iload_n hx hb d_Mod_linkMember_251 rfl (lv_at hl 3 rfl) ?_
                      refine lv_if_eq (tgt := 302) hx hb d_Mod_linkMember_252 (by decide) (fun h252 => ?_) (fun h252 => ?_)
                      · first | exact absurd h252 (by decide) | exact absurd (by decide) h252
                      · refine lv_aload_n hx hb d_Mod_linkMember_255 rfl (lv_at hl 4 rfl) ?_
                        refine va_get (D := g.1) (ci := 10) (v := .ref (q 31)) (C := R_Mod) (T := F_Mod) (N := 61) hx hb hts in_Mod hown hK hP 0 rfl rfl 31 (by decide) (hts _ wd_1281) (fun _ h9 => h9) rfl d_Mod_linkMember_256 ?_
                        refine lv_iload_n hx hb d_Mod_linkMember_259 rfl (lv_at hl 5 rfl) ?_
                        refine va_iald hx hb hK hP 9 0 rfl rfl (vp_in_nI (by omega) (by decide)) d_Mod_linkMember_260 ?_
                        obtain ⟨x73, ex73⟩ : ∃ z : Int32, ca ((nI mi).toNatClampNeg) = z := ⟨_, rfl⟩
                        refine tw_ri (e2 := x73) ex73 ?_
                        refine lv_if_le (tgt := 268) hx hb d_Mod_linkMember_261 (by decide) (fun h261 => ?_) (fun h261 => ?_)
                        · refine lv_iconst (v := 0) hx hb d_Mod_linkMember_268 (by decide) ?_
                          refine lv_aload_n hx hb d_Mod_linkMember_269 rfl (lv_at hl 4 rfl) ?_
                          refine va_get (D := g.1) (ci := 10) (v := .ref (q 27)) (C := R_Mod) (T := F_Mod) (N := 61) hx hb hts in_Mod hown hK hP 0 rfl rfl 27 (by decide) (hts _ wd_1277) (fun _ h9 => h9) rfl d_Mod_linkMember_270 ?_
                          refine lv_iload_n hx hb d_Mod_linkMember_273 rfl (lv_at hl 5 rfl) ?_
                          refine va_iald hx hb hK hP 5 0 rfl rfl (vp_in_nI (by omega) (by decide)) d_Mod_linkMember_274 ?_
                          obtain ⟨x74, ex74⟩ : ∃ z : Int32, fl ((nI mi).toNatClampNeg) = z := ⟨_, rfl⟩
                          refine tw_ri (e2 := x74) ex74 ?_
                          refine lv_sipush (v := 1280) hx hb d_Mod_linkMember_275 (by decide) ?_
                          refine lv_iand hx hb d_Mod_linkMember_278 ?_
                          obtain ⟨x75, ex75⟩ : ∃ z : Int32, x74 &&& 1280 = z := ⟨_, rfl⟩
                          refine tw_ri (e2 := x75) ex75 ?_
                          refine lv_if_eq (tgt := 286) hx hb d_Mod_linkMember_279 (by decide) (fun h279 => ?_) (fun h279 => ?_)
                          · refine lv_iconst (v := 0) hx hb d_Mod_linkMember_286 (by decide) ?_
                            refine lv_icmp_ne (tgt := 302) hx hb d_Mod_linkMember_287 (by decide) (fun h287 => ?_) (fun h287 => ?_)
                            · exact tw_vret E hS (fa9, fp9) (⟨(fun h => absurd h (fun h => hp72_0 (hc9 h))), (fun h => absurd h (fun h => hp72_0 (hc9 h)))⟩) hP hD d_Mod_linkMember_302
                            · refine lv_aload_n hx hb d_Mod_linkMember_290 rfl (lv_at hl 4 rfl) ?_
                              refine lv_bipush (v := 12) hx hb d_Mod_linkMember_291 (by decide) ?_
                              refine lv_aload_n hx hb d_Mod_linkMember_293 rfl (lv_at hl 4 rfl) ?_
                              refine va_get (D := g.1) (ci := 10) (v := .ref (q 28)) (C := R_Mod) (T := F_Mod) (N := 61) hx hb hts in_Mod hown hK hP 0 rfl rfl 28 (by decide) (hts _ wd_1278) (fun _ h9 => h9) rfl d_Mod_linkMember_294 ?_
                              refine lv_iload_n hx hb d_Mod_linkMember_297 rfl (lv_at hl 5 rfl) ?_
                              refine va_iald hx hb hK hP 6 0 rfl rfl (vp_in_nI (by omega) (by decide)) d_Mod_linkMember_298 ?_
                              obtain ⟨x76, ex76⟩ : ∃ z : Int32, pl ((nI mi).toNatClampNeg) = z := ⟨_, rfl⟩
                              refine tw_ri (e2 := x76) ex76 ?_
                              refine tw_wv (wr := [((q 2), aI g 600 bs), ((q 14), aI g 620 tg), ((q 16), aI g 620 on), ((q 17), aI g 620 tw), ((q 27), aI g 160 fl), ((q 28), aI g 160 pl), ((q 29), aI g 160 na), ((q 30), aI g 160 ty), ((q 31), aI g 160 ca)]) (tw_runV (ws := [(h0, .inr (10, mob q rf n mm mb fa9 fp9 av ev wi mn tp tc sc nf fd me mp xn mt wh tq ag an ig)), ((q 2), aI g 600 bs), ((q 14), aI g 620 tg), ((q 16), aI g 620 on), ((q 17), aI g 620 tw), ((q 27), aI g 160 fl), ((q 28), aI g 160 pl), ((q 29), aI g 160 na), ((q 30), aI g 160 ty), ((q 31), aI g 160 ca)]) (wc := [(h0, .inr (10, mob q rf n mm mb fa9 fp9 av ev wi mn tp tc sc nf fd me mp xn mt wh tq ag an ig))]) (As := [.int 12, .int x76]) (rest := []) E hB hK hZ (g_Mod_fail l g H.size h0 q rf n mm mb av ev wi mn tp tc sc nf fd me mp xn mt wh tq ag an ig fa9 fp9 12 x76 (by decide)) mc_Mod_fail mi_Mod_fail me_Mod_fail wd_1478 hP hD hS hA [0] rfl (by decide) 0 rfl rfl rfl rfl rfl (by decide) rfl hl.1 rfl (Nat.le_of_ble_eq_true rfl) (by decide) d_Mod_linkMember_299) hP hD hS hA [0] [1, 2, 3, 4, 5, 6, 7, 8, 9] rfl rfl (by decide) (by decide) (fun u78 H locs hr77 hP hD hS => ?_)
                              try dsimp only at hr77
                              have hP : va_P g.1 classes [((q 2), aI g 600 bs), ((q 14), aI g 620 tg), ((q 16), aI g 620 on), ((q 17), aI g 620 tw), ((q 27), aI g 160 fl), ((q 28), aI g 160 pl), ((q 29), aI g 160 na), ((q 30), aI g 160 ty), ((q 31), aI g 160 ca), (h0, .inr (10, mob q rf n mm mb u78.1 u78.2 av ev wi mn tp tc sc nf fd me mp xn mt wh tq ag an ig))] H := hP
                              have hD : va_D A [((q 2), aI g 600 bs), ((q 14), aI g 620 tg), ((q 16), aI g 620 on), ((q 17), aI g 620 tw), ((q 27), aI g 160 fl), ((q 28), aI g 160 pl), ((q 29), aI g 160 na), ((q 30), aI g 160 ty), ((q 31), aI g 160 ca), (h0, .inr (10, mob q rf n mm mb u78.1 u78.2 av ev wi mn tp tc sc nf fd me mp xn mt wh tq ag an ig))] := hD
                              have hP : va_P g.1 classes [(h0, .inr (10, mob q rf n mm mb u78.1 u78.2 av ev wi mn tp tc sc nf fd me mp xn mt wh tq ag an ig)), ((q 2), aI g 600 bs), ((q 14), aI g 620 tg), ((q 16), aI g 620 on), ((q 17), aI g 620 tw), ((q 27), aI g 160 fl), ((q 28), aI g 160 pl), ((q 29), aI g 160 na), ((q 30), aI g 160 ty), ((q 31), aI g 160 ca)] H := hP.sub [9, 0, 1, 2, 3, 4, 5, 6, 7, 8] rfl
                              have hD : va_D A [(h0, .inr (10, mob q rf n mm mb u78.1 u78.2 av ev wi mn tp tc sc nf fd me mp xn mt wh tq ag an ig)), ((q 2), aI g 600 bs), ((q 14), aI g 620 tg), ((q 16), aI g 620 on), ((q 17), aI g 620 tw), ((q 27), aI g 160 fl), ((q 28), aI g 160 pl), ((q 29), aI g 160 na), ((q 30), aI g 160 ty), ((q 31), aI g 160 ca)] := hD.sub [9, 0, 1, 2, 3, 4, 5, 6, 7, 8] (by decide) rfl
                              have hp78_0 := hr77
                              exact tw_vret E hS (u78.1, u78.2) (⟨(fun h => absurd h hp78_0), (fun h => absurd h hp78_0)⟩) hP hD d_Mod_linkMember_302
                          · refine lv_iconst (v := 1) hx hb d_Mod_linkMember_282 (by decide) ?_
                            refine lv_goto (tgt := 287) hx hb d_Mod_linkMember_283 (by decide) ?_
                            refine lv_icmp_ne (tgt := 302) hx hb d_Mod_linkMember_287 (by decide) (fun h287 => ?_) (fun h287 => ?_)
                            · exact tw_vret E hS (fa9, fp9) (⟨(fun h => absurd h (fun h => hp72_0 (hc9 h))), (fun h => absurd h (fun h => hp72_0 (hc9 h)))⟩) hP hD d_Mod_linkMember_302
                            · refine lv_aload_n hx hb d_Mod_linkMember_290 rfl (lv_at hl 4 rfl) ?_
                              refine lv_bipush (v := 12) hx hb d_Mod_linkMember_291 (by decide) ?_
                              refine lv_aload_n hx hb d_Mod_linkMember_293 rfl (lv_at hl 4 rfl) ?_
                              refine va_get (D := g.1) (ci := 10) (v := .ref (q 28)) (C := R_Mod) (T := F_Mod) (N := 61) hx hb hts in_Mod hown hK hP 0 rfl rfl 28 (by decide) (hts _ wd_1278) (fun _ h9 => h9) rfl d_Mod_linkMember_294 ?_
                              refine lv_iload_n hx hb d_Mod_linkMember_297 rfl (lv_at hl 5 rfl) ?_
                              refine va_iald hx hb hK hP 6 0 rfl rfl (vp_in_nI (by omega) (by decide)) d_Mod_linkMember_298 ?_
                              obtain ⟨x79, ex79⟩ : ∃ z : Int32, pl ((nI mi).toNatClampNeg) = z := ⟨_, rfl⟩
                              refine tw_ri (e2 := x79) ex79 ?_
                              refine tw_wv (wr := [((q 2), aI g 600 bs), ((q 14), aI g 620 tg), ((q 16), aI g 620 on), ((q 17), aI g 620 tw), ((q 27), aI g 160 fl), ((q 28), aI g 160 pl), ((q 29), aI g 160 na), ((q 30), aI g 160 ty), ((q 31), aI g 160 ca)]) (tw_runV (ws := [(h0, .inr (10, mob q rf n mm mb fa9 fp9 av ev wi mn tp tc sc nf fd me mp xn mt wh tq ag an ig)), ((q 2), aI g 600 bs), ((q 14), aI g 620 tg), ((q 16), aI g 620 on), ((q 17), aI g 620 tw), ((q 27), aI g 160 fl), ((q 28), aI g 160 pl), ((q 29), aI g 160 na), ((q 30), aI g 160 ty), ((q 31), aI g 160 ca)]) (wc := [(h0, .inr (10, mob q rf n mm mb fa9 fp9 av ev wi mn tp tc sc nf fd me mp xn mt wh tq ag an ig))]) (As := [.int 12, .int x79]) (rest := []) E hB hK hZ (g_Mod_fail l g H.size h0 q rf n mm mb av ev wi mn tp tc sc nf fd me mp xn mt wh tq ag an ig fa9 fp9 12 x79 (by decide)) mc_Mod_fail mi_Mod_fail me_Mod_fail wd_1478 hP hD hS hA [0] rfl (by decide) 0 rfl rfl rfl rfl rfl (by decide) rfl hl.1 rfl (Nat.le_of_ble_eq_true rfl) (by decide) d_Mod_linkMember_299) hP hD hS hA [0] [1, 2, 3, 4, 5, 6, 7, 8, 9] rfl rfl (by decide) (by decide) (fun u81 H locs hr80 hP hD hS => ?_)
                              try dsimp only at hr80
                              have hP : va_P g.1 classes [((q 2), aI g 600 bs), ((q 14), aI g 620 tg), ((q 16), aI g 620 on), ((q 17), aI g 620 tw), ((q 27), aI g 160 fl), ((q 28), aI g 160 pl), ((q 29), aI g 160 na), ((q 30), aI g 160 ty), ((q 31), aI g 160 ca), (h0, .inr (10, mob q rf n mm mb u81.1 u81.2 av ev wi mn tp tc sc nf fd me mp xn mt wh tq ag an ig))] H := hP
                              have hD : va_D A [((q 2), aI g 600 bs), ((q 14), aI g 620 tg), ((q 16), aI g 620 on), ((q 17), aI g 620 tw), ((q 27), aI g 160 fl), ((q 28), aI g 160 pl), ((q 29), aI g 160 na), ((q 30), aI g 160 ty), ((q 31), aI g 160 ca), (h0, .inr (10, mob q rf n mm mb u81.1 u81.2 av ev wi mn tp tc sc nf fd me mp xn mt wh tq ag an ig))] := hD
                              have hP : va_P g.1 classes [(h0, .inr (10, mob q rf n mm mb u81.1 u81.2 av ev wi mn tp tc sc nf fd me mp xn mt wh tq ag an ig)), ((q 2), aI g 600 bs), ((q 14), aI g 620 tg), ((q 16), aI g 620 on), ((q 17), aI g 620 tw), ((q 27), aI g 160 fl), ((q 28), aI g 160 pl), ((q 29), aI g 160 na), ((q 30), aI g 160 ty), ((q 31), aI g 160 ca)] H := hP.sub [9, 0, 1, 2, 3, 4, 5, 6, 7, 8] rfl
                              have hD : va_D A [(h0, .inr (10, mob q rf n mm mb u81.1 u81.2 av ev wi mn tp tc sc nf fd me mp xn mt wh tq ag an ig)), ((q 2), aI g 600 bs), ((q 14), aI g 620 tg), ((q 16), aI g 620 on), ((q 17), aI g 620 tw), ((q 27), aI g 160 fl), ((q 28), aI g 160 pl), ((q 29), aI g 160 na), ((q 30), aI g 160 ty), ((q 31), aI g 160 ca)] := hD.sub [9, 0, 1, 2, 3, 4, 5, 6, 7, 8] (by decide) rfl
                              have hp81_0 := hr80
                              exact tw_vret E hS (u81.1, u81.2) (⟨(fun h => absurd h hp81_0), (fun h => absurd h hp81_0)⟩) hP hD d_Mod_linkMember_302
                        · refine lv_iconst (v := 1) hx hb d_Mod_linkMember_264 (by decide) ?_
                          refine lv_goto (tgt := 269) hx hb d_Mod_linkMember_265 (by decide) ?_
                          refine lv_aload_n hx hb d_Mod_linkMember_269 rfl (lv_at hl 4 rfl) ?_
                          refine va_get (D := g.1) (ci := 10) (v := .ref (q 27)) (C := R_Mod) (T := F_Mod) (N := 61) hx hb hts in_Mod hown hK hP 0 rfl rfl 27 (by decide) (hts _ wd_1277) (fun _ h9 => h9) rfl d_Mod_linkMember_270 ?_
                          refine lv_iload_n hx hb d_Mod_linkMember_273 rfl (lv_at hl 5 rfl) ?_
                          refine va_iald hx hb hK hP 5 0 rfl rfl (vp_in_nI (by omega) (by decide)) d_Mod_linkMember_274 ?_
                          obtain ⟨x82, ex82⟩ : ∃ z : Int32, fl ((nI mi).toNatClampNeg) = z := ⟨_, rfl⟩
                          refine tw_ri (e2 := x82) ex82 ?_
                          refine lv_sipush (v := 1280) hx hb d_Mod_linkMember_275 (by decide) ?_
                          refine lv_iand hx hb d_Mod_linkMember_278 ?_
                          obtain ⟨x83, ex83⟩ : ∃ z : Int32, x82 &&& 1280 = z := ⟨_, rfl⟩
                          refine tw_ri (e2 := x83) ex83 ?_
                          refine lv_if_eq (tgt := 286) hx hb d_Mod_linkMember_279 (by decide) (fun h279 => ?_) (fun h279 => ?_)
                          · refine lv_iconst (v := 0) hx hb d_Mod_linkMember_286 (by decide) ?_
                            refine lv_icmp_ne (tgt := 302) hx hb d_Mod_linkMember_287 (by decide) (fun h287 => ?_) (fun h287 => ?_)
                            · exact tw_vret E hS (fa9, fp9) (⟨(fun h => absurd h (fun h => hp72_0 (hc9 h))), (fun h => absurd h (fun h => hp72_0 (hc9 h)))⟩) hP hD d_Mod_linkMember_302
                            · refine lv_aload_n hx hb d_Mod_linkMember_290 rfl (lv_at hl 4 rfl) ?_
                              refine lv_bipush (v := 12) hx hb d_Mod_linkMember_291 (by decide) ?_
                              refine lv_aload_n hx hb d_Mod_linkMember_293 rfl (lv_at hl 4 rfl) ?_
                              refine va_get (D := g.1) (ci := 10) (v := .ref (q 28)) (C := R_Mod) (T := F_Mod) (N := 61) hx hb hts in_Mod hown hK hP 0 rfl rfl 28 (by decide) (hts _ wd_1278) (fun _ h9 => h9) rfl d_Mod_linkMember_294 ?_
                              refine lv_iload_n hx hb d_Mod_linkMember_297 rfl (lv_at hl 5 rfl) ?_
                              refine va_iald hx hb hK hP 6 0 rfl rfl (vp_in_nI (by omega) (by decide)) d_Mod_linkMember_298 ?_
                              obtain ⟨x84, ex84⟩ : ∃ z : Int32, pl ((nI mi).toNatClampNeg) = z := ⟨_, rfl⟩
                              refine tw_ri (e2 := x84) ex84 ?_
                              refine tw_wv (wr := [((q 2), aI g 600 bs), ((q 14), aI g 620 tg), ((q 16), aI g 620 on), ((q 17), aI g 620 tw), ((q 27), aI g 160 fl), ((q 28), aI g 160 pl), ((q 29), aI g 160 na), ((q 30), aI g 160 ty), ((q 31), aI g 160 ca)]) (tw_runV (ws := [(h0, .inr (10, mob q rf n mm mb fa9 fp9 av ev wi mn tp tc sc nf fd me mp xn mt wh tq ag an ig)), ((q 2), aI g 600 bs), ((q 14), aI g 620 tg), ((q 16), aI g 620 on), ((q 17), aI g 620 tw), ((q 27), aI g 160 fl), ((q 28), aI g 160 pl), ((q 29), aI g 160 na), ((q 30), aI g 160 ty), ((q 31), aI g 160 ca)]) (wc := [(h0, .inr (10, mob q rf n mm mb fa9 fp9 av ev wi mn tp tc sc nf fd me mp xn mt wh tq ag an ig))]) (As := [.int 12, .int x84]) (rest := []) E hB hK hZ (g_Mod_fail l g H.size h0 q rf n mm mb av ev wi mn tp tc sc nf fd me mp xn mt wh tq ag an ig fa9 fp9 12 x84 (by decide)) mc_Mod_fail mi_Mod_fail me_Mod_fail wd_1478 hP hD hS hA [0] rfl (by decide) 0 rfl rfl rfl rfl rfl (by decide) rfl hl.1 rfl (Nat.le_of_ble_eq_true rfl) (by decide) d_Mod_linkMember_299) hP hD hS hA [0] [1, 2, 3, 4, 5, 6, 7, 8, 9] rfl rfl (by decide) (by decide) (fun u86 H locs hr85 hP hD hS => ?_)
                              try dsimp only at hr85
                              have hP : va_P g.1 classes [((q 2), aI g 600 bs), ((q 14), aI g 620 tg), ((q 16), aI g 620 on), ((q 17), aI g 620 tw), ((q 27), aI g 160 fl), ((q 28), aI g 160 pl), ((q 29), aI g 160 na), ((q 30), aI g 160 ty), ((q 31), aI g 160 ca), (h0, .inr (10, mob q rf n mm mb u86.1 u86.2 av ev wi mn tp tc sc nf fd me mp xn mt wh tq ag an ig))] H := hP
                              have hD : va_D A [((q 2), aI g 600 bs), ((q 14), aI g 620 tg), ((q 16), aI g 620 on), ((q 17), aI g 620 tw), ((q 27), aI g 160 fl), ((q 28), aI g 160 pl), ((q 29), aI g 160 na), ((q 30), aI g 160 ty), ((q 31), aI g 160 ca), (h0, .inr (10, mob q rf n mm mb u86.1 u86.2 av ev wi mn tp tc sc nf fd me mp xn mt wh tq ag an ig))] := hD
                              have hP : va_P g.1 classes [(h0, .inr (10, mob q rf n mm mb u86.1 u86.2 av ev wi mn tp tc sc nf fd me mp xn mt wh tq ag an ig)), ((q 2), aI g 600 bs), ((q 14), aI g 620 tg), ((q 16), aI g 620 on), ((q 17), aI g 620 tw), ((q 27), aI g 160 fl), ((q 28), aI g 160 pl), ((q 29), aI g 160 na), ((q 30), aI g 160 ty), ((q 31), aI g 160 ca)] H := hP.sub [9, 0, 1, 2, 3, 4, 5, 6, 7, 8] rfl
                              have hD : va_D A [(h0, .inr (10, mob q rf n mm mb u86.1 u86.2 av ev wi mn tp tc sc nf fd me mp xn mt wh tq ag an ig)), ((q 2), aI g 600 bs), ((q 14), aI g 620 tg), ((q 16), aI g 620 on), ((q 17), aI g 620 tw), ((q 27), aI g 160 fl), ((q 28), aI g 160 pl), ((q 29), aI g 160 na), ((q 30), aI g 160 ty), ((q 31), aI g 160 ca)] := hD.sub [9, 0, 1, 2, 3, 4, 5, 6, 7, 8] (by decide) rfl
                              have hp86_0 := hr85
                              exact tw_vret E hS (u86.1, u86.2) (⟨(fun h => absurd h hp86_0), (fun h => absurd h hp86_0)⟩) hP hD d_Mod_linkMember_302
                          · refine lv_iconst (v := 1) hx hb d_Mod_linkMember_282 (by decide) ?_
                            refine lv_goto (tgt := 287) hx hb d_Mod_linkMember_283 (by decide) ?_
                            refine lv_icmp_ne (tgt := 302) hx hb d_Mod_linkMember_287 (by decide) (fun h287 => ?_) (fun h287 => ?_)
                            · exact tw_vret E hS (fa9, fp9) (⟨(fun h => absurd h (fun h => hp72_0 (hc9 h))), (fun h => absurd h (fun h => hp72_0 (hc9 h)))⟩) hP hD d_Mod_linkMember_302
                            · refine lv_aload_n hx hb d_Mod_linkMember_290 rfl (lv_at hl 4 rfl) ?_
                              refine lv_bipush (v := 12) hx hb d_Mod_linkMember_291 (by decide) ?_
                              refine lv_aload_n hx hb d_Mod_linkMember_293 rfl (lv_at hl 4 rfl) ?_
                              refine va_get (D := g.1) (ci := 10) (v := .ref (q 28)) (C := R_Mod) (T := F_Mod) (N := 61) hx hb hts in_Mod hown hK hP 0 rfl rfl 28 (by decide) (hts _ wd_1278) (fun _ h9 => h9) rfl d_Mod_linkMember_294 ?_
                              refine lv_iload_n hx hb d_Mod_linkMember_297 rfl (lv_at hl 5 rfl) ?_
                              refine va_iald hx hb hK hP 6 0 rfl rfl (vp_in_nI (by omega) (by decide)) d_Mod_linkMember_298 ?_
                              obtain ⟨x87, ex87⟩ : ∃ z : Int32, pl ((nI mi).toNatClampNeg) = z := ⟨_, rfl⟩
                              refine tw_ri (e2 := x87) ex87 ?_
                              refine tw_wv (wr := [((q 2), aI g 600 bs), ((q 14), aI g 620 tg), ((q 16), aI g 620 on), ((q 17), aI g 620 tw), ((q 27), aI g 160 fl), ((q 28), aI g 160 pl), ((q 29), aI g 160 na), ((q 30), aI g 160 ty), ((q 31), aI g 160 ca)]) (tw_runV (ws := [(h0, .inr (10, mob q rf n mm mb fa9 fp9 av ev wi mn tp tc sc nf fd me mp xn mt wh tq ag an ig)), ((q 2), aI g 600 bs), ((q 14), aI g 620 tg), ((q 16), aI g 620 on), ((q 17), aI g 620 tw), ((q 27), aI g 160 fl), ((q 28), aI g 160 pl), ((q 29), aI g 160 na), ((q 30), aI g 160 ty), ((q 31), aI g 160 ca)]) (wc := [(h0, .inr (10, mob q rf n mm mb fa9 fp9 av ev wi mn tp tc sc nf fd me mp xn mt wh tq ag an ig))]) (As := [.int 12, .int x87]) (rest := []) E hB hK hZ (g_Mod_fail l g H.size h0 q rf n mm mb av ev wi mn tp tc sc nf fd me mp xn mt wh tq ag an ig fa9 fp9 12 x87 (by decide)) mc_Mod_fail mi_Mod_fail me_Mod_fail wd_1478 hP hD hS hA [0] rfl (by decide) 0 rfl rfl rfl rfl rfl (by decide) rfl hl.1 rfl (Nat.le_of_ble_eq_true rfl) (by decide) d_Mod_linkMember_299) hP hD hS hA [0] [1, 2, 3, 4, 5, 6, 7, 8, 9] rfl rfl (by decide) (by decide) (fun u89 H locs hr88 hP hD hS => ?_)
                              try dsimp only at hr88
                              have hP : va_P g.1 classes [((q 2), aI g 600 bs), ((q 14), aI g 620 tg), ((q 16), aI g 620 on), ((q 17), aI g 620 tw), ((q 27), aI g 160 fl), ((q 28), aI g 160 pl), ((q 29), aI g 160 na), ((q 30), aI g 160 ty), ((q 31), aI g 160 ca), (h0, .inr (10, mob q rf n mm mb u89.1 u89.2 av ev wi mn tp tc sc nf fd me mp xn mt wh tq ag an ig))] H := hP
                              have hD : va_D A [((q 2), aI g 600 bs), ((q 14), aI g 620 tg), ((q 16), aI g 620 on), ((q 17), aI g 620 tw), ((q 27), aI g 160 fl), ((q 28), aI g 160 pl), ((q 29), aI g 160 na), ((q 30), aI g 160 ty), ((q 31), aI g 160 ca), (h0, .inr (10, mob q rf n mm mb u89.1 u89.2 av ev wi mn tp tc sc nf fd me mp xn mt wh tq ag an ig))] := hD
                              have hP : va_P g.1 classes [(h0, .inr (10, mob q rf n mm mb u89.1 u89.2 av ev wi mn tp tc sc nf fd me mp xn mt wh tq ag an ig)), ((q 2), aI g 600 bs), ((q 14), aI g 620 tg), ((q 16), aI g 620 on), ((q 17), aI g 620 tw), ((q 27), aI g 160 fl), ((q 28), aI g 160 pl), ((q 29), aI g 160 na), ((q 30), aI g 160 ty), ((q 31), aI g 160 ca)] H := hP.sub [9, 0, 1, 2, 3, 4, 5, 6, 7, 8] rfl
                              have hD : va_D A [(h0, .inr (10, mob q rf n mm mb u89.1 u89.2 av ev wi mn tp tc sc nf fd me mp xn mt wh tq ag an ig)), ((q 2), aI g 600 bs), ((q 14), aI g 620 tg), ((q 16), aI g 620 on), ((q 17), aI g 620 tw), ((q 27), aI g 160 fl), ((q 28), aI g 160 pl), ((q 29), aI g 160 na), ((q 30), aI g 160 ty), ((q 31), aI g 160 ca)] := hD.sub [9, 0, 1, 2, 3, 4, 5, 6, 7, 8] (by decide) rfl
                              have hp89_0 := hr88
                              exact tw_vret E hS (u89.1, u89.2) (⟨(fun h => absurd h hp89_0), (fun h => absurd h hp89_0)⟩) hP hD d_Mod_linkMember_302
                    · have h199 := tn_nle h199 (by omega) (by omega)
                      obtain ⟨⟨i1, u0, u1, u2, ut⟩, ⟨i2, pi2, li2, v0, v1, v2, vt, v3, v4, v5, v6⟩⟩ := hLM i h199
                      obtain ⟨pi1, li1, u3, u4, u5⟩ := hTX i1 (by omega) ut
                      refine lv_aload_n hx hb d_Mod_linkMember_202 rfl (lv_at hl 4 rfl) ?_
                      refine lv_aload_n hx hb d_Mod_linkMember_203 rfl (lv_at hl 4 rfl) ?_
                      refine va_get (D := g.1) (ci := 10) (v := .ref (q 29)) (C := R_Mod) (T := F_Mod) (N := 61) hx hb hts in_Mod hown hK hP 0 rfl rfl 29 (by decide) (hts _ wd_1279) (fun _ h9 => h9) rfl d_Mod_linkMember_204 ?_
                      refine lv_iload hx hb d_Mod_linkMember_207 (lv_at hl 0 rfl) ?_
                      refine va_iald hx hb hK hP 7 0 rfl rfl (vp_in_nI (by omega) (by decide)) d_Mod_linkMember_209 ?_
                      refine tw_ri (e2 := nI i1) (by rw [nI_clamp (by omega)]; exact u2) ?_
                      refine lv_iload_n hx hb d_Mod_linkMember_210 rfl (lv_at hl 2 rfl) ?_
                      refine tw_si (tw_runV (ws := [(h0, .inr (10, mob q rf n mm mb fa9 fp9 av ev wi mn tp tc sc nf fd me mp xn mt wh tq ag an ig)), ((q 2), aI g 600 bs), ((q 14), aI g 620 tg), ((q 16), aI g 620 on), ((q 17), aI g 620 tw), ((q 27), aI g 160 fl), ((q 28), aI g 160 pl), ((q 29), aI g 160 na), ((q 30), aI g 160 ty), ((q 31), aI g 160 ca)]) (wc := [(h0, .inr (10, mob q rf n mm mb fa9 fp9 av ev wi mn tp tc sc nf fd me mp xn mt wh tq ag an ig)), ((q 2), aI g 600 bs), ((q 16), aI g 620 on), ((q 17), aI g 620 tw)]) (As := [.int (nI i1), .int (nI jn)]) (rest := []) E hB hK hZ (g_Mod_sameTexts l g H.size h0 q rf n mm mb fa9 fp9 av ev wi mn tp tc sc nf fd me mp xn mt wh tq ag an ig bs on tw i1 jn pi1 li1 pn ln1 (by omega) u3 u4 u5 (by omega) pna pnb pnc) mc_Mod_sameTexts mi_Mod_sameTexts me_Mod_sameTexts wd_1579 hP hD hS hA [0, 1, 3, 4] rfl (by decide) 0 rfl rfl rfl rfl rfl (by decide) rfl hl.1 rfl (Nat.le_of_ble_eq_true rfl) (by decide) d_Mod_linkMember_211) (fun r90 hr90 => ?_)
                      have hB90 := hr90
                      refine lv_if_eq (tgt := 245) hx hb d_Mod_linkMember_214 (by decide) (fun h214 => ?_) (fun h214 => ?_)
                      · refine lv_iinc (k := 0) (v := nI (i + 1)) hx hb d_Mod_linkMember_245 hl rfl ((nI_succ i).symm) (by decide) rfl (fun ls hl => ?_)
                        have hl : lv_has ls 6 [(5, .int (nI (i + 1))), (4, .int (nI jt)), (3, .int (nI jn)), (2, .int 1), (0, .ref h0), (1, .int (nI mi))] := hl
                        refine lv_goto (tgt := 196) hx hb d_Mod_linkMember_248 (by decide) ?_
                        have hP : va_P g.1 classes [(h0, .inr (10, mob q rf n mm mb fa9 fp9 av ev wi mn tp tc sc nf fd me mp xn mt wh tq ag an ig)), ((q 2), aI g 600 bs), ((q 14), aI g 620 tg), ((q 16), aI g 620 on), ((q 17), aI g 620 tw), ((q 27), aI g 160 fl), ((q 28), aI g 160 pl), ((q 29), aI g 160 na), ((q 30), aI g 160 ty), ((q 31), aI g 160 ca)] H := hP.sub [0, 1, 2, 3, 4, 5, 6, 7, 8, 9] rfl
                        have hD : va_D A [(h0, .inr (10, mob q rf n mm mb fa9 fp9 av ev wi mn tp tc sc nf fd me mp xn mt wh tq ag an ig)), ((q 2), aI g 600 bs), ((q 14), aI g 620 tg), ((q 16), aI g 620 on), ((q 17), aI g 620 tw), ((q 27), aI g 160 fl), ((q 28), aI g 160 pl), ((q 29), aI g 160 na), ((q 30), aI g 160 ty), ((q 31), aI g 160 ca)] := hD.sub [0, 1, 2, 3, 4, 5, 6, 7, 8, 9] (by decide) rfl
                        exact ih _ (by omega) (i + 1) fa9 fp9 ls _ _ rfl (fun h => absurd h (fun h => hp72_0 (hc9 h))) (by omega) (lv_sub hl [0, 1, 2, 3, 4, 5] rfl) hP hD hS
                      · refine lv_aload_n hx hb d_Mod_linkMember_217 rfl (lv_at hl 4 rfl) ?_
                        refine lv_aload_n hx hb d_Mod_linkMember_218 rfl (lv_at hl 4 rfl) ?_
                        refine va_get (D := g.1) (ci := 10) (v := .ref (q 30)) (C := R_Mod) (T := F_Mod) (N := 61) hx hb hts in_Mod hown hK hP 0 rfl rfl 30 (by decide) (hts _ wd_1280) (fun _ h9 => h9) rfl d_Mod_linkMember_219 ?_
                        refine lv_iload hx hb d_Mod_linkMember_222 (lv_at hl 0 rfl) ?_
                        refine va_iald hx hb hK hP 8 0 rfl rfl (vp_in_nI (by omega) (by decide)) d_Mod_linkMember_224 ?_
                        refine tw_ri (e2 := nI i2) (by rw [nI_clamp (by omega)]; exact v2) ?_
                        refine lv_iload hx hb d_Mod_linkMember_225 (lv_at hl 1 rfl) ?_
                        refine tw_si (tw_runV (ws := [(h0, .inr (10, mob q rf n mm mb fa9 fp9 av ev wi mn tp tc sc nf fd me mp xn mt wh tq ag an ig)), ((q 2), aI g 600 bs), ((q 14), aI g 620 tg), ((q 16), aI g 620 on), ((q 17), aI g 620 tw), ((q 27), aI g 160 fl), ((q 28), aI g 160 pl), ((q 29), aI g 160 na), ((q 30), aI g 160 ty), ((q 31), aI g 160 ca)]) (wc := [(h0, .inr (10, mob q rf n mm mb fa9 fp9 av ev wi mn tp tc sc nf fd me mp xn mt wh tq ag an ig)), ((q 2), aI g 600 bs), ((q 16), aI g 620 on), ((q 17), aI g 620 tw)]) (As := [.int (nI i2), .int (nI jt)]) (rest := []) E hB hK hZ (g_Mod_sameTexts l g H.size h0 q rf n mm mb fa9 fp9 av ev wi mn tp tc sc nf fd me mp xn mt wh tq ag an ig bs on tw i2 jt pi2 li2 pt lt1 (by omega) v3 v4 v5 (by omega) pta ptb ptc) mc_Mod_sameTexts mi_Mod_sameTexts me_Mod_sameTexts wd_1579 hP hD hS hA [0, 1, 3, 4] rfl (by decide) 0 rfl rfl rfl rfl rfl (by decide) rfl hl.1 rfl (Nat.le_of_ble_eq_true rfl) (by decide) d_Mod_linkMember_227) (fun r91 hr91 => ?_)
                        have hB91 := hr91
                        refine lv_if_eq (tgt := 245) hx hb d_Mod_linkMember_230 (by decide) (fun h230 => ?_) (fun h230 => ?_)
                        · refine lv_iinc (k := 0) (v := nI (i + 1)) hx hb d_Mod_linkMember_245 hl rfl ((nI_succ i).symm) (by decide) rfl (fun ls hl => ?_)
                          have hl : lv_has ls 6 [(5, .int (nI (i + 1))), (4, .int (nI jt)), (3, .int (nI jn)), (2, .int 1), (0, .ref h0), (1, .int (nI mi))] := hl
                          refine lv_goto (tgt := 196) hx hb d_Mod_linkMember_248 (by decide) ?_
                          have hP : va_P g.1 classes [(h0, .inr (10, mob q rf n mm mb fa9 fp9 av ev wi mn tp tc sc nf fd me mp xn mt wh tq ag an ig)), ((q 2), aI g 600 bs), ((q 14), aI g 620 tg), ((q 16), aI g 620 on), ((q 17), aI g 620 tw), ((q 27), aI g 160 fl), ((q 28), aI g 160 pl), ((q 29), aI g 160 na), ((q 30), aI g 160 ty), ((q 31), aI g 160 ca)] H := hP.sub [0, 1, 2, 3, 4, 5, 6, 7, 8, 9] rfl
                          have hD : va_D A [(h0, .inr (10, mob q rf n mm mb fa9 fp9 av ev wi mn tp tc sc nf fd me mp xn mt wh tq ag an ig)), ((q 2), aI g 600 bs), ((q 14), aI g 620 tg), ((q 16), aI g 620 on), ((q 17), aI g 620 tw), ((q 27), aI g 160 fl), ((q 28), aI g 160 pl), ((q 29), aI g 160 na), ((q 30), aI g 160 ty), ((q 31), aI g 160 ca)] := hD.sub [0, 1, 2, 3, 4, 5, 6, 7, 8, 9] (by decide) rfl
                          exact ih _ (by omega) (i + 1) fa9 fp9 ls _ _ rfl (fun h => absurd h (fun h => hp72_0 (hc9 h))) (by omega) (lv_sub hl [0, 1, 2, 3, 4, 5] rfl) hP hD hS
                        · refine lv_aload_n hx hb d_Mod_linkMember_233 rfl (lv_at hl 4 rfl) ?_
                          refine lv_bipush (v := 7) hx hb d_Mod_linkMember_234 (by decide) ?_
                          refine lv_aload_n hx hb d_Mod_linkMember_236 rfl (lv_at hl 4 rfl) ?_
                          refine va_get (D := g.1) (ci := 10) (v := .ref (q 28)) (C := R_Mod) (T := F_Mod) (N := 61) hx hb hts in_Mod hown hK hP 0 rfl rfl 28 (by decide) (hts _ wd_1278) (fun _ h9 => h9) rfl d_Mod_linkMember_237 ?_
                          refine lv_iload_n hx hb d_Mod_linkMember_240 rfl (lv_at hl 5 rfl) ?_
                          refine va_iald hx hb hK hP 6 0 rfl rfl (vp_in_nI (by omega) (by decide)) d_Mod_linkMember_241 ?_
                          obtain ⟨x92, ex92⟩ : ∃ z : Int32, pl ((nI mi).toNatClampNeg) = z := ⟨_, rfl⟩
                          refine tw_ri (e2 := x92) ex92 ?_
                          refine tw_wv (wr := [((q 2), aI g 600 bs), ((q 14), aI g 620 tg), ((q 16), aI g 620 on), ((q 17), aI g 620 tw), ((q 27), aI g 160 fl), ((q 28), aI g 160 pl), ((q 29), aI g 160 na), ((q 30), aI g 160 ty), ((q 31), aI g 160 ca)]) (tw_runV (ws := [(h0, .inr (10, mob q rf n mm mb fa9 fp9 av ev wi mn tp tc sc nf fd me mp xn mt wh tq ag an ig)), ((q 2), aI g 600 bs), ((q 14), aI g 620 tg), ((q 16), aI g 620 on), ((q 17), aI g 620 tw), ((q 27), aI g 160 fl), ((q 28), aI g 160 pl), ((q 29), aI g 160 na), ((q 30), aI g 160 ty), ((q 31), aI g 160 ca)]) (wc := [(h0, .inr (10, mob q rf n mm mb fa9 fp9 av ev wi mn tp tc sc nf fd me mp xn mt wh tq ag an ig))]) (As := [.int 7, .int x92]) (rest := []) E hB hK hZ (g_Mod_fail l g H.size h0 q rf n mm mb av ev wi mn tp tc sc nf fd me mp xn mt wh tq ag an ig fa9 fp9 7 x92 (by decide)) mc_Mod_fail mi_Mod_fail me_Mod_fail wd_1478 hP hD hS hA [0] rfl (by decide) 0 rfl rfl rfl rfl rfl (by decide) rfl hl.1 rfl (Nat.le_of_ble_eq_true rfl) (by decide) d_Mod_linkMember_242) hP hD hS hA [0] [1, 2, 3, 4, 5, 6, 7, 8, 9] rfl rfl (by decide) (by decide) (fun u94 H locs hr93 hP hD hS => ?_)
                          try dsimp only at hr93
                          have hP : va_P g.1 classes [((q 2), aI g 600 bs), ((q 14), aI g 620 tg), ((q 16), aI g 620 on), ((q 17), aI g 620 tw), ((q 27), aI g 160 fl), ((q 28), aI g 160 pl), ((q 29), aI g 160 na), ((q 30), aI g 160 ty), ((q 31), aI g 160 ca), (h0, .inr (10, mob q rf n mm mb u94.1 u94.2 av ev wi mn tp tc sc nf fd me mp xn mt wh tq ag an ig))] H := hP
                          have hD : va_D A [((q 2), aI g 600 bs), ((q 14), aI g 620 tg), ((q 16), aI g 620 on), ((q 17), aI g 620 tw), ((q 27), aI g 160 fl), ((q 28), aI g 160 pl), ((q 29), aI g 160 na), ((q 30), aI g 160 ty), ((q 31), aI g 160 ca), (h0, .inr (10, mob q rf n mm mb u94.1 u94.2 av ev wi mn tp tc sc nf fd me mp xn mt wh tq ag an ig))] := hD
                          have hP : va_P g.1 classes [(h0, .inr (10, mob q rf n mm mb u94.1 u94.2 av ev wi mn tp tc sc nf fd me mp xn mt wh tq ag an ig)), ((q 2), aI g 600 bs), ((q 14), aI g 620 tg), ((q 16), aI g 620 on), ((q 17), aI g 620 tw), ((q 27), aI g 160 fl), ((q 28), aI g 160 pl), ((q 29), aI g 160 na), ((q 30), aI g 160 ty), ((q 31), aI g 160 ca)] H := hP.sub [9, 0, 1, 2, 3, 4, 5, 6, 7, 8] rfl
                          have hD : va_D A [(h0, .inr (10, mob q rf n mm mb u94.1 u94.2 av ev wi mn tp tc sc nf fd me mp xn mt wh tq ag an ig)), ((q 2), aI g 600 bs), ((q 14), aI g 620 tg), ((q 16), aI g 620 on), ((q 17), aI g 620 tw), ((q 27), aI g 160 fl), ((q 28), aI g 160 pl), ((q 29), aI g 160 na), ((q 30), aI g 160 ty), ((q 31), aI g 160 ca)] := hD.sub [9, 0, 1, 2, 3, 4, 5, 6, 7, 8] (by decide) rfl
                          have hp94_0 := hr93
                          refine lv_iinc (k := 0) (v := nI (i + 1)) hx hb d_Mod_linkMember_245 hl rfl ((nI_succ i).symm) (by decide) rfl (fun ls hl => ?_)
                          have hl : lv_has ls 6 [(5, .int (nI (i + 1))), (4, .int (nI jt)), (3, .int (nI jn)), (2, .int 1), (0, .ref h0), (1, .int (nI mi))] := hl
                          refine lv_goto (tgt := 196) hx hb d_Mod_linkMember_248 (by decide) ?_
                          have hP : va_P g.1 classes [(h0, .inr (10, mob q rf n mm mb u94.1 u94.2 av ev wi mn tp tc sc nf fd me mp xn mt wh tq ag an ig)), ((q 2), aI g 600 bs), ((q 14), aI g 620 tg), ((q 16), aI g 620 on), ((q 17), aI g 620 tw), ((q 27), aI g 160 fl), ((q 28), aI g 160 pl), ((q 29), aI g 160 na), ((q 30), aI g 160 ty), ((q 31), aI g 160 ca)] H := hP.sub [0, 1, 2, 3, 4, 5, 6, 7, 8, 9] rfl
                          have hD : va_D A [(h0, .inr (10, mob q rf n mm mb u94.1 u94.2 av ev wi mn tp tc sc nf fd me mp xn mt wh tq ag an ig)), ((q 2), aI g 600 bs), ((q 14), aI g 620 tg), ((q 16), aI g 620 on), ((q 17), aI g 620 tw), ((q 27), aI g 160 fl), ((q 28), aI g 160 pl), ((q 29), aI g 160 na), ((q 30), aI g 160 ty), ((q 31), aI g 160 ca)] := hD.sub [0, 1, 2, 3, 4, 5, 6, 7, 8, 9] (by decide) rfl
                          exact ih _ (by omega) (i + 1) u94.1 u94.2 ls _ _ rfl (fun h => absurd h hp94_0) (by omega) (lv_sub hl [0, 1, 2, 3, 4, 5] rfl) hP hD hS
                exact loop196 _ fd u72.1 u72.2 ls _ _ rfl (fun h => h) (by omega) (hl) hP hD hS
        · refine lv_iload_n hx hb d_Mod_linkMember_88 rfl (lv_at hl 2 rfl) ?_
          refine lv_if_eq (tgt := 108) hx hb d_Mod_linkMember_89 (by decide) (fun h89 => ?_) (fun h89 => ?_)
          · first | exact absurd h89 (by decide) | exact absurd (by decide) h89
          · refine lv_aload_n hx hb d_Mod_linkMember_92 rfl (lv_at hl 3 rfl) ?_
            refine lv_iload_n hx hb d_Mod_linkMember_93 rfl (lv_at hl 1 rfl) ?_
            refine tw_si (tw_runV (ws := [(h0, .inr (10, mob q rf n mm mb fa fp av ev wi mn tp tc sc nf fd me mp xn mt wh tq ag an ig)), ((q 2), aI g 600 bs), ((q 14), aI g 620 tg), ((q 16), aI g 620 on), ((q 17), aI g 620 tw), ((q 27), aI g 160 fl), ((q 28), aI g 160 pl), ((q 29), aI g 160 na), ((q 30), aI g 160 ty), ((q 31), aI g 160 ca)]) (wc := [(h0, .inr (10, mob q rf n mm mb fa fp av ev wi mn tp tc sc nf fd me mp xn mt wh tq ag an ig)), ((q 2), aI g 600 bs), ((q 16), aI g 620 on), ((q 17), aI g 620 tw)]) (As := [.int (nI jn)]) (rest := []) E hB hK hZ (g_Mod_isInit l g H.size h0 q rf n mm mb fa fp av ev wi mn tp tc sc nf fd me mp xn mt wh tq ag an ig bs on tw jn pn ln1 (by omega) pna pnb pnc) mc_Mod_isInit mi_Mod_isInit me_Mod_isInit wd_1551 hP hD hS hA [0, 1, 3, 4] rfl (by decide) 0 rfl rfl rfl rfl rfl (by decide) rfl hl.1 rfl (Nat.le_of_ble_eq_true rfl) (by decide) d_Mod_linkMember_94) (fun r95 hr95 => ?_)
            have hB95 := hr95
            refine lv_if_ne (tgt := 123) hx hb d_Mod_linkMember_97 (by decide) (fun h97 => ?_) (fun h97 => ?_)
            · refine lv_iload_n hx hb d_Mod_linkMember_123 rfl (lv_at hl 2 rfl) ?_
              refine lv_if_eq (tgt := 150) hx hb d_Mod_linkMember_124 (by decide) (fun h124 => ?_) (fun h124 => ?_)
              · first | exact absurd h124 (by decide) | exact absurd (by decide) h124
              · refine lv_aload_n hx hb d_Mod_linkMember_127 rfl (lv_at hl 3 rfl) ?_
                refine lv_aload_n hx hb d_Mod_linkMember_128 rfl (lv_at hl 3 rfl) ?_
                refine va_get (D := g.1) (ci := 10) (v := .ref (q 16)) (C := R_Mod) (T := F_Mod) (N := 61) hx hb hts in_Mod hown hK hP 0 rfl rfl 16 (by decide) (hts _ wd_1266) (fun _ h9 => h9) rfl d_Mod_linkMember_129 ?_
                refine lv_iload hx hb d_Mod_linkMember_132 (lv_at hl 0 rfl) ?_
                refine va_iald hx hb hK hP 3 0 rfl rfl (vp_in_nI (by omega) (by decide)) d_Mod_linkMember_134 ?_
                refine tw_ri (e2 := nI pt) (by rw [nI_clamp (by omega)]; exact pta) ?_
                refine lv_aload_n hx hb d_Mod_linkMember_135 rfl (lv_at hl 3 rfl) ?_
                refine lv_iload hx hb d_Mod_linkMember_136 (lv_at hl 0 rfl) ?_
                refine tw_si (tw_runV (ws := [(h0, .inr (10, mob q rf n mm mb fa fp av ev wi mn tp tc sc nf fd me mp xn mt wh tq ag an ig)), ((q 2), aI g 600 bs), ((q 14), aI g 620 tg), ((q 16), aI g 620 on), ((q 17), aI g 620 tw), ((q 27), aI g 160 fl), ((q 28), aI g 160 pl), ((q 29), aI g 160 na), ((q 30), aI g 160 ty), ((q 31), aI g 160 ca)]) (wc := [(h0, .inr (10, mob q rf n mm mb fa fp av ev wi mn tp tc sc nf fd me mp xn mt wh tq ag an ig)), ((q 16), aI g 620 on), ((q 17), aI g 620 tw)]) (As := [.int (nI jt)]) (rest := [.int (nI pt), .ref h0]) E hB hK hZ (g_Mod_endOf l g H.size h0 q rf n mm mb fa fp av ev wi mn tp tc sc nf fd me mp xn mt wh tq ag an ig on tw jt pt lt1 (by omega) pta ptb ptc) mc_Mod_endOf mi_Mod_endOf me_Mod_endOf wd_1536 hP hD hS hA [0, 3, 4] rfl (by decide) 0 rfl rfl rfl rfl rfl (by decide) rfl hl.1 rfl (Nat.le_of_ble_eq_true rfl) (by decide) d_Mod_linkMember_138) (fun r96 hr96 => ?_)
                have hB96 := hr96
                subst hB96
                refine tw_si (tw_runV (ws := [(h0, .inr (10, mob q rf n mm mb fa fp av ev wi mn tp tc sc nf fd me mp xn mt wh tq ag an ig)), ((q 2), aI g 600 bs), ((q 14), aI g 620 tg), ((q 16), aI g 620 on), ((q 17), aI g 620 tw), ((q 27), aI g 160 fl), ((q 28), aI g 160 pl), ((q 29), aI g 160 na), ((q 30), aI g 160 ty), ((q 31), aI g 160 ca)]) (wc := [(h0, .inr (10, mob q rf n mm mb fa fp av ev wi mn tp tc sc nf fd me mp xn mt wh tq ag an ig)), ((q 2), aI g 600 bs)]) (As := [.int (nI pt), .int (nI (pt + lt1))]) (rest := []) E hB hK hZ (g_Mod_isMethodType l g H.size h0 q rf n mm mb fa fp av ev wi mn tp tc sc nf fd me mp xn mt wh tq ag an ig bs pt (pt + lt1) (by omega) (by omega)) mc_Mod_isMethodType mi_Mod_isMethodType me_Mod_isMethodType wd_1563 hP hD hS hA [0, 1] rfl (by decide) 0 rfl rfl rfl rfl rfl (by decide) rfl hl.1 rfl (Nat.le_of_ble_eq_true rfl) (by decide) d_Mod_linkMember_141) (fun r97 hr97 => ?_)
                have hB97 := hr97
                refine lv_if_ne (tgt := 182) hx hb d_Mod_linkMember_144 (by decide) (fun h144 => ?_) (fun h144 => ?_)
                · have hT144 := hB97.2 (hB97.1.resolve_left h144)
                  refine lv_iload_n hx hb d_Mod_linkMember_182 rfl (lv_at hl 2 rfl) ?_
                  refine lv_if_eq (tgt := 193) hx hb d_Mod_linkMember_183 (by decide) (fun h183 => ?_) (fun h183 => ?_)
                  · first | exact absurd h183 (by decide) | exact absurd (by decide) h183
                  · refine lv_aload_n hx hb d_Mod_linkMember_186 rfl (lv_at hl 3 rfl) ?_
                    refine va_get (D := g.1) (ci := 10) (v := .int (nI fd)) (C := R_Mod) (T := F_Mod) (N := 61) hx hb hts in_Mod hown hK hP 0 rfl rfl 24 (by decide) (hts _ wd_1274) (fun _ h9 => h9) rfl d_Mod_linkMember_187 ?_
                    refine lv_goto (tgt := 194) hx hb d_Mod_linkMember_190 (by decide) ?_
                    refine lv_istore hx hb d_Mod_linkMember_194 hl (by decide) rfl (fun ls hl => ?_)
                    have hl : lv_has ls 6 [(5, .int (nI fd)), (4, .int (nI jt)), (3, .int (nI jn)), (2, .int 1), (0, .ref h0), (1, .int (nI mi))] := hl
                    have loop196 : ∀ (kq : Nat) (i : Nat) (fa9 : Int32) (fp9 : Int32) (ls : Array Slot) (H : Heap) (locs : List Loc) , mi - i = kq → (hc9 : fa9 = 0 → fa = 0) → (hib : i ≤ 160) → lv_has ls 6 [(5, .int (nI i)), (4, .int (nI jt)), (3, .int (nI jn)), (2, .int 1), (0, .ref h0), (1, .int (nI mi))] → va_P g.1 classes [(h0, .inr (10, mob q rf n mm mb fa9 fp9 av ev wi mn tp tc sc nf fd me mp xn mt wh tq ag an ig)), ((q 2), aI g 600 bs), ((q 14), aI g 620 tg), ((q 16), aI g 620 on), ((q 17), aI g 620 tw), ((q 27), aI g 160 fl), ((q 28), aI g 160 pl), ((q 29), aI g 160 na), ((q 30), aI g 160 ty), ((q 31), aI g 160 ca)] H → va_D A [(h0, .inr (10, mob q rf n mm mb fa9 fp9 av ev wi mn tp tc sc nf fd me mp xn mt wh tq ag an ig)), ((q 2), aI g 600 bs), ((q 14), aI g 620 tg), ((q 16), aI g 620 on), ((q 17), aI g 620 tw), ((q 27), aI g 160 fl), ((q 28), aI g 160 pl), ((q 29), aI g 160 na), ((q 30), aI g 160 ty), ((q 31), aI g 160 ca)] → va_S A s.heap H locs → W p l e ({ frames := 6, cells := 0, slots := 0, locals := 139 }) s m [.ref h0, .int (nI mi)].toArray below meth c H locs 0 0 (MQ below (tw_Qv g (fun (u : Int32 × Int32) => (u.1 = 0 → fa = 0) ∧ (u.1 = 0 → LMB bs mn tg on tw fd na ty mi)) (fun u : Int32 × Int32 => [(h0, .inr (10, mob q rf n mm mb u.1 u.2 av ev wi mn tp tc sc nf fd me mp xn mt wh tq ag an ig)), ((q 2), aI g 600 bs), ((q 14), aI g 620 tg), ((q 16), aI g 620 on), ((q 17), aI g 620 tw), ((q 27), aI g 160 fl), ((q 28), aI g 160 pl), ((q 29), aI g 160 na), ((q 30), aI g 160 ty), ((q 31), aI g 160 ca)]) A) [.ref h0, .int (nI mi)].toArray s 0 0 A) (F0 m 196 ls []) := by
                      intro kq
                      induction kq using Nat.strongRecOn with
                      | _ kq ih =>
                        intro i fa9 fp9 ls H locs hk hc9 hib hl hP hD hS
                        refine lv_iload hx hb d_Mod_linkMember_196 (lv_at hl 0 rfl) ?_
                        refine lv_iload_n hx hb d_Mod_linkMember_198 rfl (lv_at hl 5 rfl) ?_
                        refine lv_icmp_ge (tgt := 251) hx hb d_Mod_linkMember_199 (by decide) (fun h199 => ?_) (fun h199 => ?_)
                        · refine lv_iload_n hx hb d_Mod_linkMember_251 rfl (lv_at hl 3 rfl) ?_
                          refine lv_if_eq (tgt := 302) hx hb d_Mod_linkMember_252 (by decide) (fun h252 => ?_) (fun h252 => ?_)
                          · first | exact absurd h252 (by decide) | exact absurd (by decide) h252
                          · refine lv_aload_n hx hb d_Mod_linkMember_255 rfl (lv_at hl 4 rfl) ?_
                            refine va_get (D := g.1) (ci := 10) (v := .ref (q 31)) (C := R_Mod) (T := F_Mod) (N := 61) hx hb hts in_Mod hown hK hP 0 rfl rfl 31 (by decide) (hts _ wd_1281) (fun _ h9 => h9) rfl d_Mod_linkMember_256 ?_
                            refine lv_iload_n hx hb d_Mod_linkMember_259 rfl (lv_at hl 5 rfl) ?_
                            refine va_iald hx hb hK hP 9 0 rfl rfl (vp_in_nI (by omega) (by decide)) d_Mod_linkMember_260 ?_
                            obtain ⟨x98, ex98⟩ : ∃ z : Int32, ca ((nI mi).toNatClampNeg) = z := ⟨_, rfl⟩
                            refine tw_ri (e2 := x98) ex98 ?_
                            refine lv_if_le (tgt := 268) hx hb d_Mod_linkMember_261 (by decide) (fun h261 => ?_) (fun h261 => ?_)
                            · refine lv_iconst (v := 0) hx hb d_Mod_linkMember_268 (by decide) ?_
                              refine lv_aload_n hx hb d_Mod_linkMember_269 rfl (lv_at hl 4 rfl) ?_
                              refine va_get (D := g.1) (ci := 10) (v := .ref (q 27)) (C := R_Mod) (T := F_Mod) (N := 61) hx hb hts in_Mod hown hK hP 0 rfl rfl 27 (by decide) (hts _ wd_1277) (fun _ h9 => h9) rfl d_Mod_linkMember_270 ?_
                              refine lv_iload_n hx hb d_Mod_linkMember_273 rfl (lv_at hl 5 rfl) ?_
                              refine va_iald hx hb hK hP 5 0 rfl rfl (vp_in_nI (by omega) (by decide)) d_Mod_linkMember_274 ?_
                              obtain ⟨x99, ex99⟩ : ∃ z : Int32, fl ((nI mi).toNatClampNeg) = z := ⟨_, rfl⟩
                              refine tw_ri (e2 := x99) ex99 ?_
                              refine lv_sipush (v := 1280) hx hb d_Mod_linkMember_275 (by decide) ?_
                              refine lv_iand hx hb d_Mod_linkMember_278 ?_
                              obtain ⟨x100, ex100⟩ : ∃ z : Int32, x99 &&& 1280 = z := ⟨_, rfl⟩
                              refine tw_ri (e2 := x100) ex100 ?_
                              refine lv_if_eq (tgt := 286) hx hb d_Mod_linkMember_279 (by decide) (fun h279 => ?_) (fun h279 => ?_)
                              · refine lv_iconst (v := 0) hx hb d_Mod_linkMember_286 (by decide) ?_
                                refine lv_icmp_ne (tgt := 302) hx hb d_Mod_linkMember_287 (by decide) (fun h287 => ?_) (fun h287 => ?_)
                                · exact tw_vret E hS (fa9, fp9) (⟨(fun _ => hf0), (fun hz => by have hz101 := hc9 hz; exact ⟨⟨jn, jn0, jn1, exn2, jnt⟩, ⟨jt, pt, lt1, jt0, jt1, ext2, jtt, pta, ptb, ptc, (fun _ => hT144)⟩⟩)⟩) hP hD d_Mod_linkMember_302
                                · refine lv_aload_n hx hb d_Mod_linkMember_290 rfl (lv_at hl 4 rfl) ?_
                                  refine lv_bipush (v := 12) hx hb d_Mod_linkMember_291 (by decide) ?_
                                  refine lv_aload_n hx hb d_Mod_linkMember_293 rfl (lv_at hl 4 rfl) ?_
                                  refine va_get (D := g.1) (ci := 10) (v := .ref (q 28)) (C := R_Mod) (T := F_Mod) (N := 61) hx hb hts in_Mod hown hK hP 0 rfl rfl 28 (by decide) (hts _ wd_1278) (fun _ h9 => h9) rfl d_Mod_linkMember_294 ?_
                                  refine lv_iload_n hx hb d_Mod_linkMember_297 rfl (lv_at hl 5 rfl) ?_
                                  refine va_iald hx hb hK hP 6 0 rfl rfl (vp_in_nI (by omega) (by decide)) d_Mod_linkMember_298 ?_
                                  obtain ⟨x102, ex102⟩ : ∃ z : Int32, pl ((nI mi).toNatClampNeg) = z := ⟨_, rfl⟩
                                  refine tw_ri (e2 := x102) ex102 ?_
                                  refine tw_wv (wr := [((q 2), aI g 600 bs), ((q 14), aI g 620 tg), ((q 16), aI g 620 on), ((q 17), aI g 620 tw), ((q 27), aI g 160 fl), ((q 28), aI g 160 pl), ((q 29), aI g 160 na), ((q 30), aI g 160 ty), ((q 31), aI g 160 ca)]) (tw_runV (ws := [(h0, .inr (10, mob q rf n mm mb fa9 fp9 av ev wi mn tp tc sc nf fd me mp xn mt wh tq ag an ig)), ((q 2), aI g 600 bs), ((q 14), aI g 620 tg), ((q 16), aI g 620 on), ((q 17), aI g 620 tw), ((q 27), aI g 160 fl), ((q 28), aI g 160 pl), ((q 29), aI g 160 na), ((q 30), aI g 160 ty), ((q 31), aI g 160 ca)]) (wc := [(h0, .inr (10, mob q rf n mm mb fa9 fp9 av ev wi mn tp tc sc nf fd me mp xn mt wh tq ag an ig))]) (As := [.int 12, .int x102]) (rest := []) E hB hK hZ (g_Mod_fail l g H.size h0 q rf n mm mb av ev wi mn tp tc sc nf fd me mp xn mt wh tq ag an ig fa9 fp9 12 x102 (by decide)) mc_Mod_fail mi_Mod_fail me_Mod_fail wd_1478 hP hD hS hA [0] rfl (by decide) 0 rfl rfl rfl rfl rfl (by decide) rfl hl.1 rfl (Nat.le_of_ble_eq_true rfl) (by decide) d_Mod_linkMember_299) hP hD hS hA [0] [1, 2, 3, 4, 5, 6, 7, 8, 9] rfl rfl (by decide) (by decide) (fun u104 H locs hr103 hP hD hS => ?_)
                                  try dsimp only at hr103
                                  have hP : va_P g.1 classes [((q 2), aI g 600 bs), ((q 14), aI g 620 tg), ((q 16), aI g 620 on), ((q 17), aI g 620 tw), ((q 27), aI g 160 fl), ((q 28), aI g 160 pl), ((q 29), aI g 160 na), ((q 30), aI g 160 ty), ((q 31), aI g 160 ca), (h0, .inr (10, mob q rf n mm mb u104.1 u104.2 av ev wi mn tp tc sc nf fd me mp xn mt wh tq ag an ig))] H := hP
                                  have hD : va_D A [((q 2), aI g 600 bs), ((q 14), aI g 620 tg), ((q 16), aI g 620 on), ((q 17), aI g 620 tw), ((q 27), aI g 160 fl), ((q 28), aI g 160 pl), ((q 29), aI g 160 na), ((q 30), aI g 160 ty), ((q 31), aI g 160 ca), (h0, .inr (10, mob q rf n mm mb u104.1 u104.2 av ev wi mn tp tc sc nf fd me mp xn mt wh tq ag an ig))] := hD
                                  have hP : va_P g.1 classes [(h0, .inr (10, mob q rf n mm mb u104.1 u104.2 av ev wi mn tp tc sc nf fd me mp xn mt wh tq ag an ig)), ((q 2), aI g 600 bs), ((q 14), aI g 620 tg), ((q 16), aI g 620 on), ((q 17), aI g 620 tw), ((q 27), aI g 160 fl), ((q 28), aI g 160 pl), ((q 29), aI g 160 na), ((q 30), aI g 160 ty), ((q 31), aI g 160 ca)] H := hP.sub [9, 0, 1, 2, 3, 4, 5, 6, 7, 8] rfl
                                  have hD : va_D A [(h0, .inr (10, mob q rf n mm mb u104.1 u104.2 av ev wi mn tp tc sc nf fd me mp xn mt wh tq ag an ig)), ((q 2), aI g 600 bs), ((q 14), aI g 620 tg), ((q 16), aI g 620 on), ((q 17), aI g 620 tw), ((q 27), aI g 160 fl), ((q 28), aI g 160 pl), ((q 29), aI g 160 na), ((q 30), aI g 160 ty), ((q 31), aI g 160 ca)] := hD.sub [9, 0, 1, 2, 3, 4, 5, 6, 7, 8] (by decide) rfl
                                  have hp104_0 := hr103
                                  exact tw_vret E hS (u104.1, u104.2) (⟨(fun h => absurd h hp104_0), (fun h => absurd h hp104_0)⟩) hP hD d_Mod_linkMember_302
                              · refine lv_iconst (v := 1) hx hb d_Mod_linkMember_282 (by decide) ?_
                                refine lv_goto (tgt := 287) hx hb d_Mod_linkMember_283 (by decide) ?_
                                refine lv_icmp_ne (tgt := 302) hx hb d_Mod_linkMember_287 (by decide) (fun h287 => ?_) (fun h287 => ?_)
                                · exact tw_vret E hS (fa9, fp9) (⟨(fun _ => hf0), (fun hz => by have hz105 := hc9 hz; exact ⟨⟨jn, jn0, jn1, exn2, jnt⟩, ⟨jt, pt, lt1, jt0, jt1, ext2, jtt, pta, ptb, ptc, (fun _ => hT144)⟩⟩)⟩) hP hD d_Mod_linkMember_302
                                · refine lv_aload_n hx hb d_Mod_linkMember_290 rfl (lv_at hl 4 rfl) ?_
                                  refine lv_bipush (v := 12) hx hb d_Mod_linkMember_291 (by decide) ?_
                                  refine lv_aload_n hx hb d_Mod_linkMember_293 rfl (lv_at hl 4 rfl) ?_
                                  refine va_get (D := g.1) (ci := 10) (v := .ref (q 28)) (C := R_Mod) (T := F_Mod) (N := 61) hx hb hts in_Mod hown hK hP 0 rfl rfl 28 (by decide) (hts _ wd_1278) (fun _ h9 => h9) rfl d_Mod_linkMember_294 ?_
                                  refine lv_iload_n hx hb d_Mod_linkMember_297 rfl (lv_at hl 5 rfl) ?_
                                  refine va_iald hx hb hK hP 6 0 rfl rfl (vp_in_nI (by omega) (by decide)) d_Mod_linkMember_298 ?_
                                  obtain ⟨x106, ex106⟩ : ∃ z : Int32, pl ((nI mi).toNatClampNeg) = z := ⟨_, rfl⟩
                                  refine tw_ri (e2 := x106) ex106 ?_
                                  refine tw_wv (wr := [((q 2), aI g 600 bs), ((q 14), aI g 620 tg), ((q 16), aI g 620 on), ((q 17), aI g 620 tw), ((q 27), aI g 160 fl), ((q 28), aI g 160 pl), ((q 29), aI g 160 na), ((q 30), aI g 160 ty), ((q 31), aI g 160 ca)]) (tw_runV (ws := [(h0, .inr (10, mob q rf n mm mb fa9 fp9 av ev wi mn tp tc sc nf fd me mp xn mt wh tq ag an ig)), ((q 2), aI g 600 bs), ((q 14), aI g 620 tg), ((q 16), aI g 620 on), ((q 17), aI g 620 tw), ((q 27), aI g 160 fl), ((q 28), aI g 160 pl), ((q 29), aI g 160 na), ((q 30), aI g 160 ty), ((q 31), aI g 160 ca)]) (wc := [(h0, .inr (10, mob q rf n mm mb fa9 fp9 av ev wi mn tp tc sc nf fd me mp xn mt wh tq ag an ig))]) (As := [.int 12, .int x106]) (rest := []) E hB hK hZ (g_Mod_fail l g H.size h0 q rf n mm mb av ev wi mn tp tc sc nf fd me mp xn mt wh tq ag an ig fa9 fp9 12 x106 (by decide)) mc_Mod_fail mi_Mod_fail me_Mod_fail wd_1478 hP hD hS hA [0] rfl (by decide) 0 rfl rfl rfl rfl rfl (by decide) rfl hl.1 rfl (Nat.le_of_ble_eq_true rfl) (by decide) d_Mod_linkMember_299) hP hD hS hA [0] [1, 2, 3, 4, 5, 6, 7, 8, 9] rfl rfl (by decide) (by decide) (fun u108 H locs hr107 hP hD hS => ?_)
                                  try dsimp only at hr107
                                  have hP : va_P g.1 classes [((q 2), aI g 600 bs), ((q 14), aI g 620 tg), ((q 16), aI g 620 on), ((q 17), aI g 620 tw), ((q 27), aI g 160 fl), ((q 28), aI g 160 pl), ((q 29), aI g 160 na), ((q 30), aI g 160 ty), ((q 31), aI g 160 ca), (h0, .inr (10, mob q rf n mm mb u108.1 u108.2 av ev wi mn tp tc sc nf fd me mp xn mt wh tq ag an ig))] H := hP
                                  have hD : va_D A [((q 2), aI g 600 bs), ((q 14), aI g 620 tg), ((q 16), aI g 620 on), ((q 17), aI g 620 tw), ((q 27), aI g 160 fl), ((q 28), aI g 160 pl), ((q 29), aI g 160 na), ((q 30), aI g 160 ty), ((q 31), aI g 160 ca), (h0, .inr (10, mob q rf n mm mb u108.1 u108.2 av ev wi mn tp tc sc nf fd me mp xn mt wh tq ag an ig))] := hD
                                  have hP : va_P g.1 classes [(h0, .inr (10, mob q rf n mm mb u108.1 u108.2 av ev wi mn tp tc sc nf fd me mp xn mt wh tq ag an ig)), ((q 2), aI g 600 bs), ((q 14), aI g 620 tg), ((q 16), aI g 620 on), ((q 17), aI g 620 tw), ((q 27), aI g 160 fl), ((q 28), aI g 160 pl), ((q 29), aI g 160 na), ((q 30), aI g 160 ty), ((q 31), aI g 160 ca)] H := hP.sub [9, 0, 1, 2, 3, 4, 5, 6, 7, 8] rfl
                                  have hD : va_D A [(h0, .inr (10, mob q rf n mm mb u108.1 u108.2 av ev wi mn tp tc sc nf fd me mp xn mt wh tq ag an ig)), ((q 2), aI g 600 bs), ((q 14), aI g 620 tg), ((q 16), aI g 620 on), ((q 17), aI g 620 tw), ((q 27), aI g 160 fl), ((q 28), aI g 160 pl), ((q 29), aI g 160 na), ((q 30), aI g 160 ty), ((q 31), aI g 160 ca)] := hD.sub [9, 0, 1, 2, 3, 4, 5, 6, 7, 8] (by decide) rfl
                                  have hp108_0 := hr107
                                  exact tw_vret E hS (u108.1, u108.2) (⟨(fun h => absurd h hp108_0), (fun h => absurd h hp108_0)⟩) hP hD d_Mod_linkMember_302
                            · refine lv_iconst (v := 1) hx hb d_Mod_linkMember_264 (by decide) ?_
                              refine lv_goto (tgt := 269) hx hb d_Mod_linkMember_265 (by decide) ?_
                              refine lv_aload_n hx hb d_Mod_linkMember_269 rfl (lv_at hl 4 rfl) ?_
                              refine va_get (D := g.1) (ci := 10) (v := .ref (q 27)) (C := R_Mod) (T := F_Mod) (N := 61) hx hb hts in_Mod hown hK hP 0 rfl rfl 27 (by decide) (hts _ wd_1277) (fun _ h9 => h9) rfl d_Mod_linkMember_270 ?_
                              refine lv_iload_n hx hb d_Mod_linkMember_273 rfl (lv_at hl 5 rfl) ?_
                              refine va_iald hx hb hK hP 5 0 rfl rfl (vp_in_nI (by omega) (by decide)) d_Mod_linkMember_274 ?_
                              obtain ⟨x109, ex109⟩ : ∃ z : Int32, fl ((nI mi).toNatClampNeg) = z := ⟨_, rfl⟩
                              refine tw_ri (e2 := x109) ex109 ?_
                              refine lv_sipush (v := 1280) hx hb d_Mod_linkMember_275 (by decide) ?_
                              refine lv_iand hx hb d_Mod_linkMember_278 ?_
                              obtain ⟨x110, ex110⟩ : ∃ z : Int32, x109 &&& 1280 = z := ⟨_, rfl⟩
                              refine tw_ri (e2 := x110) ex110 ?_
                              refine lv_if_eq (tgt := 286) hx hb d_Mod_linkMember_279 (by decide) (fun h279 => ?_) (fun h279 => ?_)
                              · refine lv_iconst (v := 0) hx hb d_Mod_linkMember_286 (by decide) ?_
                                refine lv_icmp_ne (tgt := 302) hx hb d_Mod_linkMember_287 (by decide) (fun h287 => ?_) (fun h287 => ?_)
                                · exact tw_vret E hS (fa9, fp9) (⟨(fun _ => hf0), (fun hz => by have hz111 := hc9 hz; exact ⟨⟨jn, jn0, jn1, exn2, jnt⟩, ⟨jt, pt, lt1, jt0, jt1, ext2, jtt, pta, ptb, ptc, (fun _ => hT144)⟩⟩)⟩) hP hD d_Mod_linkMember_302
                                · refine lv_aload_n hx hb d_Mod_linkMember_290 rfl (lv_at hl 4 rfl) ?_
                                  refine lv_bipush (v := 12) hx hb d_Mod_linkMember_291 (by decide) ?_
                                  refine lv_aload_n hx hb d_Mod_linkMember_293 rfl (lv_at hl 4 rfl) ?_
                                  refine va_get (D := g.1) (ci := 10) (v := .ref (q 28)) (C := R_Mod) (T := F_Mod) (N := 61) hx hb hts in_Mod hown hK hP 0 rfl rfl 28 (by decide) (hts _ wd_1278) (fun _ h9 => h9) rfl d_Mod_linkMember_294 ?_
                                  refine lv_iload_n hx hb d_Mod_linkMember_297 rfl (lv_at hl 5 rfl) ?_
                                  refine va_iald hx hb hK hP 6 0 rfl rfl (vp_in_nI (by omega) (by decide)) d_Mod_linkMember_298 ?_
                                  obtain ⟨x112, ex112⟩ : ∃ z : Int32, pl ((nI mi).toNatClampNeg) = z := ⟨_, rfl⟩
                                  refine tw_ri (e2 := x112) ex112 ?_
                                  refine tw_wv (wr := [((q 2), aI g 600 bs), ((q 14), aI g 620 tg), ((q 16), aI g 620 on), ((q 17), aI g 620 tw), ((q 27), aI g 160 fl), ((q 28), aI g 160 pl), ((q 29), aI g 160 na), ((q 30), aI g 160 ty), ((q 31), aI g 160 ca)]) (tw_runV (ws := [(h0, .inr (10, mob q rf n mm mb fa9 fp9 av ev wi mn tp tc sc nf fd me mp xn mt wh tq ag an ig)), ((q 2), aI g 600 bs), ((q 14), aI g 620 tg), ((q 16), aI g 620 on), ((q 17), aI g 620 tw), ((q 27), aI g 160 fl), ((q 28), aI g 160 pl), ((q 29), aI g 160 na), ((q 30), aI g 160 ty), ((q 31), aI g 160 ca)]) (wc := [(h0, .inr (10, mob q rf n mm mb fa9 fp9 av ev wi mn tp tc sc nf fd me mp xn mt wh tq ag an ig))]) (As := [.int 12, .int x112]) (rest := []) E hB hK hZ (g_Mod_fail l g H.size h0 q rf n mm mb av ev wi mn tp tc sc nf fd me mp xn mt wh tq ag an ig fa9 fp9 12 x112 (by decide)) mc_Mod_fail mi_Mod_fail me_Mod_fail wd_1478 hP hD hS hA [0] rfl (by decide) 0 rfl rfl rfl rfl rfl (by decide) rfl hl.1 rfl (Nat.le_of_ble_eq_true rfl) (by decide) d_Mod_linkMember_299) hP hD hS hA [0] [1, 2, 3, 4, 5, 6, 7, 8, 9] rfl rfl (by decide) (by decide) (fun u114 H locs hr113 hP hD hS => ?_)
                                  try dsimp only at hr113
                                  have hP : va_P g.1 classes [((q 2), aI g 600 bs), ((q 14), aI g 620 tg), ((q 16), aI g 620 on), ((q 17), aI g 620 tw), ((q 27), aI g 160 fl), ((q 28), aI g 160 pl), ((q 29), aI g 160 na), ((q 30), aI g 160 ty), ((q 31), aI g 160 ca), (h0, .inr (10, mob q rf n mm mb u114.1 u114.2 av ev wi mn tp tc sc nf fd me mp xn mt wh tq ag an ig))] H := hP
                                  have hD : va_D A [((q 2), aI g 600 bs), ((q 14), aI g 620 tg), ((q 16), aI g 620 on), ((q 17), aI g 620 tw), ((q 27), aI g 160 fl), ((q 28), aI g 160 pl), ((q 29), aI g 160 na), ((q 30), aI g 160 ty), ((q 31), aI g 160 ca), (h0, .inr (10, mob q rf n mm mb u114.1 u114.2 av ev wi mn tp tc sc nf fd me mp xn mt wh tq ag an ig))] := hD
                                  have hP : va_P g.1 classes [(h0, .inr (10, mob q rf n mm mb u114.1 u114.2 av ev wi mn tp tc sc nf fd me mp xn mt wh tq ag an ig)), ((q 2), aI g 600 bs), ((q 14), aI g 620 tg), ((q 16), aI g 620 on), ((q 17), aI g 620 tw), ((q 27), aI g 160 fl), ((q 28), aI g 160 pl), ((q 29), aI g 160 na), ((q 30), aI g 160 ty), ((q 31), aI g 160 ca)] H := hP.sub [9, 0, 1, 2, 3, 4, 5, 6, 7, 8] rfl
                                  have hD : va_D A [(h0, .inr (10, mob q rf n mm mb u114.1 u114.2 av ev wi mn tp tc sc nf fd me mp xn mt wh tq ag an ig)), ((q 2), aI g 600 bs), ((q 14), aI g 620 tg), ((q 16), aI g 620 on), ((q 17), aI g 620 tw), ((q 27), aI g 160 fl), ((q 28), aI g 160 pl), ((q 29), aI g 160 na), ((q 30), aI g 160 ty), ((q 31), aI g 160 ca)] := hD.sub [9, 0, 1, 2, 3, 4, 5, 6, 7, 8] (by decide) rfl
                                  have hp114_0 := hr113
                                  exact tw_vret E hS (u114.1, u114.2) (⟨(fun h => absurd h hp114_0), (fun h => absurd h hp114_0)⟩) hP hD d_Mod_linkMember_302
                              · refine lv_iconst (v := 1) hx hb d_Mod_linkMember_282 (by decide) ?_
                                refine lv_goto (tgt := 287) hx hb d_Mod_linkMember_283 (by decide) ?_
                                refine lv_icmp_ne (tgt := 302) hx hb d_Mod_linkMember_287 (by decide) (fun h287 => ?_) (fun h287 => ?_)
                                · exact tw_vret E hS (fa9, fp9) (⟨(fun _ => hf0), (fun hz => by have hz115 := hc9 hz; exact ⟨⟨jn, jn0, jn1, exn2, jnt⟩, ⟨jt, pt, lt1, jt0, jt1, ext2, jtt, pta, ptb, ptc, (fun _ => hT144)⟩⟩)⟩) hP hD d_Mod_linkMember_302
                                · refine lv_aload_n hx hb d_Mod_linkMember_290 rfl (lv_at hl 4 rfl) ?_
                                  refine lv_bipush (v := 12) hx hb d_Mod_linkMember_291 (by decide) ?_
                                  refine lv_aload_n hx hb d_Mod_linkMember_293 rfl (lv_at hl 4 rfl) ?_
                                  refine va_get (D := g.1) (ci := 10) (v := .ref (q 28)) (C := R_Mod) (T := F_Mod) (N := 61) hx hb hts in_Mod hown hK hP 0 rfl rfl 28 (by decide) (hts _ wd_1278) (fun _ h9 => h9) rfl d_Mod_linkMember_294 ?_
                                  refine lv_iload_n hx hb d_Mod_linkMember_297 rfl (lv_at hl 5 rfl) ?_
                                  refine va_iald hx hb hK hP 6 0 rfl rfl (vp_in_nI (by omega) (by decide)) d_Mod_linkMember_298 ?_
                                  obtain ⟨x116, ex116⟩ : ∃ z : Int32, pl ((nI mi).toNatClampNeg) = z := ⟨_, rfl⟩
                                  refine tw_ri (e2 := x116) ex116 ?_
                                  refine tw_wv (wr := [((q 2), aI g 600 bs), ((q 14), aI g 620 tg), ((q 16), aI g 620 on), ((q 17), aI g 620 tw), ((q 27), aI g 160 fl), ((q 28), aI g 160 pl), ((q 29), aI g 160 na), ((q 30), aI g 160 ty), ((q 31), aI g 160 ca)]) (tw_runV (ws := [(h0, .inr (10, mob q rf n mm mb fa9 fp9 av ev wi mn tp tc sc nf fd me mp xn mt wh tq ag an ig)), ((q 2), aI g 600 bs), ((q 14), aI g 620 tg), ((q 16), aI g 620 on), ((q 17), aI g 620 tw), ((q 27), aI g 160 fl), ((q 28), aI g 160 pl), ((q 29), aI g 160 na), ((q 30), aI g 160 ty), ((q 31), aI g 160 ca)]) (wc := [(h0, .inr (10, mob q rf n mm mb fa9 fp9 av ev wi mn tp tc sc nf fd me mp xn mt wh tq ag an ig))]) (As := [.int 12, .int x116]) (rest := []) E hB hK hZ (g_Mod_fail l g H.size h0 q rf n mm mb av ev wi mn tp tc sc nf fd me mp xn mt wh tq ag an ig fa9 fp9 12 x116 (by decide)) mc_Mod_fail mi_Mod_fail me_Mod_fail wd_1478 hP hD hS hA [0] rfl (by decide) 0 rfl rfl rfl rfl rfl (by decide) rfl hl.1 rfl (Nat.le_of_ble_eq_true rfl) (by decide) d_Mod_linkMember_299) hP hD hS hA [0] [1, 2, 3, 4, 5, 6, 7, 8, 9] rfl rfl (by decide) (by decide) (fun u118 H locs hr117 hP hD hS => ?_)
                                  try dsimp only at hr117
                                  have hP : va_P g.1 classes [((q 2), aI g 600 bs), ((q 14), aI g 620 tg), ((q 16), aI g 620 on), ((q 17), aI g 620 tw), ((q 27), aI g 160 fl), ((q 28), aI g 160 pl), ((q 29), aI g 160 na), ((q 30), aI g 160 ty), ((q 31), aI g 160 ca), (h0, .inr (10, mob q rf n mm mb u118.1 u118.2 av ev wi mn tp tc sc nf fd me mp xn mt wh tq ag an ig))] H := hP
                                  have hD : va_D A [((q 2), aI g 600 bs), ((q 14), aI g 620 tg), ((q 16), aI g 620 on), ((q 17), aI g 620 tw), ((q 27), aI g 160 fl), ((q 28), aI g 160 pl), ((q 29), aI g 160 na), ((q 30), aI g 160 ty), ((q 31), aI g 160 ca), (h0, .inr (10, mob q rf n mm mb u118.1 u118.2 av ev wi mn tp tc sc nf fd me mp xn mt wh tq ag an ig))] := hD
                                  have hP : va_P g.1 classes [(h0, .inr (10, mob q rf n mm mb u118.1 u118.2 av ev wi mn tp tc sc nf fd me mp xn mt wh tq ag an ig)), ((q 2), aI g 600 bs), ((q 14), aI g 620 tg), ((q 16), aI g 620 on), ((q 17), aI g 620 tw), ((q 27), aI g 160 fl), ((q 28), aI g 160 pl), ((q 29), aI g 160 na), ((q 30), aI g 160 ty), ((q 31), aI g 160 ca)] H := hP.sub [9, 0, 1, 2, 3, 4, 5, 6, 7, 8] rfl
                                  have hD : va_D A [(h0, .inr (10, mob q rf n mm mb u118.1 u118.2 av ev wi mn tp tc sc nf fd me mp xn mt wh tq ag an ig)), ((q 2), aI g 600 bs), ((q 14), aI g 620 tg), ((q 16), aI g 620 on), ((q 17), aI g 620 tw), ((q 27), aI g 160 fl), ((q 28), aI g 160 pl), ((q 29), aI g 160 na), ((q 30), aI g 160 ty), ((q 31), aI g 160 ca)] := hD.sub [9, 0, 1, 2, 3, 4, 5, 6, 7, 8] (by decide) rfl
                                  have hp118_0 := hr117
                                  exact tw_vret E hS (u118.1, u118.2) (⟨(fun h => absurd h hp118_0), (fun h => absurd h hp118_0)⟩) hP hD d_Mod_linkMember_302
                        · have h199 := tn_nle h199 (by omega) (by omega)
                          obtain ⟨⟨i1, u0, u1, u2, ut⟩, ⟨i2, pi2, li2, v0, v1, v2, vt, v3, v4, v5, v6⟩⟩ := hLM i h199
                          obtain ⟨pi1, li1, u3, u4, u5⟩ := hTX i1 (by omega) ut
                          refine lv_aload_n hx hb d_Mod_linkMember_202 rfl (lv_at hl 4 rfl) ?_
                          refine lv_aload_n hx hb d_Mod_linkMember_203 rfl (lv_at hl 4 rfl) ?_
                          refine va_get (D := g.1) (ci := 10) (v := .ref (q 29)) (C := R_Mod) (T := F_Mod) (N := 61) hx hb hts in_Mod hown hK hP 0 rfl rfl 29 (by decide) (hts _ wd_1279) (fun _ h9 => h9) rfl d_Mod_linkMember_204 ?_
                          refine lv_iload hx hb d_Mod_linkMember_207 (lv_at hl 0 rfl) ?_
                          refine va_iald hx hb hK hP 7 0 rfl rfl (vp_in_nI (by omega) (by decide)) d_Mod_linkMember_209 ?_
                          refine tw_ri (e2 := nI i1) (by rw [nI_clamp (by omega)]; exact u2) ?_
                          refine lv_iload_n hx hb d_Mod_linkMember_210 rfl (lv_at hl 2 rfl) ?_
                          refine tw_si (tw_runV (ws := [(h0, .inr (10, mob q rf n mm mb fa9 fp9 av ev wi mn tp tc sc nf fd me mp xn mt wh tq ag an ig)), ((q 2), aI g 600 bs), ((q 14), aI g 620 tg), ((q 16), aI g 620 on), ((q 17), aI g 620 tw), ((q 27), aI g 160 fl), ((q 28), aI g 160 pl), ((q 29), aI g 160 na), ((q 30), aI g 160 ty), ((q 31), aI g 160 ca)]) (wc := [(h0, .inr (10, mob q rf n mm mb fa9 fp9 av ev wi mn tp tc sc nf fd me mp xn mt wh tq ag an ig)), ((q 2), aI g 600 bs), ((q 16), aI g 620 on), ((q 17), aI g 620 tw)]) (As := [.int (nI i1), .int (nI jn)]) (rest := []) E hB hK hZ (g_Mod_sameTexts l g H.size h0 q rf n mm mb fa9 fp9 av ev wi mn tp tc sc nf fd me mp xn mt wh tq ag an ig bs on tw i1 jn pi1 li1 pn ln1 (by omega) u3 u4 u5 (by omega) pna pnb pnc) mc_Mod_sameTexts mi_Mod_sameTexts me_Mod_sameTexts wd_1579 hP hD hS hA [0, 1, 3, 4] rfl (by decide) 0 rfl rfl rfl rfl rfl (by decide) rfl hl.1 rfl (Nat.le_of_ble_eq_true rfl) (by decide) d_Mod_linkMember_211) (fun r119 hr119 => ?_)
                          have hB119 := hr119
                          refine lv_if_eq (tgt := 245) hx hb d_Mod_linkMember_214 (by decide) (fun h214 => ?_) (fun h214 => ?_)
                          · refine lv_iinc (k := 0) (v := nI (i + 1)) hx hb d_Mod_linkMember_245 hl rfl ((nI_succ i).symm) (by decide) rfl (fun ls hl => ?_)
                            have hl : lv_has ls 6 [(5, .int (nI (i + 1))), (4, .int (nI jt)), (3, .int (nI jn)), (2, .int 1), (0, .ref h0), (1, .int (nI mi))] := hl
                            refine lv_goto (tgt := 196) hx hb d_Mod_linkMember_248 (by decide) ?_
                            have hP : va_P g.1 classes [(h0, .inr (10, mob q rf n mm mb fa9 fp9 av ev wi mn tp tc sc nf fd me mp xn mt wh tq ag an ig)), ((q 2), aI g 600 bs), ((q 14), aI g 620 tg), ((q 16), aI g 620 on), ((q 17), aI g 620 tw), ((q 27), aI g 160 fl), ((q 28), aI g 160 pl), ((q 29), aI g 160 na), ((q 30), aI g 160 ty), ((q 31), aI g 160 ca)] H := hP.sub [0, 1, 2, 3, 4, 5, 6, 7, 8, 9] rfl
                            have hD : va_D A [(h0, .inr (10, mob q rf n mm mb fa9 fp9 av ev wi mn tp tc sc nf fd me mp xn mt wh tq ag an ig)), ((q 2), aI g 600 bs), ((q 14), aI g 620 tg), ((q 16), aI g 620 on), ((q 17), aI g 620 tw), ((q 27), aI g 160 fl), ((q 28), aI g 160 pl), ((q 29), aI g 160 na), ((q 30), aI g 160 ty), ((q 31), aI g 160 ca)] := hD.sub [0, 1, 2, 3, 4, 5, 6, 7, 8, 9] (by decide) rfl
                            exact ih _ (by omega) (i + 1) fa9 fp9 ls _ _ rfl (fun _ => hf0) (by omega) (lv_sub hl [0, 1, 2, 3, 4, 5] rfl) hP hD hS
                          · refine lv_aload_n hx hb d_Mod_linkMember_217 rfl (lv_at hl 4 rfl) ?_
                            refine lv_aload_n hx hb d_Mod_linkMember_218 rfl (lv_at hl 4 rfl) ?_
                            refine va_get (D := g.1) (ci := 10) (v := .ref (q 30)) (C := R_Mod) (T := F_Mod) (N := 61) hx hb hts in_Mod hown hK hP 0 rfl rfl 30 (by decide) (hts _ wd_1280) (fun _ h9 => h9) rfl d_Mod_linkMember_219 ?_
                            refine lv_iload hx hb d_Mod_linkMember_222 (lv_at hl 0 rfl) ?_
                            refine va_iald hx hb hK hP 8 0 rfl rfl (vp_in_nI (by omega) (by decide)) d_Mod_linkMember_224 ?_
                            refine tw_ri (e2 := nI i2) (by rw [nI_clamp (by omega)]; exact v2) ?_
                            refine lv_iload hx hb d_Mod_linkMember_225 (lv_at hl 1 rfl) ?_
                            refine tw_si (tw_runV (ws := [(h0, .inr (10, mob q rf n mm mb fa9 fp9 av ev wi mn tp tc sc nf fd me mp xn mt wh tq ag an ig)), ((q 2), aI g 600 bs), ((q 14), aI g 620 tg), ((q 16), aI g 620 on), ((q 17), aI g 620 tw), ((q 27), aI g 160 fl), ((q 28), aI g 160 pl), ((q 29), aI g 160 na), ((q 30), aI g 160 ty), ((q 31), aI g 160 ca)]) (wc := [(h0, .inr (10, mob q rf n mm mb fa9 fp9 av ev wi mn tp tc sc nf fd me mp xn mt wh tq ag an ig)), ((q 2), aI g 600 bs), ((q 16), aI g 620 on), ((q 17), aI g 620 tw)]) (As := [.int (nI i2), .int (nI jt)]) (rest := []) E hB hK hZ (g_Mod_sameTexts l g H.size h0 q rf n mm mb fa9 fp9 av ev wi mn tp tc sc nf fd me mp xn mt wh tq ag an ig bs on tw i2 jt pi2 li2 pt lt1 (by omega) v3 v4 v5 (by omega) pta ptb ptc) mc_Mod_sameTexts mi_Mod_sameTexts me_Mod_sameTexts wd_1579 hP hD hS hA [0, 1, 3, 4] rfl (by decide) 0 rfl rfl rfl rfl rfl (by decide) rfl hl.1 rfl (Nat.le_of_ble_eq_true rfl) (by decide) d_Mod_linkMember_227) (fun r120 hr120 => ?_)
                            have hB120 := hr120
                            refine lv_if_eq (tgt := 245) hx hb d_Mod_linkMember_230 (by decide) (fun h230 => ?_) (fun h230 => ?_)
                            · refine lv_iinc (k := 0) (v := nI (i + 1)) hx hb d_Mod_linkMember_245 hl rfl ((nI_succ i).symm) (by decide) rfl (fun ls hl => ?_)
                              have hl : lv_has ls 6 [(5, .int (nI (i + 1))), (4, .int (nI jt)), (3, .int (nI jn)), (2, .int 1), (0, .ref h0), (1, .int (nI mi))] := hl
                              refine lv_goto (tgt := 196) hx hb d_Mod_linkMember_248 (by decide) ?_
                              have hP : va_P g.1 classes [(h0, .inr (10, mob q rf n mm mb fa9 fp9 av ev wi mn tp tc sc nf fd me mp xn mt wh tq ag an ig)), ((q 2), aI g 600 bs), ((q 14), aI g 620 tg), ((q 16), aI g 620 on), ((q 17), aI g 620 tw), ((q 27), aI g 160 fl), ((q 28), aI g 160 pl), ((q 29), aI g 160 na), ((q 30), aI g 160 ty), ((q 31), aI g 160 ca)] H := hP.sub [0, 1, 2, 3, 4, 5, 6, 7, 8, 9] rfl
                              have hD : va_D A [(h0, .inr (10, mob q rf n mm mb fa9 fp9 av ev wi mn tp tc sc nf fd me mp xn mt wh tq ag an ig)), ((q 2), aI g 600 bs), ((q 14), aI g 620 tg), ((q 16), aI g 620 on), ((q 17), aI g 620 tw), ((q 27), aI g 160 fl), ((q 28), aI g 160 pl), ((q 29), aI g 160 na), ((q 30), aI g 160 ty), ((q 31), aI g 160 ca)] := hD.sub [0, 1, 2, 3, 4, 5, 6, 7, 8, 9] (by decide) rfl
                              exact ih _ (by omega) (i + 1) fa9 fp9 ls _ _ rfl (fun _ => hf0) (by omega) (lv_sub hl [0, 1, 2, 3, 4, 5] rfl) hP hD hS
                            · refine lv_aload_n hx hb d_Mod_linkMember_233 rfl (lv_at hl 4 rfl) ?_
                              refine lv_bipush (v := 7) hx hb d_Mod_linkMember_234 (by decide) ?_
                              refine lv_aload_n hx hb d_Mod_linkMember_236 rfl (lv_at hl 4 rfl) ?_
                              refine va_get (D := g.1) (ci := 10) (v := .ref (q 28)) (C := R_Mod) (T := F_Mod) (N := 61) hx hb hts in_Mod hown hK hP 0 rfl rfl 28 (by decide) (hts _ wd_1278) (fun _ h9 => h9) rfl d_Mod_linkMember_237 ?_
                              refine lv_iload_n hx hb d_Mod_linkMember_240 rfl (lv_at hl 5 rfl) ?_
                              refine va_iald hx hb hK hP 6 0 rfl rfl (vp_in_nI (by omega) (by decide)) d_Mod_linkMember_241 ?_
                              obtain ⟨x121, ex121⟩ : ∃ z : Int32, pl ((nI mi).toNatClampNeg) = z := ⟨_, rfl⟩
                              refine tw_ri (e2 := x121) ex121 ?_
                              refine tw_wv (wr := [((q 2), aI g 600 bs), ((q 14), aI g 620 tg), ((q 16), aI g 620 on), ((q 17), aI g 620 tw), ((q 27), aI g 160 fl), ((q 28), aI g 160 pl), ((q 29), aI g 160 na), ((q 30), aI g 160 ty), ((q 31), aI g 160 ca)]) (tw_runV (ws := [(h0, .inr (10, mob q rf n mm mb fa9 fp9 av ev wi mn tp tc sc nf fd me mp xn mt wh tq ag an ig)), ((q 2), aI g 600 bs), ((q 14), aI g 620 tg), ((q 16), aI g 620 on), ((q 17), aI g 620 tw), ((q 27), aI g 160 fl), ((q 28), aI g 160 pl), ((q 29), aI g 160 na), ((q 30), aI g 160 ty), ((q 31), aI g 160 ca)]) (wc := [(h0, .inr (10, mob q rf n mm mb fa9 fp9 av ev wi mn tp tc sc nf fd me mp xn mt wh tq ag an ig))]) (As := [.int 7, .int x121]) (rest := []) E hB hK hZ (g_Mod_fail l g H.size h0 q rf n mm mb av ev wi mn tp tc sc nf fd me mp xn mt wh tq ag an ig fa9 fp9 7 x121 (by decide)) mc_Mod_fail mi_Mod_fail me_Mod_fail wd_1478 hP hD hS hA [0] rfl (by decide) 0 rfl rfl rfl rfl rfl (by decide) rfl hl.1 rfl (Nat.le_of_ble_eq_true rfl) (by decide) d_Mod_linkMember_242) hP hD hS hA [0] [1, 2, 3, 4, 5, 6, 7, 8, 9] rfl rfl (by decide) (by decide) (fun u123 H locs hr122 hP hD hS => ?_)
                              try dsimp only at hr122
                              have hP : va_P g.1 classes [((q 2), aI g 600 bs), ((q 14), aI g 620 tg), ((q 16), aI g 620 on), ((q 17), aI g 620 tw), ((q 27), aI g 160 fl), ((q 28), aI g 160 pl), ((q 29), aI g 160 na), ((q 30), aI g 160 ty), ((q 31), aI g 160 ca), (h0, .inr (10, mob q rf n mm mb u123.1 u123.2 av ev wi mn tp tc sc nf fd me mp xn mt wh tq ag an ig))] H := hP
                              have hD : va_D A [((q 2), aI g 600 bs), ((q 14), aI g 620 tg), ((q 16), aI g 620 on), ((q 17), aI g 620 tw), ((q 27), aI g 160 fl), ((q 28), aI g 160 pl), ((q 29), aI g 160 na), ((q 30), aI g 160 ty), ((q 31), aI g 160 ca), (h0, .inr (10, mob q rf n mm mb u123.1 u123.2 av ev wi mn tp tc sc nf fd me mp xn mt wh tq ag an ig))] := hD
                              have hP : va_P g.1 classes [(h0, .inr (10, mob q rf n mm mb u123.1 u123.2 av ev wi mn tp tc sc nf fd me mp xn mt wh tq ag an ig)), ((q 2), aI g 600 bs), ((q 14), aI g 620 tg), ((q 16), aI g 620 on), ((q 17), aI g 620 tw), ((q 27), aI g 160 fl), ((q 28), aI g 160 pl), ((q 29), aI g 160 na), ((q 30), aI g 160 ty), ((q 31), aI g 160 ca)] H := hP.sub [9, 0, 1, 2, 3, 4, 5, 6, 7, 8] rfl
                              have hD : va_D A [(h0, .inr (10, mob q rf n mm mb u123.1 u123.2 av ev wi mn tp tc sc nf fd me mp xn mt wh tq ag an ig)), ((q 2), aI g 600 bs), ((q 14), aI g 620 tg), ((q 16), aI g 620 on), ((q 17), aI g 620 tw), ((q 27), aI g 160 fl), ((q 28), aI g 160 pl), ((q 29), aI g 160 na), ((q 30), aI g 160 ty), ((q 31), aI g 160 ca)] := hD.sub [9, 0, 1, 2, 3, 4, 5, 6, 7, 8] (by decide) rfl
                              have hp123_0 := hr122
                              refine lv_iinc (k := 0) (v := nI (i + 1)) hx hb d_Mod_linkMember_245 hl rfl ((nI_succ i).symm) (by decide) rfl (fun ls hl => ?_)
                              have hl : lv_has ls 6 [(5, .int (nI (i + 1))), (4, .int (nI jt)), (3, .int (nI jn)), (2, .int 1), (0, .ref h0), (1, .int (nI mi))] := hl
                              refine lv_goto (tgt := 196) hx hb d_Mod_linkMember_248 (by decide) ?_
                              have hP : va_P g.1 classes [(h0, .inr (10, mob q rf n mm mb u123.1 u123.2 av ev wi mn tp tc sc nf fd me mp xn mt wh tq ag an ig)), ((q 2), aI g 600 bs), ((q 14), aI g 620 tg), ((q 16), aI g 620 on), ((q 17), aI g 620 tw), ((q 27), aI g 160 fl), ((q 28), aI g 160 pl), ((q 29), aI g 160 na), ((q 30), aI g 160 ty), ((q 31), aI g 160 ca)] H := hP.sub [0, 1, 2, 3, 4, 5, 6, 7, 8, 9] rfl
                              have hD : va_D A [(h0, .inr (10, mob q rf n mm mb u123.1 u123.2 av ev wi mn tp tc sc nf fd me mp xn mt wh tq ag an ig)), ((q 2), aI g 600 bs), ((q 14), aI g 620 tg), ((q 16), aI g 620 on), ((q 17), aI g 620 tw), ((q 27), aI g 160 fl), ((q 28), aI g 160 pl), ((q 29), aI g 160 na), ((q 30), aI g 160 ty), ((q 31), aI g 160 ca)] := hD.sub [0, 1, 2, 3, 4, 5, 6, 7, 8, 9] (by decide) rfl
                              exact ih _ (by omega) (i + 1) u123.1 u123.2 ls _ _ rfl (fun h => absurd h hp123_0) (by omega) (lv_sub hl [0, 1, 2, 3, 4, 5] rfl) hP hD hS
                    exact loop196 _ fd fa fp ls _ _ rfl (fun h => h) (by omega) (hl) hP hD hS
                · refine lv_goto (tgt := 170) hx hb d_Mod_linkMember_147 (by decide) ?_
                  refine lv_aload_n hx hb d_Mod_linkMember_170 rfl (lv_at hl 3 rfl) ?_
                  refine lv_bipush (v := 11) hx hb d_Mod_linkMember_171 (by decide) ?_
                  refine lv_aload_n hx hb d_Mod_linkMember_173 rfl (lv_at hl 3 rfl) ?_
                  refine va_get (D := g.1) (ci := 10) (v := .ref (q 28)) (C := R_Mod) (T := F_Mod) (N := 61) hx hb hts in_Mod hown hK hP 0 rfl rfl 28 (by decide) (hts _ wd_1278) (fun _ h9 => h9) rfl d_Mod_linkMember_174 ?_
                  refine lv_iload_n hx hb d_Mod_linkMember_177 rfl (lv_at hl 4 rfl) ?_
                  refine va_iald hx hb hK hP 6 0 rfl rfl (vp_in_nI (by omega) (by decide)) d_Mod_linkMember_178 ?_
                  obtain ⟨x124, ex124⟩ : ∃ z : Int32, pl ((nI mi).toNatClampNeg) = z := ⟨_, rfl⟩
                  refine tw_ri (e2 := x124) ex124 ?_
                  refine tw_wv (wr := [((q 2), aI g 600 bs), ((q 14), aI g 620 tg), ((q 16), aI g 620 on), ((q 17), aI g 620 tw), ((q 27), aI g 160 fl), ((q 28), aI g 160 pl), ((q 29), aI g 160 na), ((q 30), aI g 160 ty), ((q 31), aI g 160 ca)]) (tw_runV (ws := [(h0, .inr (10, mob q rf n mm mb fa fp av ev wi mn tp tc sc nf fd me mp xn mt wh tq ag an ig)), ((q 2), aI g 600 bs), ((q 14), aI g 620 tg), ((q 16), aI g 620 on), ((q 17), aI g 620 tw), ((q 27), aI g 160 fl), ((q 28), aI g 160 pl), ((q 29), aI g 160 na), ((q 30), aI g 160 ty), ((q 31), aI g 160 ca)]) (wc := [(h0, .inr (10, mob q rf n mm mb fa fp av ev wi mn tp tc sc nf fd me mp xn mt wh tq ag an ig))]) (As := [.int 11, .int x124]) (rest := []) E hB hK hZ (g_Mod_fail l g H.size h0 q rf n mm mb av ev wi mn tp tc sc nf fd me mp xn mt wh tq ag an ig fa fp 11 x124 (by decide)) mc_Mod_fail mi_Mod_fail me_Mod_fail wd_1478 hP hD hS hA [0] rfl (by decide) 0 rfl rfl rfl rfl rfl (by decide) rfl hl.1 rfl (Nat.le_of_ble_eq_true rfl) (by decide) d_Mod_linkMember_179) hP hD hS hA [0] [1, 2, 3, 4, 5, 6, 7, 8, 9] rfl rfl (by decide) (by decide) (fun u126 H locs hr125 hP hD hS => ?_)
                  try dsimp only at hr125
                  have hP : va_P g.1 classes [((q 2), aI g 600 bs), ((q 14), aI g 620 tg), ((q 16), aI g 620 on), ((q 17), aI g 620 tw), ((q 27), aI g 160 fl), ((q 28), aI g 160 pl), ((q 29), aI g 160 na), ((q 30), aI g 160 ty), ((q 31), aI g 160 ca), (h0, .inr (10, mob q rf n mm mb u126.1 u126.2 av ev wi mn tp tc sc nf fd me mp xn mt wh tq ag an ig))] H := hP
                  have hD : va_D A [((q 2), aI g 600 bs), ((q 14), aI g 620 tg), ((q 16), aI g 620 on), ((q 17), aI g 620 tw), ((q 27), aI g 160 fl), ((q 28), aI g 160 pl), ((q 29), aI g 160 na), ((q 30), aI g 160 ty), ((q 31), aI g 160 ca), (h0, .inr (10, mob q rf n mm mb u126.1 u126.2 av ev wi mn tp tc sc nf fd me mp xn mt wh tq ag an ig))] := hD
                  have hP : va_P g.1 classes [(h0, .inr (10, mob q rf n mm mb u126.1 u126.2 av ev wi mn tp tc sc nf fd me mp xn mt wh tq ag an ig)), ((q 2), aI g 600 bs), ((q 14), aI g 620 tg), ((q 16), aI g 620 on), ((q 17), aI g 620 tw), ((q 27), aI g 160 fl), ((q 28), aI g 160 pl), ((q 29), aI g 160 na), ((q 30), aI g 160 ty), ((q 31), aI g 160 ca)] H := hP.sub [9, 0, 1, 2, 3, 4, 5, 6, 7, 8] rfl
                  have hD : va_D A [(h0, .inr (10, mob q rf n mm mb u126.1 u126.2 av ev wi mn tp tc sc nf fd me mp xn mt wh tq ag an ig)), ((q 2), aI g 600 bs), ((q 14), aI g 620 tg), ((q 16), aI g 620 on), ((q 17), aI g 620 tw), ((q 27), aI g 160 fl), ((q 28), aI g 160 pl), ((q 29), aI g 160 na), ((q 30), aI g 160 ty), ((q 31), aI g 160 ca)] := hD.sub [9, 0, 1, 2, 3, 4, 5, 6, 7, 8] (by decide) rfl
                  have hp126_0 := hr125
                  refine lv_iload_n hx hb d_Mod_linkMember_182 rfl (lv_at hl 2 rfl) ?_
                  refine lv_if_eq (tgt := 193) hx hb d_Mod_linkMember_183 (by decide) (fun h183 => ?_) (fun h183 => ?_)
                  · first | exact absurd h183 (by decide) | exact absurd (by decide) h183
                  · refine lv_aload_n hx hb d_Mod_linkMember_186 rfl (lv_at hl 3 rfl) ?_
                    refine va_get (D := g.1) (ci := 10) (v := .int (nI fd)) (C := R_Mod) (T := F_Mod) (N := 61) hx hb hts in_Mod hown hK hP 0 rfl rfl 24 (by decide) (hts _ wd_1274) (fun _ h9 => h9) rfl d_Mod_linkMember_187 ?_
                    refine lv_goto (tgt := 194) hx hb d_Mod_linkMember_190 (by decide) ?_
                    refine lv_istore hx hb d_Mod_linkMember_194 hl (by decide) rfl (fun ls hl => ?_)
                    have hl : lv_has ls 6 [(5, .int (nI fd)), (4, .int (nI jt)), (3, .int (nI jn)), (2, .int 1), (0, .ref h0), (1, .int (nI mi))] := hl
                    have loop196 : ∀ (kq : Nat) (i : Nat) (fa9 : Int32) (fp9 : Int32) (ls : Array Slot) (H : Heap) (locs : List Loc) , mi - i = kq → (hc9 : fa9 = 0 → u126.1 = 0) → (hib : i ≤ 160) → lv_has ls 6 [(5, .int (nI i)), (4, .int (nI jt)), (3, .int (nI jn)), (2, .int 1), (0, .ref h0), (1, .int (nI mi))] → va_P g.1 classes [(h0, .inr (10, mob q rf n mm mb fa9 fp9 av ev wi mn tp tc sc nf fd me mp xn mt wh tq ag an ig)), ((q 2), aI g 600 bs), ((q 14), aI g 620 tg), ((q 16), aI g 620 on), ((q 17), aI g 620 tw), ((q 27), aI g 160 fl), ((q 28), aI g 160 pl), ((q 29), aI g 160 na), ((q 30), aI g 160 ty), ((q 31), aI g 160 ca)] H → va_D A [(h0, .inr (10, mob q rf n mm mb fa9 fp9 av ev wi mn tp tc sc nf fd me mp xn mt wh tq ag an ig)), ((q 2), aI g 600 bs), ((q 14), aI g 620 tg), ((q 16), aI g 620 on), ((q 17), aI g 620 tw), ((q 27), aI g 160 fl), ((q 28), aI g 160 pl), ((q 29), aI g 160 na), ((q 30), aI g 160 ty), ((q 31), aI g 160 ca)] → va_S A s.heap H locs → W p l e ({ frames := 6, cells := 0, slots := 0, locals := 139 }) s m [.ref h0, .int (nI mi)].toArray below meth c H locs 0 0 (MQ below (tw_Qv g (fun (u : Int32 × Int32) => (u.1 = 0 → fa = 0) ∧ (u.1 = 0 → LMB bs mn tg on tw fd na ty mi)) (fun u : Int32 × Int32 => [(h0, .inr (10, mob q rf n mm mb u.1 u.2 av ev wi mn tp tc sc nf fd me mp xn mt wh tq ag an ig)), ((q 2), aI g 600 bs), ((q 14), aI g 620 tg), ((q 16), aI g 620 on), ((q 17), aI g 620 tw), ((q 27), aI g 160 fl), ((q 28), aI g 160 pl), ((q 29), aI g 160 na), ((q 30), aI g 160 ty), ((q 31), aI g 160 ca)]) A) [.ref h0, .int (nI mi)].toArray s 0 0 A) (F0 m 196 ls []) := by
                      intro kq
                      induction kq using Nat.strongRecOn with
                      | _ kq ih =>
                        intro i fa9 fp9 ls H locs hk hc9 hib hl hP hD hS
                        refine lv_iload hx hb d_Mod_linkMember_196 (lv_at hl 0 rfl) ?_
                        refine lv_iload_n hx hb d_Mod_linkMember_198 rfl (lv_at hl 5 rfl) ?_
                        refine lv_icmp_ge (tgt := 251) hx hb d_Mod_linkMember_199 (by decide) (fun h199 => ?_) (fun h199 => ?_)
                        · refine lv_iload_n hx hb d_Mod_linkMember_251 rfl (lv_at hl 3 rfl) ?_
                          refine lv_if_eq (tgt := 302) hx hb d_Mod_linkMember_252 (by decide) (fun h252 => ?_) (fun h252 => ?_)
                          · first | exact absurd h252 (by decide) | exact absurd (by decide) h252
                          · refine lv_aload_n hx hb d_Mod_linkMember_255 rfl (lv_at hl 4 rfl) ?_
                            refine va_get (D := g.1) (ci := 10) (v := .ref (q 31)) (C := R_Mod) (T := F_Mod) (N := 61) hx hb hts in_Mod hown hK hP 0 rfl rfl 31 (by decide) (hts _ wd_1281) (fun _ h9 => h9) rfl d_Mod_linkMember_256 ?_
                            refine lv_iload_n hx hb d_Mod_linkMember_259 rfl (lv_at hl 5 rfl) ?_
                            refine va_iald hx hb hK hP 9 0 rfl rfl (vp_in_nI (by omega) (by decide)) d_Mod_linkMember_260 ?_
                            obtain ⟨x127, ex127⟩ : ∃ z : Int32, ca ((nI mi).toNatClampNeg) = z := ⟨_, rfl⟩
                            refine tw_ri (e2 := x127) ex127 ?_
                            refine lv_if_le (tgt := 268) hx hb d_Mod_linkMember_261 (by decide) (fun h261 => ?_) (fun h261 => ?_)
                            · refine lv_iconst (v := 0) hx hb d_Mod_linkMember_268 (by decide) ?_
                              refine lv_aload_n hx hb d_Mod_linkMember_269 rfl (lv_at hl 4 rfl) ?_
                              refine va_get (D := g.1) (ci := 10) (v := .ref (q 27)) (C := R_Mod) (T := F_Mod) (N := 61) hx hb hts in_Mod hown hK hP 0 rfl rfl 27 (by decide) (hts _ wd_1277) (fun _ h9 => h9) rfl d_Mod_linkMember_270 ?_
                              refine lv_iload_n hx hb d_Mod_linkMember_273 rfl (lv_at hl 5 rfl) ?_
                              refine va_iald hx hb hK hP 5 0 rfl rfl (vp_in_nI (by omega) (by decide)) d_Mod_linkMember_274 ?_
                              obtain ⟨x128, ex128⟩ : ∃ z : Int32, fl ((nI mi).toNatClampNeg) = z := ⟨_, rfl⟩
                              refine tw_ri (e2 := x128) ex128 ?_
                              refine lv_sipush (v := 1280) hx hb d_Mod_linkMember_275 (by decide) ?_
                              refine lv_iand hx hb d_Mod_linkMember_278 ?_
                              obtain ⟨x129, ex129⟩ : ∃ z : Int32, x128 &&& 1280 = z := ⟨_, rfl⟩
                              refine tw_ri (e2 := x129) ex129 ?_
                              refine lv_if_eq (tgt := 286) hx hb d_Mod_linkMember_279 (by decide) (fun h279 => ?_) (fun h279 => ?_)
                              · refine lv_iconst (v := 0) hx hb d_Mod_linkMember_286 (by decide) ?_
                                refine lv_icmp_ne (tgt := 302) hx hb d_Mod_linkMember_287 (by decide) (fun h287 => ?_) (fun h287 => ?_)
                                · exact tw_vret E hS (fa9, fp9) (⟨(fun h => absurd h (fun h => hp126_0 (hc9 h))), (fun h => absurd h (fun h => hp126_0 (hc9 h)))⟩) hP hD d_Mod_linkMember_302
                                · refine lv_aload_n hx hb d_Mod_linkMember_290 rfl (lv_at hl 4 rfl) ?_
                                  refine lv_bipush (v := 12) hx hb d_Mod_linkMember_291 (by decide) ?_
                                  refine lv_aload_n hx hb d_Mod_linkMember_293 rfl (lv_at hl 4 rfl) ?_
                                  refine va_get (D := g.1) (ci := 10) (v := .ref (q 28)) (C := R_Mod) (T := F_Mod) (N := 61) hx hb hts in_Mod hown hK hP 0 rfl rfl 28 (by decide) (hts _ wd_1278) (fun _ h9 => h9) rfl d_Mod_linkMember_294 ?_
                                  refine lv_iload_n hx hb d_Mod_linkMember_297 rfl (lv_at hl 5 rfl) ?_
                                  refine va_iald hx hb hK hP 6 0 rfl rfl (vp_in_nI (by omega) (by decide)) d_Mod_linkMember_298 ?_
                                  obtain ⟨x130, ex130⟩ : ∃ z : Int32, pl ((nI mi).toNatClampNeg) = z := ⟨_, rfl⟩
                                  refine tw_ri (e2 := x130) ex130 ?_
                                  refine tw_wv (wr := [((q 2), aI g 600 bs), ((q 14), aI g 620 tg), ((q 16), aI g 620 on), ((q 17), aI g 620 tw), ((q 27), aI g 160 fl), ((q 28), aI g 160 pl), ((q 29), aI g 160 na), ((q 30), aI g 160 ty), ((q 31), aI g 160 ca)]) (tw_runV (ws := [(h0, .inr (10, mob q rf n mm mb fa9 fp9 av ev wi mn tp tc sc nf fd me mp xn mt wh tq ag an ig)), ((q 2), aI g 600 bs), ((q 14), aI g 620 tg), ((q 16), aI g 620 on), ((q 17), aI g 620 tw), ((q 27), aI g 160 fl), ((q 28), aI g 160 pl), ((q 29), aI g 160 na), ((q 30), aI g 160 ty), ((q 31), aI g 160 ca)]) (wc := [(h0, .inr (10, mob q rf n mm mb fa9 fp9 av ev wi mn tp tc sc nf fd me mp xn mt wh tq ag an ig))]) (As := [.int 12, .int x130]) (rest := []) E hB hK hZ (g_Mod_fail l g H.size h0 q rf n mm mb av ev wi mn tp tc sc nf fd me mp xn mt wh tq ag an ig fa9 fp9 12 x130 (by decide)) mc_Mod_fail mi_Mod_fail me_Mod_fail wd_1478 hP hD hS hA [0] rfl (by decide) 0 rfl rfl rfl rfl rfl (by decide) rfl hl.1 rfl (Nat.le_of_ble_eq_true rfl) (by decide) d_Mod_linkMember_299) hP hD hS hA [0] [1, 2, 3, 4, 5, 6, 7, 8, 9] rfl rfl (by decide) (by decide) (fun u132 H locs hr131 hP hD hS => ?_)
                                  try dsimp only at hr131
                                  have hP : va_P g.1 classes [((q 2), aI g 600 bs), ((q 14), aI g 620 tg), ((q 16), aI g 620 on), ((q 17), aI g 620 tw), ((q 27), aI g 160 fl), ((q 28), aI g 160 pl), ((q 29), aI g 160 na), ((q 30), aI g 160 ty), ((q 31), aI g 160 ca), (h0, .inr (10, mob q rf n mm mb u132.1 u132.2 av ev wi mn tp tc sc nf fd me mp xn mt wh tq ag an ig))] H := hP
                                  have hD : va_D A [((q 2), aI g 600 bs), ((q 14), aI g 620 tg), ((q 16), aI g 620 on), ((q 17), aI g 620 tw), ((q 27), aI g 160 fl), ((q 28), aI g 160 pl), ((q 29), aI g 160 na), ((q 30), aI g 160 ty), ((q 31), aI g 160 ca), (h0, .inr (10, mob q rf n mm mb u132.1 u132.2 av ev wi mn tp tc sc nf fd me mp xn mt wh tq ag an ig))] := hD
                                  have hP : va_P g.1 classes [(h0, .inr (10, mob q rf n mm mb u132.1 u132.2 av ev wi mn tp tc sc nf fd me mp xn mt wh tq ag an ig)), ((q 2), aI g 600 bs), ((q 14), aI g 620 tg), ((q 16), aI g 620 on), ((q 17), aI g 620 tw), ((q 27), aI g 160 fl), ((q 28), aI g 160 pl), ((q 29), aI g 160 na), ((q 30), aI g 160 ty), ((q 31), aI g 160 ca)] H := hP.sub [9, 0, 1, 2, 3, 4, 5, 6, 7, 8] rfl
                                  have hD : va_D A [(h0, .inr (10, mob q rf n mm mb u132.1 u132.2 av ev wi mn tp tc sc nf fd me mp xn mt wh tq ag an ig)), ((q 2), aI g 600 bs), ((q 14), aI g 620 tg), ((q 16), aI g 620 on), ((q 17), aI g 620 tw), ((q 27), aI g 160 fl), ((q 28), aI g 160 pl), ((q 29), aI g 160 na), ((q 30), aI g 160 ty), ((q 31), aI g 160 ca)] := hD.sub [9, 0, 1, 2, 3, 4, 5, 6, 7, 8] (by decide) rfl
                                  have hp132_0 := hr131
                                  exact tw_vret E hS (u132.1, u132.2) (⟨(fun h => absurd h hp132_0), (fun h => absurd h hp132_0)⟩) hP hD d_Mod_linkMember_302
                              · refine lv_iconst (v := 1) hx hb d_Mod_linkMember_282 (by decide) ?_
                                refine lv_goto (tgt := 287) hx hb d_Mod_linkMember_283 (by decide) ?_
                                refine lv_icmp_ne (tgt := 302) hx hb d_Mod_linkMember_287 (by decide) (fun h287 => ?_) (fun h287 => ?_)
                                · exact tw_vret E hS (fa9, fp9) (⟨(fun h => absurd h (fun h => hp126_0 (hc9 h))), (fun h => absurd h (fun h => hp126_0 (hc9 h)))⟩) hP hD d_Mod_linkMember_302
                                · refine lv_aload_n hx hb d_Mod_linkMember_290 rfl (lv_at hl 4 rfl) ?_
                                  refine lv_bipush (v := 12) hx hb d_Mod_linkMember_291 (by decide) ?_
                                  refine lv_aload_n hx hb d_Mod_linkMember_293 rfl (lv_at hl 4 rfl) ?_
                                  refine va_get (D := g.1) (ci := 10) (v := .ref (q 28)) (C := R_Mod) (T := F_Mod) (N := 61) hx hb hts in_Mod hown hK hP 0 rfl rfl 28 (by decide) (hts _ wd_1278) (fun _ h9 => h9) rfl d_Mod_linkMember_294 ?_
                                  refine lv_iload_n hx hb d_Mod_linkMember_297 rfl (lv_at hl 5 rfl) ?_
                                  refine va_iald hx hb hK hP 6 0 rfl rfl (vp_in_nI (by omega) (by decide)) d_Mod_linkMember_298 ?_
                                  obtain ⟨x133, ex133⟩ : ∃ z : Int32, pl ((nI mi).toNatClampNeg) = z := ⟨_, rfl⟩
                                  refine tw_ri (e2 := x133) ex133 ?_
                                  refine tw_wv (wr := [((q 2), aI g 600 bs), ((q 14), aI g 620 tg), ((q 16), aI g 620 on), ((q 17), aI g 620 tw), ((q 27), aI g 160 fl), ((q 28), aI g 160 pl), ((q 29), aI g 160 na), ((q 30), aI g 160 ty), ((q 31), aI g 160 ca)]) (tw_runV (ws := [(h0, .inr (10, mob q rf n mm mb fa9 fp9 av ev wi mn tp tc sc nf fd me mp xn mt wh tq ag an ig)), ((q 2), aI g 600 bs), ((q 14), aI g 620 tg), ((q 16), aI g 620 on), ((q 17), aI g 620 tw), ((q 27), aI g 160 fl), ((q 28), aI g 160 pl), ((q 29), aI g 160 na), ((q 30), aI g 160 ty), ((q 31), aI g 160 ca)]) (wc := [(h0, .inr (10, mob q rf n mm mb fa9 fp9 av ev wi mn tp tc sc nf fd me mp xn mt wh tq ag an ig))]) (As := [.int 12, .int x133]) (rest := []) E hB hK hZ (g_Mod_fail l g H.size h0 q rf n mm mb av ev wi mn tp tc sc nf fd me mp xn mt wh tq ag an ig fa9 fp9 12 x133 (by decide)) mc_Mod_fail mi_Mod_fail me_Mod_fail wd_1478 hP hD hS hA [0] rfl (by decide) 0 rfl rfl rfl rfl rfl (by decide) rfl hl.1 rfl (Nat.le_of_ble_eq_true rfl) (by decide) d_Mod_linkMember_299) hP hD hS hA [0] [1, 2, 3, 4, 5, 6, 7, 8, 9] rfl rfl (by decide) (by decide) (fun u135 H locs hr134 hP hD hS => ?_)
                                  try dsimp only at hr134
                                  have hP : va_P g.1 classes [((q 2), aI g 600 bs), ((q 14), aI g 620 tg), ((q 16), aI g 620 on), ((q 17), aI g 620 tw), ((q 27), aI g 160 fl), ((q 28), aI g 160 pl), ((q 29), aI g 160 na), ((q 30), aI g 160 ty), ((q 31), aI g 160 ca), (h0, .inr (10, mob q rf n mm mb u135.1 u135.2 av ev wi mn tp tc sc nf fd me mp xn mt wh tq ag an ig))] H := hP
                                  have hD : va_D A [((q 2), aI g 600 bs), ((q 14), aI g 620 tg), ((q 16), aI g 620 on), ((q 17), aI g 620 tw), ((q 27), aI g 160 fl), ((q 28), aI g 160 pl), ((q 29), aI g 160 na), ((q 30), aI g 160 ty), ((q 31), aI g 160 ca), (h0, .inr (10, mob q rf n mm mb u135.1 u135.2 av ev wi mn tp tc sc nf fd me mp xn mt wh tq ag an ig))] := hD
                                  have hP : va_P g.1 classes [(h0, .inr (10, mob q rf n mm mb u135.1 u135.2 av ev wi mn tp tc sc nf fd me mp xn mt wh tq ag an ig)), ((q 2), aI g 600 bs), ((q 14), aI g 620 tg), ((q 16), aI g 620 on), ((q 17), aI g 620 tw), ((q 27), aI g 160 fl), ((q 28), aI g 160 pl), ((q 29), aI g 160 na), ((q 30), aI g 160 ty), ((q 31), aI g 160 ca)] H := hP.sub [9, 0, 1, 2, 3, 4, 5, 6, 7, 8] rfl
                                  have hD : va_D A [(h0, .inr (10, mob q rf n mm mb u135.1 u135.2 av ev wi mn tp tc sc nf fd me mp xn mt wh tq ag an ig)), ((q 2), aI g 600 bs), ((q 14), aI g 620 tg), ((q 16), aI g 620 on), ((q 17), aI g 620 tw), ((q 27), aI g 160 fl), ((q 28), aI g 160 pl), ((q 29), aI g 160 na), ((q 30), aI g 160 ty), ((q 31), aI g 160 ca)] := hD.sub [9, 0, 1, 2, 3, 4, 5, 6, 7, 8] (by decide) rfl
                                  have hp135_0 := hr134
                                  exact tw_vret E hS (u135.1, u135.2) (⟨(fun h => absurd h hp135_0), (fun h => absurd h hp135_0)⟩) hP hD d_Mod_linkMember_302
                            · refine lv_iconst (v := 1) hx hb d_Mod_linkMember_264 (by decide) ?_
                              refine lv_goto (tgt := 269) hx hb d_Mod_linkMember_265 (by decide) ?_
                              refine lv_aload_n hx hb d_Mod_linkMember_269 rfl (lv_at hl 4 rfl) ?_
                              refine va_get (D := g.1) (ci := 10) (v := .ref (q 27)) (C := R_Mod) (T := F_Mod) (N := 61) hx hb hts in_Mod hown hK hP 0 rfl rfl 27 (by decide) (hts _ wd_1277) (fun _ h9 => h9) rfl d_Mod_linkMember_270 ?_
                              refine lv_iload_n hx hb d_Mod_linkMember_273 rfl (lv_at hl 5 rfl) ?_
                              refine va_iald hx hb hK hP 5 0 rfl rfl (vp_in_nI (by omega) (by decide)) d_Mod_linkMember_274 ?_
                              obtain ⟨x136, ex136⟩ : ∃ z : Int32, fl ((nI mi).toNatClampNeg) = z := ⟨_, rfl⟩
                              refine tw_ri (e2 := x136) ex136 ?_
                              refine lv_sipush (v := 1280) hx hb d_Mod_linkMember_275 (by decide) ?_
                              refine lv_iand hx hb d_Mod_linkMember_278 ?_
                              obtain ⟨x137, ex137⟩ : ∃ z : Int32, x136 &&& 1280 = z := ⟨_, rfl⟩
                              refine tw_ri (e2 := x137) ex137 ?_
                              refine lv_if_eq (tgt := 286) hx hb d_Mod_linkMember_279 (by decide) (fun h279 => ?_) (fun h279 => ?_)
                              · refine lv_iconst (v := 0) hx hb d_Mod_linkMember_286 (by decide) ?_
                                refine lv_icmp_ne (tgt := 302) hx hb d_Mod_linkMember_287 (by decide) (fun h287 => ?_) (fun h287 => ?_)
                                · exact tw_vret E hS (fa9, fp9) (⟨(fun h => absurd h (fun h => hp126_0 (hc9 h))), (fun h => absurd h (fun h => hp126_0 (hc9 h)))⟩) hP hD d_Mod_linkMember_302
                                · refine lv_aload_n hx hb d_Mod_linkMember_290 rfl (lv_at hl 4 rfl) ?_
                                  refine lv_bipush (v := 12) hx hb d_Mod_linkMember_291 (by decide) ?_
                                  refine lv_aload_n hx hb d_Mod_linkMember_293 rfl (lv_at hl 4 rfl) ?_
                                  refine va_get (D := g.1) (ci := 10) (v := .ref (q 28)) (C := R_Mod) (T := F_Mod) (N := 61) hx hb hts in_Mod hown hK hP 0 rfl rfl 28 (by decide) (hts _ wd_1278) (fun _ h9 => h9) rfl d_Mod_linkMember_294 ?_
                                  refine lv_iload_n hx hb d_Mod_linkMember_297 rfl (lv_at hl 5 rfl) ?_
                                  refine va_iald hx hb hK hP 6 0 rfl rfl (vp_in_nI (by omega) (by decide)) d_Mod_linkMember_298 ?_
                                  obtain ⟨x138, ex138⟩ : ∃ z : Int32, pl ((nI mi).toNatClampNeg) = z := ⟨_, rfl⟩
                                  refine tw_ri (e2 := x138) ex138 ?_
                                  refine tw_wv (wr := [((q 2), aI g 600 bs), ((q 14), aI g 620 tg), ((q 16), aI g 620 on), ((q 17), aI g 620 tw), ((q 27), aI g 160 fl), ((q 28), aI g 160 pl), ((q 29), aI g 160 na), ((q 30), aI g 160 ty), ((q 31), aI g 160 ca)]) (tw_runV (ws := [(h0, .inr (10, mob q rf n mm mb fa9 fp9 av ev wi mn tp tc sc nf fd me mp xn mt wh tq ag an ig)), ((q 2), aI g 600 bs), ((q 14), aI g 620 tg), ((q 16), aI g 620 on), ((q 17), aI g 620 tw), ((q 27), aI g 160 fl), ((q 28), aI g 160 pl), ((q 29), aI g 160 na), ((q 30), aI g 160 ty), ((q 31), aI g 160 ca)]) (wc := [(h0, .inr (10, mob q rf n mm mb fa9 fp9 av ev wi mn tp tc sc nf fd me mp xn mt wh tq ag an ig))]) (As := [.int 12, .int x138]) (rest := []) E hB hK hZ (g_Mod_fail l g H.size h0 q rf n mm mb av ev wi mn tp tc sc nf fd me mp xn mt wh tq ag an ig fa9 fp9 12 x138 (by decide)) mc_Mod_fail mi_Mod_fail me_Mod_fail wd_1478 hP hD hS hA [0] rfl (by decide) 0 rfl rfl rfl rfl rfl (by decide) rfl hl.1 rfl (Nat.le_of_ble_eq_true rfl) (by decide) d_Mod_linkMember_299) hP hD hS hA [0] [1, 2, 3, 4, 5, 6, 7, 8, 9] rfl rfl (by decide) (by decide) (fun u140 H locs hr139 hP hD hS => ?_)
                                  try dsimp only at hr139
                                  have hP : va_P g.1 classes [((q 2), aI g 600 bs), ((q 14), aI g 620 tg), ((q 16), aI g 620 on), ((q 17), aI g 620 tw), ((q 27), aI g 160 fl), ((q 28), aI g 160 pl), ((q 29), aI g 160 na), ((q 30), aI g 160 ty), ((q 31), aI g 160 ca), (h0, .inr (10, mob q rf n mm mb u140.1 u140.2 av ev wi mn tp tc sc nf fd me mp xn mt wh tq ag an ig))] H := hP
                                  have hD : va_D A [((q 2), aI g 600 bs), ((q 14), aI g 620 tg), ((q 16), aI g 620 on), ((q 17), aI g 620 tw), ((q 27), aI g 160 fl), ((q 28), aI g 160 pl), ((q 29), aI g 160 na), ((q 30), aI g 160 ty), ((q 31), aI g 160 ca), (h0, .inr (10, mob q rf n mm mb u140.1 u140.2 av ev wi mn tp tc sc nf fd me mp xn mt wh tq ag an ig))] := hD
                                  have hP : va_P g.1 classes [(h0, .inr (10, mob q rf n mm mb u140.1 u140.2 av ev wi mn tp tc sc nf fd me mp xn mt wh tq ag an ig)), ((q 2), aI g 600 bs), ((q 14), aI g 620 tg), ((q 16), aI g 620 on), ((q 17), aI g 620 tw), ((q 27), aI g 160 fl), ((q 28), aI g 160 pl), ((q 29), aI g 160 na), ((q 30), aI g 160 ty), ((q 31), aI g 160 ca)] H := hP.sub [9, 0, 1, 2, 3, 4, 5, 6, 7, 8] rfl
                                  have hD : va_D A [(h0, .inr (10, mob q rf n mm mb u140.1 u140.2 av ev wi mn tp tc sc nf fd me mp xn mt wh tq ag an ig)), ((q 2), aI g 600 bs), ((q 14), aI g 620 tg), ((q 16), aI g 620 on), ((q 17), aI g 620 tw), ((q 27), aI g 160 fl), ((q 28), aI g 160 pl), ((q 29), aI g 160 na), ((q 30), aI g 160 ty), ((q 31), aI g 160 ca)] := hD.sub [9, 0, 1, 2, 3, 4, 5, 6, 7, 8] (by decide) rfl
                                  have hp140_0 := hr139
                                  exact tw_vret E hS (u140.1, u140.2) (⟨(fun h => absurd h hp140_0), (fun h => absurd h hp140_0)⟩) hP hD d_Mod_linkMember_302
                              · refine lv_iconst (v := 1) hx hb d_Mod_linkMember_282 (by decide) ?_
                                refine lv_goto (tgt := 287) hx hb d_Mod_linkMember_283 (by decide) ?_
                                refine lv_icmp_ne (tgt := 302) hx hb d_Mod_linkMember_287 (by decide) (fun h287 => ?_) (fun h287 => ?_)
                                · exact tw_vret E hS (fa9, fp9) (⟨(fun h => absurd h (fun h => hp126_0 (hc9 h))), (fun h => absurd h (fun h => hp126_0 (hc9 h)))⟩) hP hD d_Mod_linkMember_302
                                · refine lv_aload_n hx hb d_Mod_linkMember_290 rfl (lv_at hl 4 rfl) ?_
                                  refine lv_bipush (v := 12) hx hb d_Mod_linkMember_291 (by decide) ?_
                                  refine lv_aload_n hx hb d_Mod_linkMember_293 rfl (lv_at hl 4 rfl) ?_
                                  refine va_get (D := g.1) (ci := 10) (v := .ref (q 28)) (C := R_Mod) (T := F_Mod) (N := 61) hx hb hts in_Mod hown hK hP 0 rfl rfl 28 (by decide) (hts _ wd_1278) (fun _ h9 => h9) rfl d_Mod_linkMember_294 ?_
                                  refine lv_iload_n hx hb d_Mod_linkMember_297 rfl (lv_at hl 5 rfl) ?_
                                  refine va_iald hx hb hK hP 6 0 rfl rfl (vp_in_nI (by omega) (by decide)) d_Mod_linkMember_298 ?_
                                  obtain ⟨x141, ex141⟩ : ∃ z : Int32, pl ((nI mi).toNatClampNeg) = z := ⟨_, rfl⟩
                                  refine tw_ri (e2 := x141) ex141 ?_
                                  refine tw_wv (wr := [((q 2), aI g 600 bs), ((q 14), aI g 620 tg), ((q 16), aI g 620 on), ((q 17), aI g 620 tw), ((q 27), aI g 160 fl), ((q 28), aI g 160 pl), ((q 29), aI g 160 na), ((q 30), aI g 160 ty), ((q 31), aI g 160 ca)]) (tw_runV (ws := [(h0, .inr (10, mob q rf n mm mb fa9 fp9 av ev wi mn tp tc sc nf fd me mp xn mt wh tq ag an ig)), ((q 2), aI g 600 bs), ((q 14), aI g 620 tg), ((q 16), aI g 620 on), ((q 17), aI g 620 tw), ((q 27), aI g 160 fl), ((q 28), aI g 160 pl), ((q 29), aI g 160 na), ((q 30), aI g 160 ty), ((q 31), aI g 160 ca)]) (wc := [(h0, .inr (10, mob q rf n mm mb fa9 fp9 av ev wi mn tp tc sc nf fd me mp xn mt wh tq ag an ig))]) (As := [.int 12, .int x141]) (rest := []) E hB hK hZ (g_Mod_fail l g H.size h0 q rf n mm mb av ev wi mn tp tc sc nf fd me mp xn mt wh tq ag an ig fa9 fp9 12 x141 (by decide)) mc_Mod_fail mi_Mod_fail me_Mod_fail wd_1478 hP hD hS hA [0] rfl (by decide) 0 rfl rfl rfl rfl rfl (by decide) rfl hl.1 rfl (Nat.le_of_ble_eq_true rfl) (by decide) d_Mod_linkMember_299) hP hD hS hA [0] [1, 2, 3, 4, 5, 6, 7, 8, 9] rfl rfl (by decide) (by decide) (fun u143 H locs hr142 hP hD hS => ?_)
                                  try dsimp only at hr142
                                  have hP : va_P g.1 classes [((q 2), aI g 600 bs), ((q 14), aI g 620 tg), ((q 16), aI g 620 on), ((q 17), aI g 620 tw), ((q 27), aI g 160 fl), ((q 28), aI g 160 pl), ((q 29), aI g 160 na), ((q 30), aI g 160 ty), ((q 31), aI g 160 ca), (h0, .inr (10, mob q rf n mm mb u143.1 u143.2 av ev wi mn tp tc sc nf fd me mp xn mt wh tq ag an ig))] H := hP
                                  have hD : va_D A [((q 2), aI g 600 bs), ((q 14), aI g 620 tg), ((q 16), aI g 620 on), ((q 17), aI g 620 tw), ((q 27), aI g 160 fl), ((q 28), aI g 160 pl), ((q 29), aI g 160 na), ((q 30), aI g 160 ty), ((q 31), aI g 160 ca), (h0, .inr (10, mob q rf n mm mb u143.1 u143.2 av ev wi mn tp tc sc nf fd me mp xn mt wh tq ag an ig))] := hD
                                  have hP : va_P g.1 classes [(h0, .inr (10, mob q rf n mm mb u143.1 u143.2 av ev wi mn tp tc sc nf fd me mp xn mt wh tq ag an ig)), ((q 2), aI g 600 bs), ((q 14), aI g 620 tg), ((q 16), aI g 620 on), ((q 17), aI g 620 tw), ((q 27), aI g 160 fl), ((q 28), aI g 160 pl), ((q 29), aI g 160 na), ((q 30), aI g 160 ty), ((q 31), aI g 160 ca)] H := hP.sub [9, 0, 1, 2, 3, 4, 5, 6, 7, 8] rfl
                                  have hD : va_D A [(h0, .inr (10, mob q rf n mm mb u143.1 u143.2 av ev wi mn tp tc sc nf fd me mp xn mt wh tq ag an ig)), ((q 2), aI g 600 bs), ((q 14), aI g 620 tg), ((q 16), aI g 620 on), ((q 17), aI g 620 tw), ((q 27), aI g 160 fl), ((q 28), aI g 160 pl), ((q 29), aI g 160 na), ((q 30), aI g 160 ty), ((q 31), aI g 160 ca)] := hD.sub [9, 0, 1, 2, 3, 4, 5, 6, 7, 8] (by decide) rfl
                                  have hp143_0 := hr142
                                  exact tw_vret E hS (u143.1, u143.2) (⟨(fun h => absurd h hp143_0), (fun h => absurd h hp143_0)⟩) hP hD d_Mod_linkMember_302
                        · have h199 := tn_nle h199 (by omega) (by omega)
                          obtain ⟨⟨i1, u0, u1, u2, ut⟩, ⟨i2, pi2, li2, v0, v1, v2, vt, v3, v4, v5, v6⟩⟩ := hLM i h199
                          obtain ⟨pi1, li1, u3, u4, u5⟩ := hTX i1 (by omega) ut
                          refine lv_aload_n hx hb d_Mod_linkMember_202 rfl (lv_at hl 4 rfl) ?_
                          refine lv_aload_n hx hb d_Mod_linkMember_203 rfl (lv_at hl 4 rfl) ?_
                          refine va_get (D := g.1) (ci := 10) (v := .ref (q 29)) (C := R_Mod) (T := F_Mod) (N := 61) hx hb hts in_Mod hown hK hP 0 rfl rfl 29 (by decide) (hts _ wd_1279) (fun _ h9 => h9) rfl d_Mod_linkMember_204 ?_
                          refine lv_iload hx hb d_Mod_linkMember_207 (lv_at hl 0 rfl) ?_
                          refine va_iald hx hb hK hP 7 0 rfl rfl (vp_in_nI (by omega) (by decide)) d_Mod_linkMember_209 ?_
                          refine tw_ri (e2 := nI i1) (by rw [nI_clamp (by omega)]; exact u2) ?_
                          refine lv_iload_n hx hb d_Mod_linkMember_210 rfl (lv_at hl 2 rfl) ?_
                          refine tw_si (tw_runV (ws := [(h0, .inr (10, mob q rf n mm mb fa9 fp9 av ev wi mn tp tc sc nf fd me mp xn mt wh tq ag an ig)), ((q 2), aI g 600 bs), ((q 14), aI g 620 tg), ((q 16), aI g 620 on), ((q 17), aI g 620 tw), ((q 27), aI g 160 fl), ((q 28), aI g 160 pl), ((q 29), aI g 160 na), ((q 30), aI g 160 ty), ((q 31), aI g 160 ca)]) (wc := [(h0, .inr (10, mob q rf n mm mb fa9 fp9 av ev wi mn tp tc sc nf fd me mp xn mt wh tq ag an ig)), ((q 2), aI g 600 bs), ((q 16), aI g 620 on), ((q 17), aI g 620 tw)]) (As := [.int (nI i1), .int (nI jn)]) (rest := []) E hB hK hZ (g_Mod_sameTexts l g H.size h0 q rf n mm mb fa9 fp9 av ev wi mn tp tc sc nf fd me mp xn mt wh tq ag an ig bs on tw i1 jn pi1 li1 pn ln1 (by omega) u3 u4 u5 (by omega) pna pnb pnc) mc_Mod_sameTexts mi_Mod_sameTexts me_Mod_sameTexts wd_1579 hP hD hS hA [0, 1, 3, 4] rfl (by decide) 0 rfl rfl rfl rfl rfl (by decide) rfl hl.1 rfl (Nat.le_of_ble_eq_true rfl) (by decide) d_Mod_linkMember_211) (fun r144 hr144 => ?_)
                          have hB144 := hr144
                          refine lv_if_eq (tgt := 245) hx hb d_Mod_linkMember_214 (by decide) (fun h214 => ?_) (fun h214 => ?_)
                          · refine lv_iinc (k := 0) (v := nI (i + 1)) hx hb d_Mod_linkMember_245 hl rfl ((nI_succ i).symm) (by decide) rfl (fun ls hl => ?_)
                            have hl : lv_has ls 6 [(5, .int (nI (i + 1))), (4, .int (nI jt)), (3, .int (nI jn)), (2, .int 1), (0, .ref h0), (1, .int (nI mi))] := hl
                            refine lv_goto (tgt := 196) hx hb d_Mod_linkMember_248 (by decide) ?_
                            have hP : va_P g.1 classes [(h0, .inr (10, mob q rf n mm mb fa9 fp9 av ev wi mn tp tc sc nf fd me mp xn mt wh tq ag an ig)), ((q 2), aI g 600 bs), ((q 14), aI g 620 tg), ((q 16), aI g 620 on), ((q 17), aI g 620 tw), ((q 27), aI g 160 fl), ((q 28), aI g 160 pl), ((q 29), aI g 160 na), ((q 30), aI g 160 ty), ((q 31), aI g 160 ca)] H := hP.sub [0, 1, 2, 3, 4, 5, 6, 7, 8, 9] rfl
                            have hD : va_D A [(h0, .inr (10, mob q rf n mm mb fa9 fp9 av ev wi mn tp tc sc nf fd me mp xn mt wh tq ag an ig)), ((q 2), aI g 600 bs), ((q 14), aI g 620 tg), ((q 16), aI g 620 on), ((q 17), aI g 620 tw), ((q 27), aI g 160 fl), ((q 28), aI g 160 pl), ((q 29), aI g 160 na), ((q 30), aI g 160 ty), ((q 31), aI g 160 ca)] := hD.sub [0, 1, 2, 3, 4, 5, 6, 7, 8, 9] (by decide) rfl
                            exact ih _ (by omega) (i + 1) fa9 fp9 ls _ _ rfl (fun h => absurd h (fun h => hp126_0 (hc9 h))) (by omega) (lv_sub hl [0, 1, 2, 3, 4, 5] rfl) hP hD hS
                          · refine lv_aload_n hx hb d_Mod_linkMember_217 rfl (lv_at hl 4 rfl) ?_
                            refine lv_aload_n hx hb d_Mod_linkMember_218 rfl (lv_at hl 4 rfl) ?_
                            refine va_get (D := g.1) (ci := 10) (v := .ref (q 30)) (C := R_Mod) (T := F_Mod) (N := 61) hx hb hts in_Mod hown hK hP 0 rfl rfl 30 (by decide) (hts _ wd_1280) (fun _ h9 => h9) rfl d_Mod_linkMember_219 ?_
                            refine lv_iload hx hb d_Mod_linkMember_222 (lv_at hl 0 rfl) ?_
                            refine va_iald hx hb hK hP 8 0 rfl rfl (vp_in_nI (by omega) (by decide)) d_Mod_linkMember_224 ?_
                            refine tw_ri (e2 := nI i2) (by rw [nI_clamp (by omega)]; exact v2) ?_
                            refine lv_iload hx hb d_Mod_linkMember_225 (lv_at hl 1 rfl) ?_
                            refine tw_si (tw_runV (ws := [(h0, .inr (10, mob q rf n mm mb fa9 fp9 av ev wi mn tp tc sc nf fd me mp xn mt wh tq ag an ig)), ((q 2), aI g 600 bs), ((q 14), aI g 620 tg), ((q 16), aI g 620 on), ((q 17), aI g 620 tw), ((q 27), aI g 160 fl), ((q 28), aI g 160 pl), ((q 29), aI g 160 na), ((q 30), aI g 160 ty), ((q 31), aI g 160 ca)]) (wc := [(h0, .inr (10, mob q rf n mm mb fa9 fp9 av ev wi mn tp tc sc nf fd me mp xn mt wh tq ag an ig)), ((q 2), aI g 600 bs), ((q 16), aI g 620 on), ((q 17), aI g 620 tw)]) (As := [.int (nI i2), .int (nI jt)]) (rest := []) E hB hK hZ (g_Mod_sameTexts l g H.size h0 q rf n mm mb fa9 fp9 av ev wi mn tp tc sc nf fd me mp xn mt wh tq ag an ig bs on tw i2 jt pi2 li2 pt lt1 (by omega) v3 v4 v5 (by omega) pta ptb ptc) mc_Mod_sameTexts mi_Mod_sameTexts me_Mod_sameTexts wd_1579 hP hD hS hA [0, 1, 3, 4] rfl (by decide) 0 rfl rfl rfl rfl rfl (by decide) rfl hl.1 rfl (Nat.le_of_ble_eq_true rfl) (by decide) d_Mod_linkMember_227) (fun r145 hr145 => ?_)
                            have hB145 := hr145
                            refine lv_if_eq (tgt := 245) hx hb d_Mod_linkMember_230 (by decide) (fun h230 => ?_) (fun h230 => ?_)
                            · refine lv_iinc (k := 0) (v := nI (i + 1)) hx hb d_Mod_linkMember_245 hl rfl ((nI_succ i).symm) (by decide) rfl (fun ls hl => ?_)
                              have hl : lv_has ls 6 [(5, .int (nI (i + 1))), (4, .int (nI jt)), (3, .int (nI jn)), (2, .int 1), (0, .ref h0), (1, .int (nI mi))] := hl
                              refine lv_goto (tgt := 196) hx hb d_Mod_linkMember_248 (by decide) ?_
                              have hP : va_P g.1 classes [(h0, .inr (10, mob q rf n mm mb fa9 fp9 av ev wi mn tp tc sc nf fd me mp xn mt wh tq ag an ig)), ((q 2), aI g 600 bs), ((q 14), aI g 620 tg), ((q 16), aI g 620 on), ((q 17), aI g 620 tw), ((q 27), aI g 160 fl), ((q 28), aI g 160 pl), ((q 29), aI g 160 na), ((q 30), aI g 160 ty), ((q 31), aI g 160 ca)] H := hP.sub [0, 1, 2, 3, 4, 5, 6, 7, 8, 9] rfl
                              have hD : va_D A [(h0, .inr (10, mob q rf n mm mb fa9 fp9 av ev wi mn tp tc sc nf fd me mp xn mt wh tq ag an ig)), ((q 2), aI g 600 bs), ((q 14), aI g 620 tg), ((q 16), aI g 620 on), ((q 17), aI g 620 tw), ((q 27), aI g 160 fl), ((q 28), aI g 160 pl), ((q 29), aI g 160 na), ((q 30), aI g 160 ty), ((q 31), aI g 160 ca)] := hD.sub [0, 1, 2, 3, 4, 5, 6, 7, 8, 9] (by decide) rfl
                              exact ih _ (by omega) (i + 1) fa9 fp9 ls _ _ rfl (fun h => absurd h (fun h => hp126_0 (hc9 h))) (by omega) (lv_sub hl [0, 1, 2, 3, 4, 5] rfl) hP hD hS
                            · refine lv_aload_n hx hb d_Mod_linkMember_233 rfl (lv_at hl 4 rfl) ?_
                              refine lv_bipush (v := 7) hx hb d_Mod_linkMember_234 (by decide) ?_
                              refine lv_aload_n hx hb d_Mod_linkMember_236 rfl (lv_at hl 4 rfl) ?_
                              refine va_get (D := g.1) (ci := 10) (v := .ref (q 28)) (C := R_Mod) (T := F_Mod) (N := 61) hx hb hts in_Mod hown hK hP 0 rfl rfl 28 (by decide) (hts _ wd_1278) (fun _ h9 => h9) rfl d_Mod_linkMember_237 ?_
                              refine lv_iload_n hx hb d_Mod_linkMember_240 rfl (lv_at hl 5 rfl) ?_
                              refine va_iald hx hb hK hP 6 0 rfl rfl (vp_in_nI (by omega) (by decide)) d_Mod_linkMember_241 ?_
                              obtain ⟨x146, ex146⟩ : ∃ z : Int32, pl ((nI mi).toNatClampNeg) = z := ⟨_, rfl⟩
                              refine tw_ri (e2 := x146) ex146 ?_
                              refine tw_wv (wr := [((q 2), aI g 600 bs), ((q 14), aI g 620 tg), ((q 16), aI g 620 on), ((q 17), aI g 620 tw), ((q 27), aI g 160 fl), ((q 28), aI g 160 pl), ((q 29), aI g 160 na), ((q 30), aI g 160 ty), ((q 31), aI g 160 ca)]) (tw_runV (ws := [(h0, .inr (10, mob q rf n mm mb fa9 fp9 av ev wi mn tp tc sc nf fd me mp xn mt wh tq ag an ig)), ((q 2), aI g 600 bs), ((q 14), aI g 620 tg), ((q 16), aI g 620 on), ((q 17), aI g 620 tw), ((q 27), aI g 160 fl), ((q 28), aI g 160 pl), ((q 29), aI g 160 na), ((q 30), aI g 160 ty), ((q 31), aI g 160 ca)]) (wc := [(h0, .inr (10, mob q rf n mm mb fa9 fp9 av ev wi mn tp tc sc nf fd me mp xn mt wh tq ag an ig))]) (As := [.int 7, .int x146]) (rest := []) E hB hK hZ (g_Mod_fail l g H.size h0 q rf n mm mb av ev wi mn tp tc sc nf fd me mp xn mt wh tq ag an ig fa9 fp9 7 x146 (by decide)) mc_Mod_fail mi_Mod_fail me_Mod_fail wd_1478 hP hD hS hA [0] rfl (by decide) 0 rfl rfl rfl rfl rfl (by decide) rfl hl.1 rfl (Nat.le_of_ble_eq_true rfl) (by decide) d_Mod_linkMember_242) hP hD hS hA [0] [1, 2, 3, 4, 5, 6, 7, 8, 9] rfl rfl (by decide) (by decide) (fun u148 H locs hr147 hP hD hS => ?_)
                              try dsimp only at hr147
                              have hP : va_P g.1 classes [((q 2), aI g 600 bs), ((q 14), aI g 620 tg), ((q 16), aI g 620 on), ((q 17), aI g 620 tw), ((q 27), aI g 160 fl), ((q 28), aI g 160 pl), ((q 29), aI g 160 na), ((q 30), aI g 160 ty), ((q 31), aI g 160 ca), (h0, .inr (10, mob q rf n mm mb u148.1 u148.2 av ev wi mn tp tc sc nf fd me mp xn mt wh tq ag an ig))] H := hP
                              have hD : va_D A [((q 2), aI g 600 bs), ((q 14), aI g 620 tg), ((q 16), aI g 620 on), ((q 17), aI g 620 tw), ((q 27), aI g 160 fl), ((q 28), aI g 160 pl), ((q 29), aI g 160 na), ((q 30), aI g 160 ty), ((q 31), aI g 160 ca), (h0, .inr (10, mob q rf n mm mb u148.1 u148.2 av ev wi mn tp tc sc nf fd me mp xn mt wh tq ag an ig))] := hD
                              have hP : va_P g.1 classes [(h0, .inr (10, mob q rf n mm mb u148.1 u148.2 av ev wi mn tp tc sc nf fd me mp xn mt wh tq ag an ig)), ((q 2), aI g 600 bs), ((q 14), aI g 620 tg), ((q 16), aI g 620 on), ((q 17), aI g 620 tw), ((q 27), aI g 160 fl), ((q 28), aI g 160 pl), ((q 29), aI g 160 na), ((q 30), aI g 160 ty), ((q 31), aI g 160 ca)] H := hP.sub [9, 0, 1, 2, 3, 4, 5, 6, 7, 8] rfl
                              have hD : va_D A [(h0, .inr (10, mob q rf n mm mb u148.1 u148.2 av ev wi mn tp tc sc nf fd me mp xn mt wh tq ag an ig)), ((q 2), aI g 600 bs), ((q 14), aI g 620 tg), ((q 16), aI g 620 on), ((q 17), aI g 620 tw), ((q 27), aI g 160 fl), ((q 28), aI g 160 pl), ((q 29), aI g 160 na), ((q 30), aI g 160 ty), ((q 31), aI g 160 ca)] := hD.sub [9, 0, 1, 2, 3, 4, 5, 6, 7, 8] (by decide) rfl
                              have hp148_0 := hr147
                              refine lv_iinc (k := 0) (v := nI (i + 1)) hx hb d_Mod_linkMember_245 hl rfl ((nI_succ i).symm) (by decide) rfl (fun ls hl => ?_)
                              have hl : lv_has ls 6 [(5, .int (nI (i + 1))), (4, .int (nI jt)), (3, .int (nI jn)), (2, .int 1), (0, .ref h0), (1, .int (nI mi))] := hl
                              refine lv_goto (tgt := 196) hx hb d_Mod_linkMember_248 (by decide) ?_
                              have hP : va_P g.1 classes [(h0, .inr (10, mob q rf n mm mb u148.1 u148.2 av ev wi mn tp tc sc nf fd me mp xn mt wh tq ag an ig)), ((q 2), aI g 600 bs), ((q 14), aI g 620 tg), ((q 16), aI g 620 on), ((q 17), aI g 620 tw), ((q 27), aI g 160 fl), ((q 28), aI g 160 pl), ((q 29), aI g 160 na), ((q 30), aI g 160 ty), ((q 31), aI g 160 ca)] H := hP.sub [0, 1, 2, 3, 4, 5, 6, 7, 8, 9] rfl
                              have hD : va_D A [(h0, .inr (10, mob q rf n mm mb u148.1 u148.2 av ev wi mn tp tc sc nf fd me mp xn mt wh tq ag an ig)), ((q 2), aI g 600 bs), ((q 14), aI g 620 tg), ((q 16), aI g 620 on), ((q 17), aI g 620 tw), ((q 27), aI g 160 fl), ((q 28), aI g 160 pl), ((q 29), aI g 160 na), ((q 30), aI g 160 ty), ((q 31), aI g 160 ca)] := hD.sub [0, 1, 2, 3, 4, 5, 6, 7, 8, 9] (by decide) rfl
                              exact ih _ (by omega) (i + 1) u148.1 u148.2 ls _ _ rfl (fun h => absurd h hp148_0) (by omega) (lv_sub hl [0, 1, 2, 3, 4, 5] rfl) hP hD hS
                    exact loop196 _ fd u126.1 u126.2 ls _ _ rfl (fun h => h) (by omega) (hl) hP hD hS
            · refine lv_aload_n hx hb d_Mod_linkMember_100 rfl (lv_at hl 3 rfl) ?_
              refine lv_iload_n hx hb d_Mod_linkMember_101 rfl (lv_at hl 1 rfl) ?_
              refine tw_si (tw_runV (ws := [(h0, .inr (10, mob q rf n mm mb fa fp av ev wi mn tp tc sc nf fd me mp xn mt wh tq ag an ig)), ((q 2), aI g 600 bs), ((q 14), aI g 620 tg), ((q 16), aI g 620 on), ((q 17), aI g 620 tw), ((q 27), aI g 160 fl), ((q 28), aI g 160 pl), ((q 29), aI g 160 na), ((q 30), aI g 160 ty), ((q 31), aI g 160 ca)]) (wc := [(h0, .inr (10, mob q rf n mm mb fa fp av ev wi mn tp tc sc nf fd me mp xn mt wh tq ag an ig)), ((q 2), aI g 600 bs), ((q 16), aI g 620 on), ((q 17), aI g 620 tw)]) (As := [.int (nI jn)]) (rest := []) E hB hK hZ (g_Mod_isClassInit l g H.size h0 q rf n mm mb fa fp av ev wi mn tp tc sc nf fd me mp xn mt wh tq ag an ig bs on tw jn pn ln1 (by omega) pna pnb pnc) mc_Mod_isClassInit mi_Mod_isClassInit me_Mod_isClassInit wd_1575 hP hD hS hA [0, 1, 3, 4] rfl (by decide) 0 rfl rfl rfl rfl rfl (by decide) rfl hl.1 rfl (Nat.le_of_ble_eq_true rfl) (by decide) d_Mod_linkMember_102) (fun r149 hr149 => ?_)
              have hB149 := hr149
              refine lv_if_ne (tgt := 123) hx hb d_Mod_linkMember_105 (by decide) (fun h105 => ?_) (fun h105 => ?_)
              · refine lv_iload_n hx hb d_Mod_linkMember_123 rfl (lv_at hl 2 rfl) ?_
                refine lv_if_eq (tgt := 150) hx hb d_Mod_linkMember_124 (by decide) (fun h124 => ?_) (fun h124 => ?_)
                · first | exact absurd h124 (by decide) | exact absurd (by decide) h124
                · refine lv_aload_n hx hb d_Mod_linkMember_127 rfl (lv_at hl 3 rfl) ?_
                  refine lv_aload_n hx hb d_Mod_linkMember_128 rfl (lv_at hl 3 rfl) ?_
                  refine va_get (D := g.1) (ci := 10) (v := .ref (q 16)) (C := R_Mod) (T := F_Mod) (N := 61) hx hb hts in_Mod hown hK hP 0 rfl rfl 16 (by decide) (hts _ wd_1266) (fun _ h9 => h9) rfl d_Mod_linkMember_129 ?_
                  refine lv_iload hx hb d_Mod_linkMember_132 (lv_at hl 0 rfl) ?_
                  refine va_iald hx hb hK hP 3 0 rfl rfl (vp_in_nI (by omega) (by decide)) d_Mod_linkMember_134 ?_
                  refine tw_ri (e2 := nI pt) (by rw [nI_clamp (by omega)]; exact pta) ?_
                  refine lv_aload_n hx hb d_Mod_linkMember_135 rfl (lv_at hl 3 rfl) ?_
                  refine lv_iload hx hb d_Mod_linkMember_136 (lv_at hl 0 rfl) ?_
                  refine tw_si (tw_runV (ws := [(h0, .inr (10, mob q rf n mm mb fa fp av ev wi mn tp tc sc nf fd me mp xn mt wh tq ag an ig)), ((q 2), aI g 600 bs), ((q 14), aI g 620 tg), ((q 16), aI g 620 on), ((q 17), aI g 620 tw), ((q 27), aI g 160 fl), ((q 28), aI g 160 pl), ((q 29), aI g 160 na), ((q 30), aI g 160 ty), ((q 31), aI g 160 ca)]) (wc := [(h0, .inr (10, mob q rf n mm mb fa fp av ev wi mn tp tc sc nf fd me mp xn mt wh tq ag an ig)), ((q 16), aI g 620 on), ((q 17), aI g 620 tw)]) (As := [.int (nI jt)]) (rest := [.int (nI pt), .ref h0]) E hB hK hZ (g_Mod_endOf l g H.size h0 q rf n mm mb fa fp av ev wi mn tp tc sc nf fd me mp xn mt wh tq ag an ig on tw jt pt lt1 (by omega) pta ptb ptc) mc_Mod_endOf mi_Mod_endOf me_Mod_endOf wd_1536 hP hD hS hA [0, 3, 4] rfl (by decide) 0 rfl rfl rfl rfl rfl (by decide) rfl hl.1 rfl (Nat.le_of_ble_eq_true rfl) (by decide) d_Mod_linkMember_138) (fun r150 hr150 => ?_)
                  have hB150 := hr150
                  subst hB150
                  refine tw_si (tw_runV (ws := [(h0, .inr (10, mob q rf n mm mb fa fp av ev wi mn tp tc sc nf fd me mp xn mt wh tq ag an ig)), ((q 2), aI g 600 bs), ((q 14), aI g 620 tg), ((q 16), aI g 620 on), ((q 17), aI g 620 tw), ((q 27), aI g 160 fl), ((q 28), aI g 160 pl), ((q 29), aI g 160 na), ((q 30), aI g 160 ty), ((q 31), aI g 160 ca)]) (wc := [(h0, .inr (10, mob q rf n mm mb fa fp av ev wi mn tp tc sc nf fd me mp xn mt wh tq ag an ig)), ((q 2), aI g 600 bs)]) (As := [.int (nI pt), .int (nI (pt + lt1))]) (rest := []) E hB hK hZ (g_Mod_isMethodType l g H.size h0 q rf n mm mb fa fp av ev wi mn tp tc sc nf fd me mp xn mt wh tq ag an ig bs pt (pt + lt1) (by omega) (by omega)) mc_Mod_isMethodType mi_Mod_isMethodType me_Mod_isMethodType wd_1563 hP hD hS hA [0, 1] rfl (by decide) 0 rfl rfl rfl rfl rfl (by decide) rfl hl.1 rfl (Nat.le_of_ble_eq_true rfl) (by decide) d_Mod_linkMember_141) (fun r151 hr151 => ?_)
                  have hB151 := hr151
                  refine lv_if_ne (tgt := 182) hx hb d_Mod_linkMember_144 (by decide) (fun h144 => ?_) (fun h144 => ?_)
                  · have hT144 := hB151.2 (hB151.1.resolve_left h144)
                    refine lv_iload_n hx hb d_Mod_linkMember_182 rfl (lv_at hl 2 rfl) ?_
                    refine lv_if_eq (tgt := 193) hx hb d_Mod_linkMember_183 (by decide) (fun h183 => ?_) (fun h183 => ?_)
                    · first | exact absurd h183 (by decide) | exact absurd (by decide) h183
                    · refine lv_aload_n hx hb d_Mod_linkMember_186 rfl (lv_at hl 3 rfl) ?_
                      refine va_get (D := g.1) (ci := 10) (v := .int (nI fd)) (C := R_Mod) (T := F_Mod) (N := 61) hx hb hts in_Mod hown hK hP 0 rfl rfl 24 (by decide) (hts _ wd_1274) (fun _ h9 => h9) rfl d_Mod_linkMember_187 ?_
                      refine lv_goto (tgt := 194) hx hb d_Mod_linkMember_190 (by decide) ?_
                      refine lv_istore hx hb d_Mod_linkMember_194 hl (by decide) rfl (fun ls hl => ?_)
                      have hl : lv_has ls 6 [(5, .int (nI fd)), (4, .int (nI jt)), (3, .int (nI jn)), (2, .int 1), (0, .ref h0), (1, .int (nI mi))] := hl
                      have loop196 : ∀ (kq : Nat) (i : Nat) (fa9 : Int32) (fp9 : Int32) (ls : Array Slot) (H : Heap) (locs : List Loc) , mi - i = kq → (hc9 : fa9 = 0 → fa = 0) → (hib : i ≤ 160) → lv_has ls 6 [(5, .int (nI i)), (4, .int (nI jt)), (3, .int (nI jn)), (2, .int 1), (0, .ref h0), (1, .int (nI mi))] → va_P g.1 classes [(h0, .inr (10, mob q rf n mm mb fa9 fp9 av ev wi mn tp tc sc nf fd me mp xn mt wh tq ag an ig)), ((q 2), aI g 600 bs), ((q 14), aI g 620 tg), ((q 16), aI g 620 on), ((q 17), aI g 620 tw), ((q 27), aI g 160 fl), ((q 28), aI g 160 pl), ((q 29), aI g 160 na), ((q 30), aI g 160 ty), ((q 31), aI g 160 ca)] H → va_D A [(h0, .inr (10, mob q rf n mm mb fa9 fp9 av ev wi mn tp tc sc nf fd me mp xn mt wh tq ag an ig)), ((q 2), aI g 600 bs), ((q 14), aI g 620 tg), ((q 16), aI g 620 on), ((q 17), aI g 620 tw), ((q 27), aI g 160 fl), ((q 28), aI g 160 pl), ((q 29), aI g 160 na), ((q 30), aI g 160 ty), ((q 31), aI g 160 ca)] → va_S A s.heap H locs → W p l e ({ frames := 6, cells := 0, slots := 0, locals := 139 }) s m [.ref h0, .int (nI mi)].toArray below meth c H locs 0 0 (MQ below (tw_Qv g (fun (u : Int32 × Int32) => (u.1 = 0 → fa = 0) ∧ (u.1 = 0 → LMB bs mn tg on tw fd na ty mi)) (fun u : Int32 × Int32 => [(h0, .inr (10, mob q rf n mm mb u.1 u.2 av ev wi mn tp tc sc nf fd me mp xn mt wh tq ag an ig)), ((q 2), aI g 600 bs), ((q 14), aI g 620 tg), ((q 16), aI g 620 on), ((q 17), aI g 620 tw), ((q 27), aI g 160 fl), ((q 28), aI g 160 pl), ((q 29), aI g 160 na), ((q 30), aI g 160 ty), ((q 31), aI g 160 ca)]) A) [.ref h0, .int (nI mi)].toArray s 0 0 A) (F0 m 196 ls []) := by
                        intro kq
                        induction kq using Nat.strongRecOn with
                        | _ kq ih =>
                          intro i fa9 fp9 ls H locs hk hc9 hib hl hP hD hS
                          refine lv_iload hx hb d_Mod_linkMember_196 (lv_at hl 0 rfl) ?_
                          refine lv_iload_n hx hb d_Mod_linkMember_198 rfl (lv_at hl 5 rfl) ?_
                          refine lv_icmp_ge (tgt := 251) hx hb d_Mod_linkMember_199 (by decide) (fun h199 => ?_) (fun h199 => ?_)
                          · refine lv_iload_n hx hb d_Mod_linkMember_251 rfl (lv_at hl 3 rfl) ?_
                            refine lv_if_eq (tgt := 302) hx hb d_Mod_linkMember_252 (by decide) (fun h252 => ?_) (fun h252 => ?_)
                            · first | exact absurd h252 (by decide) | exact absurd (by decide) h252
                            · refine lv_aload_n hx hb d_Mod_linkMember_255 rfl (lv_at hl 4 rfl) ?_
                              refine va_get (D := g.1) (ci := 10) (v := .ref (q 31)) (C := R_Mod) (T := F_Mod) (N := 61) hx hb hts in_Mod hown hK hP 0 rfl rfl 31 (by decide) (hts _ wd_1281) (fun _ h9 => h9) rfl d_Mod_linkMember_256 ?_
                              refine lv_iload_n hx hb d_Mod_linkMember_259 rfl (lv_at hl 5 rfl) ?_
                              refine va_iald hx hb hK hP 9 0 rfl rfl (vp_in_nI (by omega) (by decide)) d_Mod_linkMember_260 ?_
                              obtain ⟨x152, ex152⟩ : ∃ z : Int32, ca ((nI mi).toNatClampNeg) = z := ⟨_, rfl⟩
                              refine tw_ri (e2 := x152) ex152 ?_
                              refine lv_if_le (tgt := 268) hx hb d_Mod_linkMember_261 (by decide) (fun h261 => ?_) (fun h261 => ?_)
                              · refine lv_iconst (v := 0) hx hb d_Mod_linkMember_268 (by decide) ?_
                                refine lv_aload_n hx hb d_Mod_linkMember_269 rfl (lv_at hl 4 rfl) ?_
                                refine va_get (D := g.1) (ci := 10) (v := .ref (q 27)) (C := R_Mod) (T := F_Mod) (N := 61) hx hb hts in_Mod hown hK hP 0 rfl rfl 27 (by decide) (hts _ wd_1277) (fun _ h9 => h9) rfl d_Mod_linkMember_270 ?_
                                refine lv_iload_n hx hb d_Mod_linkMember_273 rfl (lv_at hl 5 rfl) ?_
                                refine va_iald hx hb hK hP 5 0 rfl rfl (vp_in_nI (by omega) (by decide)) d_Mod_linkMember_274 ?_
                                obtain ⟨x153, ex153⟩ : ∃ z : Int32, fl ((nI mi).toNatClampNeg) = z := ⟨_, rfl⟩
                                refine tw_ri (e2 := x153) ex153 ?_
                                refine lv_sipush (v := 1280) hx hb d_Mod_linkMember_275 (by decide) ?_
                                refine lv_iand hx hb d_Mod_linkMember_278 ?_
                                obtain ⟨x154, ex154⟩ : ∃ z : Int32, x153 &&& 1280 = z := ⟨_, rfl⟩
                                refine tw_ri (e2 := x154) ex154 ?_
                                refine lv_if_eq (tgt := 286) hx hb d_Mod_linkMember_279 (by decide) (fun h279 => ?_) (fun h279 => ?_)
                                · refine lv_iconst (v := 0) hx hb d_Mod_linkMember_286 (by decide) ?_
                                  refine lv_icmp_ne (tgt := 302) hx hb d_Mod_linkMember_287 (by decide) (fun h287 => ?_) (fun h287 => ?_)
                                  · exact tw_vret E hS (fa9, fp9) (⟨(fun _ => hf0), (fun hz => by have hz155 := hc9 hz; exact ⟨⟨jn, jn0, jn1, exn2, jnt⟩, ⟨jt, pt, lt1, jt0, jt1, ext2, jtt, pta, ptb, ptc, (fun _ => hT144)⟩⟩)⟩) hP hD d_Mod_linkMember_302
                                  · refine lv_aload_n hx hb d_Mod_linkMember_290 rfl (lv_at hl 4 rfl) ?_
                                    refine lv_bipush (v := 12) hx hb d_Mod_linkMember_291 (by decide) ?_
                                    refine lv_aload_n hx hb d_Mod_linkMember_293 rfl (lv_at hl 4 rfl) ?_
                                    refine va_get (D := g.1) (ci := 10) (v := .ref (q 28)) (C := R_Mod) (T := F_Mod) (N := 61) hx hb hts in_Mod hown hK hP 0 rfl rfl 28 (by decide) (hts _ wd_1278) (fun _ h9 => h9) rfl d_Mod_linkMember_294 ?_
                                    refine lv_iload_n hx hb d_Mod_linkMember_297 rfl (lv_at hl 5 rfl) ?_
                                    refine va_iald hx hb hK hP 6 0 rfl rfl (vp_in_nI (by omega) (by decide)) d_Mod_linkMember_298 ?_
                                    obtain ⟨x156, ex156⟩ : ∃ z : Int32, pl ((nI mi).toNatClampNeg) = z := ⟨_, rfl⟩
                                    refine tw_ri (e2 := x156) ex156 ?_
                                    refine tw_wv (wr := [((q 2), aI g 600 bs), ((q 14), aI g 620 tg), ((q 16), aI g 620 on), ((q 17), aI g 620 tw), ((q 27), aI g 160 fl), ((q 28), aI g 160 pl), ((q 29), aI g 160 na), ((q 30), aI g 160 ty), ((q 31), aI g 160 ca)]) (tw_runV (ws := [(h0, .inr (10, mob q rf n mm mb fa9 fp9 av ev wi mn tp tc sc nf fd me mp xn mt wh tq ag an ig)), ((q 2), aI g 600 bs), ((q 14), aI g 620 tg), ((q 16), aI g 620 on), ((q 17), aI g 620 tw), ((q 27), aI g 160 fl), ((q 28), aI g 160 pl), ((q 29), aI g 160 na), ((q 30), aI g 160 ty), ((q 31), aI g 160 ca)]) (wc := [(h0, .inr (10, mob q rf n mm mb fa9 fp9 av ev wi mn tp tc sc nf fd me mp xn mt wh tq ag an ig))]) (As := [.int 12, .int x156]) (rest := []) E hB hK hZ (g_Mod_fail l g H.size h0 q rf n mm mb av ev wi mn tp tc sc nf fd me mp xn mt wh tq ag an ig fa9 fp9 12 x156 (by decide)) mc_Mod_fail mi_Mod_fail me_Mod_fail wd_1478 hP hD hS hA [0] rfl (by decide) 0 rfl rfl rfl rfl rfl (by decide) rfl hl.1 rfl (Nat.le_of_ble_eq_true rfl) (by decide) d_Mod_linkMember_299) hP hD hS hA [0] [1, 2, 3, 4, 5, 6, 7, 8, 9] rfl rfl (by decide) (by decide) (fun u158 H locs hr157 hP hD hS => ?_)
                                    try dsimp only at hr157
                                    have hP : va_P g.1 classes [((q 2), aI g 600 bs), ((q 14), aI g 620 tg), ((q 16), aI g 620 on), ((q 17), aI g 620 tw), ((q 27), aI g 160 fl), ((q 28), aI g 160 pl), ((q 29), aI g 160 na), ((q 30), aI g 160 ty), ((q 31), aI g 160 ca), (h0, .inr (10, mob q rf n mm mb u158.1 u158.2 av ev wi mn tp tc sc nf fd me mp xn mt wh tq ag an ig))] H := hP
                                    have hD : va_D A [((q 2), aI g 600 bs), ((q 14), aI g 620 tg), ((q 16), aI g 620 on), ((q 17), aI g 620 tw), ((q 27), aI g 160 fl), ((q 28), aI g 160 pl), ((q 29), aI g 160 na), ((q 30), aI g 160 ty), ((q 31), aI g 160 ca), (h0, .inr (10, mob q rf n mm mb u158.1 u158.2 av ev wi mn tp tc sc nf fd me mp xn mt wh tq ag an ig))] := hD
                                    have hP : va_P g.1 classes [(h0, .inr (10, mob q rf n mm mb u158.1 u158.2 av ev wi mn tp tc sc nf fd me mp xn mt wh tq ag an ig)), ((q 2), aI g 600 bs), ((q 14), aI g 620 tg), ((q 16), aI g 620 on), ((q 17), aI g 620 tw), ((q 27), aI g 160 fl), ((q 28), aI g 160 pl), ((q 29), aI g 160 na), ((q 30), aI g 160 ty), ((q 31), aI g 160 ca)] H := hP.sub [9, 0, 1, 2, 3, 4, 5, 6, 7, 8] rfl
                                    have hD : va_D A [(h0, .inr (10, mob q rf n mm mb u158.1 u158.2 av ev wi mn tp tc sc nf fd me mp xn mt wh tq ag an ig)), ((q 2), aI g 600 bs), ((q 14), aI g 620 tg), ((q 16), aI g 620 on), ((q 17), aI g 620 tw), ((q 27), aI g 160 fl), ((q 28), aI g 160 pl), ((q 29), aI g 160 na), ((q 30), aI g 160 ty), ((q 31), aI g 160 ca)] := hD.sub [9, 0, 1, 2, 3, 4, 5, 6, 7, 8] (by decide) rfl
                                    have hp158_0 := hr157
                                    exact tw_vret E hS (u158.1, u158.2) (⟨(fun h => absurd h hp158_0), (fun h => absurd h hp158_0)⟩) hP hD d_Mod_linkMember_302
                                · refine lv_iconst (v := 1) hx hb d_Mod_linkMember_282 (by decide) ?_
                                  refine lv_goto (tgt := 287) hx hb d_Mod_linkMember_283 (by decide) ?_
                                  refine lv_icmp_ne (tgt := 302) hx hb d_Mod_linkMember_287 (by decide) (fun h287 => ?_) (fun h287 => ?_)
                                  · exact tw_vret E hS (fa9, fp9) (⟨(fun _ => hf0), (fun hz => by have hz159 := hc9 hz; exact ⟨⟨jn, jn0, jn1, exn2, jnt⟩, ⟨jt, pt, lt1, jt0, jt1, ext2, jtt, pta, ptb, ptc, (fun _ => hT144)⟩⟩)⟩) hP hD d_Mod_linkMember_302
                                  · refine lv_aload_n hx hb d_Mod_linkMember_290 rfl (lv_at hl 4 rfl) ?_
                                    refine lv_bipush (v := 12) hx hb d_Mod_linkMember_291 (by decide) ?_
                                    refine lv_aload_n hx hb d_Mod_linkMember_293 rfl (lv_at hl 4 rfl) ?_
                                    refine va_get (D := g.1) (ci := 10) (v := .ref (q 28)) (C := R_Mod) (T := F_Mod) (N := 61) hx hb hts in_Mod hown hK hP 0 rfl rfl 28 (by decide) (hts _ wd_1278) (fun _ h9 => h9) rfl d_Mod_linkMember_294 ?_
                                    refine lv_iload_n hx hb d_Mod_linkMember_297 rfl (lv_at hl 5 rfl) ?_
                                    refine va_iald hx hb hK hP 6 0 rfl rfl (vp_in_nI (by omega) (by decide)) d_Mod_linkMember_298 ?_
                                    obtain ⟨x160, ex160⟩ : ∃ z : Int32, pl ((nI mi).toNatClampNeg) = z := ⟨_, rfl⟩
                                    refine tw_ri (e2 := x160) ex160 ?_
                                    refine tw_wv (wr := [((q 2), aI g 600 bs), ((q 14), aI g 620 tg), ((q 16), aI g 620 on), ((q 17), aI g 620 tw), ((q 27), aI g 160 fl), ((q 28), aI g 160 pl), ((q 29), aI g 160 na), ((q 30), aI g 160 ty), ((q 31), aI g 160 ca)]) (tw_runV (ws := [(h0, .inr (10, mob q rf n mm mb fa9 fp9 av ev wi mn tp tc sc nf fd me mp xn mt wh tq ag an ig)), ((q 2), aI g 600 bs), ((q 14), aI g 620 tg), ((q 16), aI g 620 on), ((q 17), aI g 620 tw), ((q 27), aI g 160 fl), ((q 28), aI g 160 pl), ((q 29), aI g 160 na), ((q 30), aI g 160 ty), ((q 31), aI g 160 ca)]) (wc := [(h0, .inr (10, mob q rf n mm mb fa9 fp9 av ev wi mn tp tc sc nf fd me mp xn mt wh tq ag an ig))]) (As := [.int 12, .int x160]) (rest := []) E hB hK hZ (g_Mod_fail l g H.size h0 q rf n mm mb av ev wi mn tp tc sc nf fd me mp xn mt wh tq ag an ig fa9 fp9 12 x160 (by decide)) mc_Mod_fail mi_Mod_fail me_Mod_fail wd_1478 hP hD hS hA [0] rfl (by decide) 0 rfl rfl rfl rfl rfl (by decide) rfl hl.1 rfl (Nat.le_of_ble_eq_true rfl) (by decide) d_Mod_linkMember_299) hP hD hS hA [0] [1, 2, 3, 4, 5, 6, 7, 8, 9] rfl rfl (by decide) (by decide) (fun u162 H locs hr161 hP hD hS => ?_)
                                    try dsimp only at hr161
                                    have hP : va_P g.1 classes [((q 2), aI g 600 bs), ((q 14), aI g 620 tg), ((q 16), aI g 620 on), ((q 17), aI g 620 tw), ((q 27), aI g 160 fl), ((q 28), aI g 160 pl), ((q 29), aI g 160 na), ((q 30), aI g 160 ty), ((q 31), aI g 160 ca), (h0, .inr (10, mob q rf n mm mb u162.1 u162.2 av ev wi mn tp tc sc nf fd me mp xn mt wh tq ag an ig))] H := hP
                                    have hD : va_D A [((q 2), aI g 600 bs), ((q 14), aI g 620 tg), ((q 16), aI g 620 on), ((q 17), aI g 620 tw), ((q 27), aI g 160 fl), ((q 28), aI g 160 pl), ((q 29), aI g 160 na), ((q 30), aI g 160 ty), ((q 31), aI g 160 ca), (h0, .inr (10, mob q rf n mm mb u162.1 u162.2 av ev wi mn tp tc sc nf fd me mp xn mt wh tq ag an ig))] := hD
                                    have hP : va_P g.1 classes [(h0, .inr (10, mob q rf n mm mb u162.1 u162.2 av ev wi mn tp tc sc nf fd me mp xn mt wh tq ag an ig)), ((q 2), aI g 600 bs), ((q 14), aI g 620 tg), ((q 16), aI g 620 on), ((q 17), aI g 620 tw), ((q 27), aI g 160 fl), ((q 28), aI g 160 pl), ((q 29), aI g 160 na), ((q 30), aI g 160 ty), ((q 31), aI g 160 ca)] H := hP.sub [9, 0, 1, 2, 3, 4, 5, 6, 7, 8] rfl
                                    have hD : va_D A [(h0, .inr (10, mob q rf n mm mb u162.1 u162.2 av ev wi mn tp tc sc nf fd me mp xn mt wh tq ag an ig)), ((q 2), aI g 600 bs), ((q 14), aI g 620 tg), ((q 16), aI g 620 on), ((q 17), aI g 620 tw), ((q 27), aI g 160 fl), ((q 28), aI g 160 pl), ((q 29), aI g 160 na), ((q 30), aI g 160 ty), ((q 31), aI g 160 ca)] := hD.sub [9, 0, 1, 2, 3, 4, 5, 6, 7, 8] (by decide) rfl
                                    have hp162_0 := hr161
                                    exact tw_vret E hS (u162.1, u162.2) (⟨(fun h => absurd h hp162_0), (fun h => absurd h hp162_0)⟩) hP hD d_Mod_linkMember_302
                              · refine lv_iconst (v := 1) hx hb d_Mod_linkMember_264 (by decide) ?_
                                refine lv_goto (tgt := 269) hx hb d_Mod_linkMember_265 (by decide) ?_
                                refine lv_aload_n hx hb d_Mod_linkMember_269 rfl (lv_at hl 4 rfl) ?_
                                refine va_get (D := g.1) (ci := 10) (v := .ref (q 27)) (C := R_Mod) (T := F_Mod) (N := 61) hx hb hts in_Mod hown hK hP 0 rfl rfl 27 (by decide) (hts _ wd_1277) (fun _ h9 => h9) rfl d_Mod_linkMember_270 ?_
                                refine lv_iload_n hx hb d_Mod_linkMember_273 rfl (lv_at hl 5 rfl) ?_
                                refine va_iald hx hb hK hP 5 0 rfl rfl (vp_in_nI (by omega) (by decide)) d_Mod_linkMember_274 ?_
                                obtain ⟨x163, ex163⟩ : ∃ z : Int32, fl ((nI mi).toNatClampNeg) = z := ⟨_, rfl⟩
                                refine tw_ri (e2 := x163) ex163 ?_
                                refine lv_sipush (v := 1280) hx hb d_Mod_linkMember_275 (by decide) ?_
                                refine lv_iand hx hb d_Mod_linkMember_278 ?_
                                obtain ⟨x164, ex164⟩ : ∃ z : Int32, x163 &&& 1280 = z := ⟨_, rfl⟩
                                refine tw_ri (e2 := x164) ex164 ?_
                                refine lv_if_eq (tgt := 286) hx hb d_Mod_linkMember_279 (by decide) (fun h279 => ?_) (fun h279 => ?_)
                                · refine lv_iconst (v := 0) hx hb d_Mod_linkMember_286 (by decide) ?_
                                  refine lv_icmp_ne (tgt := 302) hx hb d_Mod_linkMember_287 (by decide) (fun h287 => ?_) (fun h287 => ?_)
                                  · exact tw_vret E hS (fa9, fp9) (⟨(fun _ => hf0), (fun hz => by have hz165 := hc9 hz; exact ⟨⟨jn, jn0, jn1, exn2, jnt⟩, ⟨jt, pt, lt1, jt0, jt1, ext2, jtt, pta, ptb, ptc, (fun _ => hT144)⟩⟩)⟩) hP hD d_Mod_linkMember_302
                                  · refine lv_aload_n hx hb d_Mod_linkMember_290 rfl (lv_at hl 4 rfl) ?_
                                    refine lv_bipush (v := 12) hx hb d_Mod_linkMember_291 (by decide) ?_
                                    refine lv_aload_n hx hb d_Mod_linkMember_293 rfl (lv_at hl 4 rfl) ?_
                                    refine va_get (D := g.1) (ci := 10) (v := .ref (q 28)) (C := R_Mod) (T := F_Mod) (N := 61) hx hb hts in_Mod hown hK hP 0 rfl rfl 28 (by decide) (hts _ wd_1278) (fun _ h9 => h9) rfl d_Mod_linkMember_294 ?_
                                    refine lv_iload_n hx hb d_Mod_linkMember_297 rfl (lv_at hl 5 rfl) ?_
                                    refine va_iald hx hb hK hP 6 0 rfl rfl (vp_in_nI (by omega) (by decide)) d_Mod_linkMember_298 ?_
                                    obtain ⟨x166, ex166⟩ : ∃ z : Int32, pl ((nI mi).toNatClampNeg) = z := ⟨_, rfl⟩
                                    refine tw_ri (e2 := x166) ex166 ?_
                                    refine tw_wv (wr := [((q 2), aI g 600 bs), ((q 14), aI g 620 tg), ((q 16), aI g 620 on), ((q 17), aI g 620 tw), ((q 27), aI g 160 fl), ((q 28), aI g 160 pl), ((q 29), aI g 160 na), ((q 30), aI g 160 ty), ((q 31), aI g 160 ca)]) (tw_runV (ws := [(h0, .inr (10, mob q rf n mm mb fa9 fp9 av ev wi mn tp tc sc nf fd me mp xn mt wh tq ag an ig)), ((q 2), aI g 600 bs), ((q 14), aI g 620 tg), ((q 16), aI g 620 on), ((q 17), aI g 620 tw), ((q 27), aI g 160 fl), ((q 28), aI g 160 pl), ((q 29), aI g 160 na), ((q 30), aI g 160 ty), ((q 31), aI g 160 ca)]) (wc := [(h0, .inr (10, mob q rf n mm mb fa9 fp9 av ev wi mn tp tc sc nf fd me mp xn mt wh tq ag an ig))]) (As := [.int 12, .int x166]) (rest := []) E hB hK hZ (g_Mod_fail l g H.size h0 q rf n mm mb av ev wi mn tp tc sc nf fd me mp xn mt wh tq ag an ig fa9 fp9 12 x166 (by decide)) mc_Mod_fail mi_Mod_fail me_Mod_fail wd_1478 hP hD hS hA [0] rfl (by decide) 0 rfl rfl rfl rfl rfl (by decide) rfl hl.1 rfl (Nat.le_of_ble_eq_true rfl) (by decide) d_Mod_linkMember_299) hP hD hS hA [0] [1, 2, 3, 4, 5, 6, 7, 8, 9] rfl rfl (by decide) (by decide) (fun u168 H locs hr167 hP hD hS => ?_)
                                    try dsimp only at hr167
                                    have hP : va_P g.1 classes [((q 2), aI g 600 bs), ((q 14), aI g 620 tg), ((q 16), aI g 620 on), ((q 17), aI g 620 tw), ((q 27), aI g 160 fl), ((q 28), aI g 160 pl), ((q 29), aI g 160 na), ((q 30), aI g 160 ty), ((q 31), aI g 160 ca), (h0, .inr (10, mob q rf n mm mb u168.1 u168.2 av ev wi mn tp tc sc nf fd me mp xn mt wh tq ag an ig))] H := hP
                                    have hD : va_D A [((q 2), aI g 600 bs), ((q 14), aI g 620 tg), ((q 16), aI g 620 on), ((q 17), aI g 620 tw), ((q 27), aI g 160 fl), ((q 28), aI g 160 pl), ((q 29), aI g 160 na), ((q 30), aI g 160 ty), ((q 31), aI g 160 ca), (h0, .inr (10, mob q rf n mm mb u168.1 u168.2 av ev wi mn tp tc sc nf fd me mp xn mt wh tq ag an ig))] := hD
                                    have hP : va_P g.1 classes [(h0, .inr (10, mob q rf n mm mb u168.1 u168.2 av ev wi mn tp tc sc nf fd me mp xn mt wh tq ag an ig)), ((q 2), aI g 600 bs), ((q 14), aI g 620 tg), ((q 16), aI g 620 on), ((q 17), aI g 620 tw), ((q 27), aI g 160 fl), ((q 28), aI g 160 pl), ((q 29), aI g 160 na), ((q 30), aI g 160 ty), ((q 31), aI g 160 ca)] H := hP.sub [9, 0, 1, 2, 3, 4, 5, 6, 7, 8] rfl
                                    have hD : va_D A [(h0, .inr (10, mob q rf n mm mb u168.1 u168.2 av ev wi mn tp tc sc nf fd me mp xn mt wh tq ag an ig)), ((q 2), aI g 600 bs), ((q 14), aI g 620 tg), ((q 16), aI g 620 on), ((q 17), aI g 620 tw), ((q 27), aI g 160 fl), ((q 28), aI g 160 pl), ((q 29), aI g 160 na), ((q 30), aI g 160 ty), ((q 31), aI g 160 ca)] := hD.sub [9, 0, 1, 2, 3, 4, 5, 6, 7, 8] (by decide) rfl
                                    have hp168_0 := hr167
                                    exact tw_vret E hS (u168.1, u168.2) (⟨(fun h => absurd h hp168_0), (fun h => absurd h hp168_0)⟩) hP hD d_Mod_linkMember_302
                                · refine lv_iconst (v := 1) hx hb d_Mod_linkMember_282 (by decide) ?_
                                  refine lv_goto (tgt := 287) hx hb d_Mod_linkMember_283 (by decide) ?_
                                  refine lv_icmp_ne (tgt := 302) hx hb d_Mod_linkMember_287 (by decide) (fun h287 => ?_) (fun h287 => ?_)
                                  · exact tw_vret E hS (fa9, fp9) (⟨(fun _ => hf0), (fun hz => by have hz169 := hc9 hz; exact ⟨⟨jn, jn0, jn1, exn2, jnt⟩, ⟨jt, pt, lt1, jt0, jt1, ext2, jtt, pta, ptb, ptc, (fun _ => hT144)⟩⟩)⟩) hP hD d_Mod_linkMember_302
                                  · refine lv_aload_n hx hb d_Mod_linkMember_290 rfl (lv_at hl 4 rfl) ?_
                                    refine lv_bipush (v := 12) hx hb d_Mod_linkMember_291 (by decide) ?_
                                    refine lv_aload_n hx hb d_Mod_linkMember_293 rfl (lv_at hl 4 rfl) ?_
                                    refine va_get (D := g.1) (ci := 10) (v := .ref (q 28)) (C := R_Mod) (T := F_Mod) (N := 61) hx hb hts in_Mod hown hK hP 0 rfl rfl 28 (by decide) (hts _ wd_1278) (fun _ h9 => h9) rfl d_Mod_linkMember_294 ?_
                                    refine lv_iload_n hx hb d_Mod_linkMember_297 rfl (lv_at hl 5 rfl) ?_
                                    refine va_iald hx hb hK hP 6 0 rfl rfl (vp_in_nI (by omega) (by decide)) d_Mod_linkMember_298 ?_
                                    obtain ⟨x170, ex170⟩ : ∃ z : Int32, pl ((nI mi).toNatClampNeg) = z := ⟨_, rfl⟩
                                    refine tw_ri (e2 := x170) ex170 ?_
                                    refine tw_wv (wr := [((q 2), aI g 600 bs), ((q 14), aI g 620 tg), ((q 16), aI g 620 on), ((q 17), aI g 620 tw), ((q 27), aI g 160 fl), ((q 28), aI g 160 pl), ((q 29), aI g 160 na), ((q 30), aI g 160 ty), ((q 31), aI g 160 ca)]) (tw_runV (ws := [(h0, .inr (10, mob q rf n mm mb fa9 fp9 av ev wi mn tp tc sc nf fd me mp xn mt wh tq ag an ig)), ((q 2), aI g 600 bs), ((q 14), aI g 620 tg), ((q 16), aI g 620 on), ((q 17), aI g 620 tw), ((q 27), aI g 160 fl), ((q 28), aI g 160 pl), ((q 29), aI g 160 na), ((q 30), aI g 160 ty), ((q 31), aI g 160 ca)]) (wc := [(h0, .inr (10, mob q rf n mm mb fa9 fp9 av ev wi mn tp tc sc nf fd me mp xn mt wh tq ag an ig))]) (As := [.int 12, .int x170]) (rest := []) E hB hK hZ (g_Mod_fail l g H.size h0 q rf n mm mb av ev wi mn tp tc sc nf fd me mp xn mt wh tq ag an ig fa9 fp9 12 x170 (by decide)) mc_Mod_fail mi_Mod_fail me_Mod_fail wd_1478 hP hD hS hA [0] rfl (by decide) 0 rfl rfl rfl rfl rfl (by decide) rfl hl.1 rfl (Nat.le_of_ble_eq_true rfl) (by decide) d_Mod_linkMember_299) hP hD hS hA [0] [1, 2, 3, 4, 5, 6, 7, 8, 9] rfl rfl (by decide) (by decide) (fun u172 H locs hr171 hP hD hS => ?_)
                                    try dsimp only at hr171
                                    have hP : va_P g.1 classes [((q 2), aI g 600 bs), ((q 14), aI g 620 tg), ((q 16), aI g 620 on), ((q 17), aI g 620 tw), ((q 27), aI g 160 fl), ((q 28), aI g 160 pl), ((q 29), aI g 160 na), ((q 30), aI g 160 ty), ((q 31), aI g 160 ca), (h0, .inr (10, mob q rf n mm mb u172.1 u172.2 av ev wi mn tp tc sc nf fd me mp xn mt wh tq ag an ig))] H := hP
                                    have hD : va_D A [((q 2), aI g 600 bs), ((q 14), aI g 620 tg), ((q 16), aI g 620 on), ((q 17), aI g 620 tw), ((q 27), aI g 160 fl), ((q 28), aI g 160 pl), ((q 29), aI g 160 na), ((q 30), aI g 160 ty), ((q 31), aI g 160 ca), (h0, .inr (10, mob q rf n mm mb u172.1 u172.2 av ev wi mn tp tc sc nf fd me mp xn mt wh tq ag an ig))] := hD
                                    have hP : va_P g.1 classes [(h0, .inr (10, mob q rf n mm mb u172.1 u172.2 av ev wi mn tp tc sc nf fd me mp xn mt wh tq ag an ig)), ((q 2), aI g 600 bs), ((q 14), aI g 620 tg), ((q 16), aI g 620 on), ((q 17), aI g 620 tw), ((q 27), aI g 160 fl), ((q 28), aI g 160 pl), ((q 29), aI g 160 na), ((q 30), aI g 160 ty), ((q 31), aI g 160 ca)] H := hP.sub [9, 0, 1, 2, 3, 4, 5, 6, 7, 8] rfl
                                    have hD : va_D A [(h0, .inr (10, mob q rf n mm mb u172.1 u172.2 av ev wi mn tp tc sc nf fd me mp xn mt wh tq ag an ig)), ((q 2), aI g 600 bs), ((q 14), aI g 620 tg), ((q 16), aI g 620 on), ((q 17), aI g 620 tw), ((q 27), aI g 160 fl), ((q 28), aI g 160 pl), ((q 29), aI g 160 na), ((q 30), aI g 160 ty), ((q 31), aI g 160 ca)] := hD.sub [9, 0, 1, 2, 3, 4, 5, 6, 7, 8] (by decide) rfl
                                    have hp172_0 := hr171
                                    exact tw_vret E hS (u172.1, u172.2) (⟨(fun h => absurd h hp172_0), (fun h => absurd h hp172_0)⟩) hP hD d_Mod_linkMember_302
                          · have h199 := tn_nle h199 (by omega) (by omega)
                            obtain ⟨⟨i1, u0, u1, u2, ut⟩, ⟨i2, pi2, li2, v0, v1, v2, vt, v3, v4, v5, v6⟩⟩ := hLM i h199
                            obtain ⟨pi1, li1, u3, u4, u5⟩ := hTX i1 (by omega) ut
                            refine lv_aload_n hx hb d_Mod_linkMember_202 rfl (lv_at hl 4 rfl) ?_
                            refine lv_aload_n hx hb d_Mod_linkMember_203 rfl (lv_at hl 4 rfl) ?_
                            refine va_get (D := g.1) (ci := 10) (v := .ref (q 29)) (C := R_Mod) (T := F_Mod) (N := 61) hx hb hts in_Mod hown hK hP 0 rfl rfl 29 (by decide) (hts _ wd_1279) (fun _ h9 => h9) rfl d_Mod_linkMember_204 ?_
                            refine lv_iload hx hb d_Mod_linkMember_207 (lv_at hl 0 rfl) ?_
                            refine va_iald hx hb hK hP 7 0 rfl rfl (vp_in_nI (by omega) (by decide)) d_Mod_linkMember_209 ?_
                            refine tw_ri (e2 := nI i1) (by rw [nI_clamp (by omega)]; exact u2) ?_
                            refine lv_iload_n hx hb d_Mod_linkMember_210 rfl (lv_at hl 2 rfl) ?_
                            refine tw_si (tw_runV (ws := [(h0, .inr (10, mob q rf n mm mb fa9 fp9 av ev wi mn tp tc sc nf fd me mp xn mt wh tq ag an ig)), ((q 2), aI g 600 bs), ((q 14), aI g 620 tg), ((q 16), aI g 620 on), ((q 17), aI g 620 tw), ((q 27), aI g 160 fl), ((q 28), aI g 160 pl), ((q 29), aI g 160 na), ((q 30), aI g 160 ty), ((q 31), aI g 160 ca)]) (wc := [(h0, .inr (10, mob q rf n mm mb fa9 fp9 av ev wi mn tp tc sc nf fd me mp xn mt wh tq ag an ig)), ((q 2), aI g 600 bs), ((q 16), aI g 620 on), ((q 17), aI g 620 tw)]) (As := [.int (nI i1), .int (nI jn)]) (rest := []) E hB hK hZ (g_Mod_sameTexts l g H.size h0 q rf n mm mb fa9 fp9 av ev wi mn tp tc sc nf fd me mp xn mt wh tq ag an ig bs on tw i1 jn pi1 li1 pn ln1 (by omega) u3 u4 u5 (by omega) pna pnb pnc) mc_Mod_sameTexts mi_Mod_sameTexts me_Mod_sameTexts wd_1579 hP hD hS hA [0, 1, 3, 4] rfl (by decide) 0 rfl rfl rfl rfl rfl (by decide) rfl hl.1 rfl (Nat.le_of_ble_eq_true rfl) (by decide) d_Mod_linkMember_211) (fun r173 hr173 => ?_)
                            have hB173 := hr173
                            refine lv_if_eq (tgt := 245) hx hb d_Mod_linkMember_214 (by decide) (fun h214 => ?_) (fun h214 => ?_)
                            · refine lv_iinc (k := 0) (v := nI (i + 1)) hx hb d_Mod_linkMember_245 hl rfl ((nI_succ i).symm) (by decide) rfl (fun ls hl => ?_)
                              have hl : lv_has ls 6 [(5, .int (nI (i + 1))), (4, .int (nI jt)), (3, .int (nI jn)), (2, .int 1), (0, .ref h0), (1, .int (nI mi))] := hl
                              refine lv_goto (tgt := 196) hx hb d_Mod_linkMember_248 (by decide) ?_
                              have hP : va_P g.1 classes [(h0, .inr (10, mob q rf n mm mb fa9 fp9 av ev wi mn tp tc sc nf fd me mp xn mt wh tq ag an ig)), ((q 2), aI g 600 bs), ((q 14), aI g 620 tg), ((q 16), aI g 620 on), ((q 17), aI g 620 tw), ((q 27), aI g 160 fl), ((q 28), aI g 160 pl), ((q 29), aI g 160 na), ((q 30), aI g 160 ty), ((q 31), aI g 160 ca)] H := hP.sub [0, 1, 2, 3, 4, 5, 6, 7, 8, 9] rfl
                              have hD : va_D A [(h0, .inr (10, mob q rf n mm mb fa9 fp9 av ev wi mn tp tc sc nf fd me mp xn mt wh tq ag an ig)), ((q 2), aI g 600 bs), ((q 14), aI g 620 tg), ((q 16), aI g 620 on), ((q 17), aI g 620 tw), ((q 27), aI g 160 fl), ((q 28), aI g 160 pl), ((q 29), aI g 160 na), ((q 30), aI g 160 ty), ((q 31), aI g 160 ca)] := hD.sub [0, 1, 2, 3, 4, 5, 6, 7, 8, 9] (by decide) rfl
                              exact ih _ (by omega) (i + 1) fa9 fp9 ls _ _ rfl (fun _ => hf0) (by omega) (lv_sub hl [0, 1, 2, 3, 4, 5] rfl) hP hD hS
                            · refine lv_aload_n hx hb d_Mod_linkMember_217 rfl (lv_at hl 4 rfl) ?_
                              refine lv_aload_n hx hb d_Mod_linkMember_218 rfl (lv_at hl 4 rfl) ?_
                              refine va_get (D := g.1) (ci := 10) (v := .ref (q 30)) (C := R_Mod) (T := F_Mod) (N := 61) hx hb hts in_Mod hown hK hP 0 rfl rfl 30 (by decide) (hts _ wd_1280) (fun _ h9 => h9) rfl d_Mod_linkMember_219 ?_
                              refine lv_iload hx hb d_Mod_linkMember_222 (lv_at hl 0 rfl) ?_
                              refine va_iald hx hb hK hP 8 0 rfl rfl (vp_in_nI (by omega) (by decide)) d_Mod_linkMember_224 ?_
                              refine tw_ri (e2 := nI i2) (by rw [nI_clamp (by omega)]; exact v2) ?_
                              refine lv_iload hx hb d_Mod_linkMember_225 (lv_at hl 1 rfl) ?_
                              refine tw_si (tw_runV (ws := [(h0, .inr (10, mob q rf n mm mb fa9 fp9 av ev wi mn tp tc sc nf fd me mp xn mt wh tq ag an ig)), ((q 2), aI g 600 bs), ((q 14), aI g 620 tg), ((q 16), aI g 620 on), ((q 17), aI g 620 tw), ((q 27), aI g 160 fl), ((q 28), aI g 160 pl), ((q 29), aI g 160 na), ((q 30), aI g 160 ty), ((q 31), aI g 160 ca)]) (wc := [(h0, .inr (10, mob q rf n mm mb fa9 fp9 av ev wi mn tp tc sc nf fd me mp xn mt wh tq ag an ig)), ((q 2), aI g 600 bs), ((q 16), aI g 620 on), ((q 17), aI g 620 tw)]) (As := [.int (nI i2), .int (nI jt)]) (rest := []) E hB hK hZ (g_Mod_sameTexts l g H.size h0 q rf n mm mb fa9 fp9 av ev wi mn tp tc sc nf fd me mp xn mt wh tq ag an ig bs on tw i2 jt pi2 li2 pt lt1 (by omega) v3 v4 v5 (by omega) pta ptb ptc) mc_Mod_sameTexts mi_Mod_sameTexts me_Mod_sameTexts wd_1579 hP hD hS hA [0, 1, 3, 4] rfl (by decide) 0 rfl rfl rfl rfl rfl (by decide) rfl hl.1 rfl (Nat.le_of_ble_eq_true rfl) (by decide) d_Mod_linkMember_227) (fun r174 hr174 => ?_)
                              have hB174 := hr174
                              refine lv_if_eq (tgt := 245) hx hb d_Mod_linkMember_230 (by decide) (fun h230 => ?_) (fun h230 => ?_)
                              · refine lv_iinc (k := 0) (v := nI (i + 1)) hx hb d_Mod_linkMember_245 hl rfl ((nI_succ i).symm) (by decide) rfl (fun ls hl => ?_)
                                have hl : lv_has ls 6 [(5, .int (nI (i + 1))), (4, .int (nI jt)), (3, .int (nI jn)), (2, .int 1), (0, .ref h0), (1, .int (nI mi))] := hl
                                refine lv_goto (tgt := 196) hx hb d_Mod_linkMember_248 (by decide) ?_
                                have hP : va_P g.1 classes [(h0, .inr (10, mob q rf n mm mb fa9 fp9 av ev wi mn tp tc sc nf fd me mp xn mt wh tq ag an ig)), ((q 2), aI g 600 bs), ((q 14), aI g 620 tg), ((q 16), aI g 620 on), ((q 17), aI g 620 tw), ((q 27), aI g 160 fl), ((q 28), aI g 160 pl), ((q 29), aI g 160 na), ((q 30), aI g 160 ty), ((q 31), aI g 160 ca)] H := hP.sub [0, 1, 2, 3, 4, 5, 6, 7, 8, 9] rfl
                                have hD : va_D A [(h0, .inr (10, mob q rf n mm mb fa9 fp9 av ev wi mn tp tc sc nf fd me mp xn mt wh tq ag an ig)), ((q 2), aI g 600 bs), ((q 14), aI g 620 tg), ((q 16), aI g 620 on), ((q 17), aI g 620 tw), ((q 27), aI g 160 fl), ((q 28), aI g 160 pl), ((q 29), aI g 160 na), ((q 30), aI g 160 ty), ((q 31), aI g 160 ca)] := hD.sub [0, 1, 2, 3, 4, 5, 6, 7, 8, 9] (by decide) rfl
                                exact ih _ (by omega) (i + 1) fa9 fp9 ls _ _ rfl (fun _ => hf0) (by omega) (lv_sub hl [0, 1, 2, 3, 4, 5] rfl) hP hD hS
                              · refine lv_aload_n hx hb d_Mod_linkMember_233 rfl (lv_at hl 4 rfl) ?_
                                refine lv_bipush (v := 7) hx hb d_Mod_linkMember_234 (by decide) ?_
                                refine lv_aload_n hx hb d_Mod_linkMember_236 rfl (lv_at hl 4 rfl) ?_
                                refine va_get (D := g.1) (ci := 10) (v := .ref (q 28)) (C := R_Mod) (T := F_Mod) (N := 61) hx hb hts in_Mod hown hK hP 0 rfl rfl 28 (by decide) (hts _ wd_1278) (fun _ h9 => h9) rfl d_Mod_linkMember_237 ?_
                                refine lv_iload_n hx hb d_Mod_linkMember_240 rfl (lv_at hl 5 rfl) ?_
                                refine va_iald hx hb hK hP 6 0 rfl rfl (vp_in_nI (by omega) (by decide)) d_Mod_linkMember_241 ?_
                                obtain ⟨x175, ex175⟩ : ∃ z : Int32, pl ((nI mi).toNatClampNeg) = z := ⟨_, rfl⟩
                                refine tw_ri (e2 := x175) ex175 ?_
                                refine tw_wv (wr := [((q 2), aI g 600 bs), ((q 14), aI g 620 tg), ((q 16), aI g 620 on), ((q 17), aI g 620 tw), ((q 27), aI g 160 fl), ((q 28), aI g 160 pl), ((q 29), aI g 160 na), ((q 30), aI g 160 ty), ((q 31), aI g 160 ca)]) (tw_runV (ws := [(h0, .inr (10, mob q rf n mm mb fa9 fp9 av ev wi mn tp tc sc nf fd me mp xn mt wh tq ag an ig)), ((q 2), aI g 600 bs), ((q 14), aI g 620 tg), ((q 16), aI g 620 on), ((q 17), aI g 620 tw), ((q 27), aI g 160 fl), ((q 28), aI g 160 pl), ((q 29), aI g 160 na), ((q 30), aI g 160 ty), ((q 31), aI g 160 ca)]) (wc := [(h0, .inr (10, mob q rf n mm mb fa9 fp9 av ev wi mn tp tc sc nf fd me mp xn mt wh tq ag an ig))]) (As := [.int 7, .int x175]) (rest := []) E hB hK hZ (g_Mod_fail l g H.size h0 q rf n mm mb av ev wi mn tp tc sc nf fd me mp xn mt wh tq ag an ig fa9 fp9 7 x175 (by decide)) mc_Mod_fail mi_Mod_fail me_Mod_fail wd_1478 hP hD hS hA [0] rfl (by decide) 0 rfl rfl rfl rfl rfl (by decide) rfl hl.1 rfl (Nat.le_of_ble_eq_true rfl) (by decide) d_Mod_linkMember_242) hP hD hS hA [0] [1, 2, 3, 4, 5, 6, 7, 8, 9] rfl rfl (by decide) (by decide) (fun u177 H locs hr176 hP hD hS => ?_)
                                try dsimp only at hr176
                                have hP : va_P g.1 classes [((q 2), aI g 600 bs), ((q 14), aI g 620 tg), ((q 16), aI g 620 on), ((q 17), aI g 620 tw), ((q 27), aI g 160 fl), ((q 28), aI g 160 pl), ((q 29), aI g 160 na), ((q 30), aI g 160 ty), ((q 31), aI g 160 ca), (h0, .inr (10, mob q rf n mm mb u177.1 u177.2 av ev wi mn tp tc sc nf fd me mp xn mt wh tq ag an ig))] H := hP
                                have hD : va_D A [((q 2), aI g 600 bs), ((q 14), aI g 620 tg), ((q 16), aI g 620 on), ((q 17), aI g 620 tw), ((q 27), aI g 160 fl), ((q 28), aI g 160 pl), ((q 29), aI g 160 na), ((q 30), aI g 160 ty), ((q 31), aI g 160 ca), (h0, .inr (10, mob q rf n mm mb u177.1 u177.2 av ev wi mn tp tc sc nf fd me mp xn mt wh tq ag an ig))] := hD
                                have hP : va_P g.1 classes [(h0, .inr (10, mob q rf n mm mb u177.1 u177.2 av ev wi mn tp tc sc nf fd me mp xn mt wh tq ag an ig)), ((q 2), aI g 600 bs), ((q 14), aI g 620 tg), ((q 16), aI g 620 on), ((q 17), aI g 620 tw), ((q 27), aI g 160 fl), ((q 28), aI g 160 pl), ((q 29), aI g 160 na), ((q 30), aI g 160 ty), ((q 31), aI g 160 ca)] H := hP.sub [9, 0, 1, 2, 3, 4, 5, 6, 7, 8] rfl
                                have hD : va_D A [(h0, .inr (10, mob q rf n mm mb u177.1 u177.2 av ev wi mn tp tc sc nf fd me mp xn mt wh tq ag an ig)), ((q 2), aI g 600 bs), ((q 14), aI g 620 tg), ((q 16), aI g 620 on), ((q 17), aI g 620 tw), ((q 27), aI g 160 fl), ((q 28), aI g 160 pl), ((q 29), aI g 160 na), ((q 30), aI g 160 ty), ((q 31), aI g 160 ca)] := hD.sub [9, 0, 1, 2, 3, 4, 5, 6, 7, 8] (by decide) rfl
                                have hp177_0 := hr176
                                refine lv_iinc (k := 0) (v := nI (i + 1)) hx hb d_Mod_linkMember_245 hl rfl ((nI_succ i).symm) (by decide) rfl (fun ls hl => ?_)
                                have hl : lv_has ls 6 [(5, .int (nI (i + 1))), (4, .int (nI jt)), (3, .int (nI jn)), (2, .int 1), (0, .ref h0), (1, .int (nI mi))] := hl
                                refine lv_goto (tgt := 196) hx hb d_Mod_linkMember_248 (by decide) ?_
                                have hP : va_P g.1 classes [(h0, .inr (10, mob q rf n mm mb u177.1 u177.2 av ev wi mn tp tc sc nf fd me mp xn mt wh tq ag an ig)), ((q 2), aI g 600 bs), ((q 14), aI g 620 tg), ((q 16), aI g 620 on), ((q 17), aI g 620 tw), ((q 27), aI g 160 fl), ((q 28), aI g 160 pl), ((q 29), aI g 160 na), ((q 30), aI g 160 ty), ((q 31), aI g 160 ca)] H := hP.sub [0, 1, 2, 3, 4, 5, 6, 7, 8, 9] rfl
                                have hD : va_D A [(h0, .inr (10, mob q rf n mm mb u177.1 u177.2 av ev wi mn tp tc sc nf fd me mp xn mt wh tq ag an ig)), ((q 2), aI g 600 bs), ((q 14), aI g 620 tg), ((q 16), aI g 620 on), ((q 17), aI g 620 tw), ((q 27), aI g 160 fl), ((q 28), aI g 160 pl), ((q 29), aI g 160 na), ((q 30), aI g 160 ty), ((q 31), aI g 160 ca)] := hD.sub [0, 1, 2, 3, 4, 5, 6, 7, 8, 9] (by decide) rfl
                                exact ih _ (by omega) (i + 1) u177.1 u177.2 ls _ _ rfl (fun h => absurd h hp177_0) (by omega) (lv_sub hl [0, 1, 2, 3, 4, 5] rfl) hP hD hS
                      exact loop196 _ fd fa fp ls _ _ rfl (fun h => h) (by omega) (hl) hP hD hS
                  · refine lv_goto (tgt := 170) hx hb d_Mod_linkMember_147 (by decide) ?_
                    refine lv_aload_n hx hb d_Mod_linkMember_170 rfl (lv_at hl 3 rfl) ?_
                    refine lv_bipush (v := 11) hx hb d_Mod_linkMember_171 (by decide) ?_
                    refine lv_aload_n hx hb d_Mod_linkMember_173 rfl (lv_at hl 3 rfl) ?_
                    refine va_get (D := g.1) (ci := 10) (v := .ref (q 28)) (C := R_Mod) (T := F_Mod) (N := 61) hx hb hts in_Mod hown hK hP 0 rfl rfl 28 (by decide) (hts _ wd_1278) (fun _ h9 => h9) rfl d_Mod_linkMember_174 ?_
                    refine lv_iload_n hx hb d_Mod_linkMember_177 rfl (lv_at hl 4 rfl) ?_
                    refine va_iald hx hb hK hP 6 0 rfl rfl (vp_in_nI (by omega) (by decide)) d_Mod_linkMember_178 ?_
                    obtain ⟨x178, ex178⟩ : ∃ z : Int32, pl ((nI mi).toNatClampNeg) = z := ⟨_, rfl⟩
                    refine tw_ri (e2 := x178) ex178 ?_
                    refine tw_wv (wr := [((q 2), aI g 600 bs), ((q 14), aI g 620 tg), ((q 16), aI g 620 on), ((q 17), aI g 620 tw), ((q 27), aI g 160 fl), ((q 28), aI g 160 pl), ((q 29), aI g 160 na), ((q 30), aI g 160 ty), ((q 31), aI g 160 ca)]) (tw_runV (ws := [(h0, .inr (10, mob q rf n mm mb fa fp av ev wi mn tp tc sc nf fd me mp xn mt wh tq ag an ig)), ((q 2), aI g 600 bs), ((q 14), aI g 620 tg), ((q 16), aI g 620 on), ((q 17), aI g 620 tw), ((q 27), aI g 160 fl), ((q 28), aI g 160 pl), ((q 29), aI g 160 na), ((q 30), aI g 160 ty), ((q 31), aI g 160 ca)]) (wc := [(h0, .inr (10, mob q rf n mm mb fa fp av ev wi mn tp tc sc nf fd me mp xn mt wh tq ag an ig))]) (As := [.int 11, .int x178]) (rest := []) E hB hK hZ (g_Mod_fail l g H.size h0 q rf n mm mb av ev wi mn tp tc sc nf fd me mp xn mt wh tq ag an ig fa fp 11 x178 (by decide)) mc_Mod_fail mi_Mod_fail me_Mod_fail wd_1478 hP hD hS hA [0] rfl (by decide) 0 rfl rfl rfl rfl rfl (by decide) rfl hl.1 rfl (Nat.le_of_ble_eq_true rfl) (by decide) d_Mod_linkMember_179) hP hD hS hA [0] [1, 2, 3, 4, 5, 6, 7, 8, 9] rfl rfl (by decide) (by decide) (fun u180 H locs hr179 hP hD hS => ?_)
                    try dsimp only at hr179
                    have hP : va_P g.1 classes [((q 2), aI g 600 bs), ((q 14), aI g 620 tg), ((q 16), aI g 620 on), ((q 17), aI g 620 tw), ((q 27), aI g 160 fl), ((q 28), aI g 160 pl), ((q 29), aI g 160 na), ((q 30), aI g 160 ty), ((q 31), aI g 160 ca), (h0, .inr (10, mob q rf n mm mb u180.1 u180.2 av ev wi mn tp tc sc nf fd me mp xn mt wh tq ag an ig))] H := hP
                    have hD : va_D A [((q 2), aI g 600 bs), ((q 14), aI g 620 tg), ((q 16), aI g 620 on), ((q 17), aI g 620 tw), ((q 27), aI g 160 fl), ((q 28), aI g 160 pl), ((q 29), aI g 160 na), ((q 30), aI g 160 ty), ((q 31), aI g 160 ca), (h0, .inr (10, mob q rf n mm mb u180.1 u180.2 av ev wi mn tp tc sc nf fd me mp xn mt wh tq ag an ig))] := hD
                    have hP : va_P g.1 classes [(h0, .inr (10, mob q rf n mm mb u180.1 u180.2 av ev wi mn tp tc sc nf fd me mp xn mt wh tq ag an ig)), ((q 2), aI g 600 bs), ((q 14), aI g 620 tg), ((q 16), aI g 620 on), ((q 17), aI g 620 tw), ((q 27), aI g 160 fl), ((q 28), aI g 160 pl), ((q 29), aI g 160 na), ((q 30), aI g 160 ty), ((q 31), aI g 160 ca)] H := hP.sub [9, 0, 1, 2, 3, 4, 5, 6, 7, 8] rfl
                    have hD : va_D A [(h0, .inr (10, mob q rf n mm mb u180.1 u180.2 av ev wi mn tp tc sc nf fd me mp xn mt wh tq ag an ig)), ((q 2), aI g 600 bs), ((q 14), aI g 620 tg), ((q 16), aI g 620 on), ((q 17), aI g 620 tw), ((q 27), aI g 160 fl), ((q 28), aI g 160 pl), ((q 29), aI g 160 na), ((q 30), aI g 160 ty), ((q 31), aI g 160 ca)] := hD.sub [9, 0, 1, 2, 3, 4, 5, 6, 7, 8] (by decide) rfl
                    have hp180_0 := hr179
                    refine lv_iload_n hx hb d_Mod_linkMember_182 rfl (lv_at hl 2 rfl) ?_
                    refine lv_if_eq (tgt := 193) hx hb d_Mod_linkMember_183 (by decide) (fun h183 => ?_) (fun h183 => ?_)
                    · first | exact absurd h183 (by decide) | exact absurd (by decide) h183
                    · refine lv_aload_n hx hb d_Mod_linkMember_186 rfl (lv_at hl 3 rfl) ?_
                      refine va_get (D := g.1) (ci := 10) (v := .int (nI fd)) (C := R_Mod) (T := F_Mod) (N := 61) hx hb hts in_Mod hown hK hP 0 rfl rfl 24 (by decide) (hts _ wd_1274) (fun _ h9 => h9) rfl d_Mod_linkMember_187 ?_
                      refine lv_goto (tgt := 194) hx hb d_Mod_linkMember_190 (by decide) ?_
                      refine lv_istore hx hb d_Mod_linkMember_194 hl (by decide) rfl (fun ls hl => ?_)
                      have hl : lv_has ls 6 [(5, .int (nI fd)), (4, .int (nI jt)), (3, .int (nI jn)), (2, .int 1), (0, .ref h0), (1, .int (nI mi))] := hl
                      have loop196 : ∀ (kq : Nat) (i : Nat) (fa9 : Int32) (fp9 : Int32) (ls : Array Slot) (H : Heap) (locs : List Loc) , mi - i = kq → (hc9 : fa9 = 0 → u180.1 = 0) → (hib : i ≤ 160) → lv_has ls 6 [(5, .int (nI i)), (4, .int (nI jt)), (3, .int (nI jn)), (2, .int 1), (0, .ref h0), (1, .int (nI mi))] → va_P g.1 classes [(h0, .inr (10, mob q rf n mm mb fa9 fp9 av ev wi mn tp tc sc nf fd me mp xn mt wh tq ag an ig)), ((q 2), aI g 600 bs), ((q 14), aI g 620 tg), ((q 16), aI g 620 on), ((q 17), aI g 620 tw), ((q 27), aI g 160 fl), ((q 28), aI g 160 pl), ((q 29), aI g 160 na), ((q 30), aI g 160 ty), ((q 31), aI g 160 ca)] H → va_D A [(h0, .inr (10, mob q rf n mm mb fa9 fp9 av ev wi mn tp tc sc nf fd me mp xn mt wh tq ag an ig)), ((q 2), aI g 600 bs), ((q 14), aI g 620 tg), ((q 16), aI g 620 on), ((q 17), aI g 620 tw), ((q 27), aI g 160 fl), ((q 28), aI g 160 pl), ((q 29), aI g 160 na), ((q 30), aI g 160 ty), ((q 31), aI g 160 ca)] → va_S A s.heap H locs → W p l e ({ frames := 6, cells := 0, slots := 0, locals := 139 }) s m [.ref h0, .int (nI mi)].toArray below meth c H locs 0 0 (MQ below (tw_Qv g (fun (u : Int32 × Int32) => (u.1 = 0 → fa = 0) ∧ (u.1 = 0 → LMB bs mn tg on tw fd na ty mi)) (fun u : Int32 × Int32 => [(h0, .inr (10, mob q rf n mm mb u.1 u.2 av ev wi mn tp tc sc nf fd me mp xn mt wh tq ag an ig)), ((q 2), aI g 600 bs), ((q 14), aI g 620 tg), ((q 16), aI g 620 on), ((q 17), aI g 620 tw), ((q 27), aI g 160 fl), ((q 28), aI g 160 pl), ((q 29), aI g 160 na), ((q 30), aI g 160 ty), ((q 31), aI g 160 ca)]) A) [.ref h0, .int (nI mi)].toArray s 0 0 A) (F0 m 196 ls []) := by
                        intro kq
                        induction kq using Nat.strongRecOn with
                        | _ kq ih =>
                          intro i fa9 fp9 ls H locs hk hc9 hib hl hP hD hS
                          refine lv_iload hx hb d_Mod_linkMember_196 (lv_at hl 0 rfl) ?_
                          refine lv_iload_n hx hb d_Mod_linkMember_198 rfl (lv_at hl 5 rfl) ?_
                          refine lv_icmp_ge (tgt := 251) hx hb d_Mod_linkMember_199 (by decide) (fun h199 => ?_) (fun h199 => ?_)
                          · refine lv_iload_n hx hb d_Mod_linkMember_251 rfl (lv_at hl 3 rfl) ?_
                            refine lv_if_eq (tgt := 302) hx hb d_Mod_linkMember_252 (by decide) (fun h252 => ?_) (fun h252 => ?_)
                            · first | exact absurd h252 (by decide) | exact absurd (by decide) h252
                            · refine lv_aload_n hx hb d_Mod_linkMember_255 rfl (lv_at hl 4 rfl) ?_
                              refine va_get (D := g.1) (ci := 10) (v := .ref (q 31)) (C := R_Mod) (T := F_Mod) (N := 61) hx hb hts in_Mod hown hK hP 0 rfl rfl 31 (by decide) (hts _ wd_1281) (fun _ h9 => h9) rfl d_Mod_linkMember_256 ?_
                              refine lv_iload_n hx hb d_Mod_linkMember_259 rfl (lv_at hl 5 rfl) ?_
                              refine va_iald hx hb hK hP 9 0 rfl rfl (vp_in_nI (by omega) (by decide)) d_Mod_linkMember_260 ?_
                              obtain ⟨x181, ex181⟩ : ∃ z : Int32, ca ((nI mi).toNatClampNeg) = z := ⟨_, rfl⟩
                              refine tw_ri (e2 := x181) ex181 ?_
                              refine lv_if_le (tgt := 268) hx hb d_Mod_linkMember_261 (by decide) (fun h261 => ?_) (fun h261 => ?_)
                              · refine lv_iconst (v := 0) hx hb d_Mod_linkMember_268 (by decide) ?_
                                refine lv_aload_n hx hb d_Mod_linkMember_269 rfl (lv_at hl 4 rfl) ?_
                                refine va_get (D := g.1) (ci := 10) (v := .ref (q 27)) (C := R_Mod) (T := F_Mod) (N := 61) hx hb hts in_Mod hown hK hP 0 rfl rfl 27 (by decide) (hts _ wd_1277) (fun _ h9 => h9) rfl d_Mod_linkMember_270 ?_
                                refine lv_iload_n hx hb d_Mod_linkMember_273 rfl (lv_at hl 5 rfl) ?_
                                refine va_iald hx hb hK hP 5 0 rfl rfl (vp_in_nI (by omega) (by decide)) d_Mod_linkMember_274 ?_
                                obtain ⟨x182, ex182⟩ : ∃ z : Int32, fl ((nI mi).toNatClampNeg) = z := ⟨_, rfl⟩
                                refine tw_ri (e2 := x182) ex182 ?_
                                refine lv_sipush (v := 1280) hx hb d_Mod_linkMember_275 (by decide) ?_
                                refine lv_iand hx hb d_Mod_linkMember_278 ?_
                                obtain ⟨x183, ex183⟩ : ∃ z : Int32, x182 &&& 1280 = z := ⟨_, rfl⟩
                                refine tw_ri (e2 := x183) ex183 ?_
                                refine lv_if_eq (tgt := 286) hx hb d_Mod_linkMember_279 (by decide) (fun h279 => ?_) (fun h279 => ?_)
                                · refine lv_iconst (v := 0) hx hb d_Mod_linkMember_286 (by decide) ?_
                                  refine lv_icmp_ne (tgt := 302) hx hb d_Mod_linkMember_287 (by decide) (fun h287 => ?_) (fun h287 => ?_)
                                  · exact tw_vret E hS (fa9, fp9) (⟨(fun h => absurd h (fun h => hp180_0 (hc9 h))), (fun h => absurd h (fun h => hp180_0 (hc9 h)))⟩) hP hD d_Mod_linkMember_302
                                  · refine lv_aload_n hx hb d_Mod_linkMember_290 rfl (lv_at hl 4 rfl) ?_
                                    refine lv_bipush (v := 12) hx hb d_Mod_linkMember_291 (by decide) ?_
                                    refine lv_aload_n hx hb d_Mod_linkMember_293 rfl (lv_at hl 4 rfl) ?_
                                    refine va_get (D := g.1) (ci := 10) (v := .ref (q 28)) (C := R_Mod) (T := F_Mod) (N := 61) hx hb hts in_Mod hown hK hP 0 rfl rfl 28 (by decide) (hts _ wd_1278) (fun _ h9 => h9) rfl d_Mod_linkMember_294 ?_
                                    refine lv_iload_n hx hb d_Mod_linkMember_297 rfl (lv_at hl 5 rfl) ?_
                                    refine va_iald hx hb hK hP 6 0 rfl rfl (vp_in_nI (by omega) (by decide)) d_Mod_linkMember_298 ?_
                                    obtain ⟨x184, ex184⟩ : ∃ z : Int32, pl ((nI mi).toNatClampNeg) = z := ⟨_, rfl⟩
                                    refine tw_ri (e2 := x184) ex184 ?_
                                    refine tw_wv (wr := [((q 2), aI g 600 bs), ((q 14), aI g 620 tg), ((q 16), aI g 620 on), ((q 17), aI g 620 tw), ((q 27), aI g 160 fl), ((q 28), aI g 160 pl), ((q 29), aI g 160 na), ((q 30), aI g 160 ty), ((q 31), aI g 160 ca)]) (tw_runV (ws := [(h0, .inr (10, mob q rf n mm mb fa9 fp9 av ev wi mn tp tc sc nf fd me mp xn mt wh tq ag an ig)), ((q 2), aI g 600 bs), ((q 14), aI g 620 tg), ((q 16), aI g 620 on), ((q 17), aI g 620 tw), ((q 27), aI g 160 fl), ((q 28), aI g 160 pl), ((q 29), aI g 160 na), ((q 30), aI g 160 ty), ((q 31), aI g 160 ca)]) (wc := [(h0, .inr (10, mob q rf n mm mb fa9 fp9 av ev wi mn tp tc sc nf fd me mp xn mt wh tq ag an ig))]) (As := [.int 12, .int x184]) (rest := []) E hB hK hZ (g_Mod_fail l g H.size h0 q rf n mm mb av ev wi mn tp tc sc nf fd me mp xn mt wh tq ag an ig fa9 fp9 12 x184 (by decide)) mc_Mod_fail mi_Mod_fail me_Mod_fail wd_1478 hP hD hS hA [0] rfl (by decide) 0 rfl rfl rfl rfl rfl (by decide) rfl hl.1 rfl (Nat.le_of_ble_eq_true rfl) (by decide) d_Mod_linkMember_299) hP hD hS hA [0] [1, 2, 3, 4, 5, 6, 7, 8, 9] rfl rfl (by decide) (by decide) (fun u186 H locs hr185 hP hD hS => ?_)
                                    try dsimp only at hr185
                                    have hP : va_P g.1 classes [((q 2), aI g 600 bs), ((q 14), aI g 620 tg), ((q 16), aI g 620 on), ((q 17), aI g 620 tw), ((q 27), aI g 160 fl), ((q 28), aI g 160 pl), ((q 29), aI g 160 na), ((q 30), aI g 160 ty), ((q 31), aI g 160 ca), (h0, .inr (10, mob q rf n mm mb u186.1 u186.2 av ev wi mn tp tc sc nf fd me mp xn mt wh tq ag an ig))] H := hP
                                    have hD : va_D A [((q 2), aI g 600 bs), ((q 14), aI g 620 tg), ((q 16), aI g 620 on), ((q 17), aI g 620 tw), ((q 27), aI g 160 fl), ((q 28), aI g 160 pl), ((q 29), aI g 160 na), ((q 30), aI g 160 ty), ((q 31), aI g 160 ca), (h0, .inr (10, mob q rf n mm mb u186.1 u186.2 av ev wi mn tp tc sc nf fd me mp xn mt wh tq ag an ig))] := hD
                                    have hP : va_P g.1 classes [(h0, .inr (10, mob q rf n mm mb u186.1 u186.2 av ev wi mn tp tc sc nf fd me mp xn mt wh tq ag an ig)), ((q 2), aI g 600 bs), ((q 14), aI g 620 tg), ((q 16), aI g 620 on), ((q 17), aI g 620 tw), ((q 27), aI g 160 fl), ((q 28), aI g 160 pl), ((q 29), aI g 160 na), ((q 30), aI g 160 ty), ((q 31), aI g 160 ca)] H := hP.sub [9, 0, 1, 2, 3, 4, 5, 6, 7, 8] rfl
                                    have hD : va_D A [(h0, .inr (10, mob q rf n mm mb u186.1 u186.2 av ev wi mn tp tc sc nf fd me mp xn mt wh tq ag an ig)), ((q 2), aI g 600 bs), ((q 14), aI g 620 tg), ((q 16), aI g 620 on), ((q 17), aI g 620 tw), ((q 27), aI g 160 fl), ((q 28), aI g 160 pl), ((q 29), aI g 160 na), ((q 30), aI g 160 ty), ((q 31), aI g 160 ca)] := hD.sub [9, 0, 1, 2, 3, 4, 5, 6, 7, 8] (by decide) rfl
                                    have hp186_0 := hr185
                                    exact tw_vret E hS (u186.1, u186.2) (⟨(fun h => absurd h hp186_0), (fun h => absurd h hp186_0)⟩) hP hD d_Mod_linkMember_302
                                · refine lv_iconst (v := 1) hx hb d_Mod_linkMember_282 (by decide) ?_
                                  refine lv_goto (tgt := 287) hx hb d_Mod_linkMember_283 (by decide) ?_
                                  refine lv_icmp_ne (tgt := 302) hx hb d_Mod_linkMember_287 (by decide) (fun h287 => ?_) (fun h287 => ?_)
                                  · exact tw_vret E hS (fa9, fp9) (⟨(fun h => absurd h (fun h => hp180_0 (hc9 h))), (fun h => absurd h (fun h => hp180_0 (hc9 h)))⟩) hP hD d_Mod_linkMember_302
                                  · refine lv_aload_n hx hb d_Mod_linkMember_290 rfl (lv_at hl 4 rfl) ?_
                                    refine lv_bipush (v := 12) hx hb d_Mod_linkMember_291 (by decide) ?_
                                    refine lv_aload_n hx hb d_Mod_linkMember_293 rfl (lv_at hl 4 rfl) ?_
                                    refine va_get (D := g.1) (ci := 10) (v := .ref (q 28)) (C := R_Mod) (T := F_Mod) (N := 61) hx hb hts in_Mod hown hK hP 0 rfl rfl 28 (by decide) (hts _ wd_1278) (fun _ h9 => h9) rfl d_Mod_linkMember_294 ?_
                                    refine lv_iload_n hx hb d_Mod_linkMember_297 rfl (lv_at hl 5 rfl) ?_
                                    refine va_iald hx hb hK hP 6 0 rfl rfl (vp_in_nI (by omega) (by decide)) d_Mod_linkMember_298 ?_
                                    obtain ⟨x187, ex187⟩ : ∃ z : Int32, pl ((nI mi).toNatClampNeg) = z := ⟨_, rfl⟩
                                    refine tw_ri (e2 := x187) ex187 ?_
                                    refine tw_wv (wr := [((q 2), aI g 600 bs), ((q 14), aI g 620 tg), ((q 16), aI g 620 on), ((q 17), aI g 620 tw), ((q 27), aI g 160 fl), ((q 28), aI g 160 pl), ((q 29), aI g 160 na), ((q 30), aI g 160 ty), ((q 31), aI g 160 ca)]) (tw_runV (ws := [(h0, .inr (10, mob q rf n mm mb fa9 fp9 av ev wi mn tp tc sc nf fd me mp xn mt wh tq ag an ig)), ((q 2), aI g 600 bs), ((q 14), aI g 620 tg), ((q 16), aI g 620 on), ((q 17), aI g 620 tw), ((q 27), aI g 160 fl), ((q 28), aI g 160 pl), ((q 29), aI g 160 na), ((q 30), aI g 160 ty), ((q 31), aI g 160 ca)]) (wc := [(h0, .inr (10, mob q rf n mm mb fa9 fp9 av ev wi mn tp tc sc nf fd me mp xn mt wh tq ag an ig))]) (As := [.int 12, .int x187]) (rest := []) E hB hK hZ (g_Mod_fail l g H.size h0 q rf n mm mb av ev wi mn tp tc sc nf fd me mp xn mt wh tq ag an ig fa9 fp9 12 x187 (by decide)) mc_Mod_fail mi_Mod_fail me_Mod_fail wd_1478 hP hD hS hA [0] rfl (by decide) 0 rfl rfl rfl rfl rfl (by decide) rfl hl.1 rfl (Nat.le_of_ble_eq_true rfl) (by decide) d_Mod_linkMember_299) hP hD hS hA [0] [1, 2, 3, 4, 5, 6, 7, 8, 9] rfl rfl (by decide) (by decide) (fun u189 H locs hr188 hP hD hS => ?_)
                                    try dsimp only at hr188
                                    have hP : va_P g.1 classes [((q 2), aI g 600 bs), ((q 14), aI g 620 tg), ((q 16), aI g 620 on), ((q 17), aI g 620 tw), ((q 27), aI g 160 fl), ((q 28), aI g 160 pl), ((q 29), aI g 160 na), ((q 30), aI g 160 ty), ((q 31), aI g 160 ca), (h0, .inr (10, mob q rf n mm mb u189.1 u189.2 av ev wi mn tp tc sc nf fd me mp xn mt wh tq ag an ig))] H := hP
                                    have hD : va_D A [((q 2), aI g 600 bs), ((q 14), aI g 620 tg), ((q 16), aI g 620 on), ((q 17), aI g 620 tw), ((q 27), aI g 160 fl), ((q 28), aI g 160 pl), ((q 29), aI g 160 na), ((q 30), aI g 160 ty), ((q 31), aI g 160 ca), (h0, .inr (10, mob q rf n mm mb u189.1 u189.2 av ev wi mn tp tc sc nf fd me mp xn mt wh tq ag an ig))] := hD
                                    have hP : va_P g.1 classes [(h0, .inr (10, mob q rf n mm mb u189.1 u189.2 av ev wi mn tp tc sc nf fd me mp xn mt wh tq ag an ig)), ((q 2), aI g 600 bs), ((q 14), aI g 620 tg), ((q 16), aI g 620 on), ((q 17), aI g 620 tw), ((q 27), aI g 160 fl), ((q 28), aI g 160 pl), ((q 29), aI g 160 na), ((q 30), aI g 160 ty), ((q 31), aI g 160 ca)] H := hP.sub [9, 0, 1, 2, 3, 4, 5, 6, 7, 8] rfl
                                    have hD : va_D A [(h0, .inr (10, mob q rf n mm mb u189.1 u189.2 av ev wi mn tp tc sc nf fd me mp xn mt wh tq ag an ig)), ((q 2), aI g 600 bs), ((q 14), aI g 620 tg), ((q 16), aI g 620 on), ((q 17), aI g 620 tw), ((q 27), aI g 160 fl), ((q 28), aI g 160 pl), ((q 29), aI g 160 na), ((q 30), aI g 160 ty), ((q 31), aI g 160 ca)] := hD.sub [9, 0, 1, 2, 3, 4, 5, 6, 7, 8] (by decide) rfl
                                    have hp189_0 := hr188
                                    exact tw_vret E hS (u189.1, u189.2) (⟨(fun h => absurd h hp189_0), (fun h => absurd h hp189_0)⟩) hP hD d_Mod_linkMember_302
                              · refine lv_iconst (v := 1) hx hb d_Mod_linkMember_264 (by decide) ?_
                                refine lv_goto (tgt := 269) hx hb d_Mod_linkMember_265 (by decide) ?_
                                refine lv_aload_n hx hb d_Mod_linkMember_269 rfl (lv_at hl 4 rfl) ?_
                                refine va_get (D := g.1) (ci := 10) (v := .ref (q 27)) (C := R_Mod) (T := F_Mod) (N := 61) hx hb hts in_Mod hown hK hP 0 rfl rfl 27 (by decide) (hts _ wd_1277) (fun _ h9 => h9) rfl d_Mod_linkMember_270 ?_
                                refine lv_iload_n hx hb d_Mod_linkMember_273 rfl (lv_at hl 5 rfl) ?_
                                refine va_iald hx hb hK hP 5 0 rfl rfl (vp_in_nI (by omega) (by decide)) d_Mod_linkMember_274 ?_
                                obtain ⟨x190, ex190⟩ : ∃ z : Int32, fl ((nI mi).toNatClampNeg) = z := ⟨_, rfl⟩
                                refine tw_ri (e2 := x190) ex190 ?_
                                refine lv_sipush (v := 1280) hx hb d_Mod_linkMember_275 (by decide) ?_
                                refine lv_iand hx hb d_Mod_linkMember_278 ?_
                                obtain ⟨x191, ex191⟩ : ∃ z : Int32, x190 &&& 1280 = z := ⟨_, rfl⟩
                                refine tw_ri (e2 := x191) ex191 ?_
                                refine lv_if_eq (tgt := 286) hx hb d_Mod_linkMember_279 (by decide) (fun h279 => ?_) (fun h279 => ?_)
                                · refine lv_iconst (v := 0) hx hb d_Mod_linkMember_286 (by decide) ?_
                                  refine lv_icmp_ne (tgt := 302) hx hb d_Mod_linkMember_287 (by decide) (fun h287 => ?_) (fun h287 => ?_)
                                  · exact tw_vret E hS (fa9, fp9) (⟨(fun h => absurd h (fun h => hp180_0 (hc9 h))), (fun h => absurd h (fun h => hp180_0 (hc9 h)))⟩) hP hD d_Mod_linkMember_302
                                  · refine lv_aload_n hx hb d_Mod_linkMember_290 rfl (lv_at hl 4 rfl) ?_
                                    refine lv_bipush (v := 12) hx hb d_Mod_linkMember_291 (by decide) ?_
                                    refine lv_aload_n hx hb d_Mod_linkMember_293 rfl (lv_at hl 4 rfl) ?_
                                    refine va_get (D := g.1) (ci := 10) (v := .ref (q 28)) (C := R_Mod) (T := F_Mod) (N := 61) hx hb hts in_Mod hown hK hP 0 rfl rfl 28 (by decide) (hts _ wd_1278) (fun _ h9 => h9) rfl d_Mod_linkMember_294 ?_
                                    refine lv_iload_n hx hb d_Mod_linkMember_297 rfl (lv_at hl 5 rfl) ?_
                                    refine va_iald hx hb hK hP 6 0 rfl rfl (vp_in_nI (by omega) (by decide)) d_Mod_linkMember_298 ?_
                                    obtain ⟨x192, ex192⟩ : ∃ z : Int32, pl ((nI mi).toNatClampNeg) = z := ⟨_, rfl⟩
                                    refine tw_ri (e2 := x192) ex192 ?_
                                    refine tw_wv (wr := [((q 2), aI g 600 bs), ((q 14), aI g 620 tg), ((q 16), aI g 620 on), ((q 17), aI g 620 tw), ((q 27), aI g 160 fl), ((q 28), aI g 160 pl), ((q 29), aI g 160 na), ((q 30), aI g 160 ty), ((q 31), aI g 160 ca)]) (tw_runV (ws := [(h0, .inr (10, mob q rf n mm mb fa9 fp9 av ev wi mn tp tc sc nf fd me mp xn mt wh tq ag an ig)), ((q 2), aI g 600 bs), ((q 14), aI g 620 tg), ((q 16), aI g 620 on), ((q 17), aI g 620 tw), ((q 27), aI g 160 fl), ((q 28), aI g 160 pl), ((q 29), aI g 160 na), ((q 30), aI g 160 ty), ((q 31), aI g 160 ca)]) (wc := [(h0, .inr (10, mob q rf n mm mb fa9 fp9 av ev wi mn tp tc sc nf fd me mp xn mt wh tq ag an ig))]) (As := [.int 12, .int x192]) (rest := []) E hB hK hZ (g_Mod_fail l g H.size h0 q rf n mm mb av ev wi mn tp tc sc nf fd me mp xn mt wh tq ag an ig fa9 fp9 12 x192 (by decide)) mc_Mod_fail mi_Mod_fail me_Mod_fail wd_1478 hP hD hS hA [0] rfl (by decide) 0 rfl rfl rfl rfl rfl (by decide) rfl hl.1 rfl (Nat.le_of_ble_eq_true rfl) (by decide) d_Mod_linkMember_299) hP hD hS hA [0] [1, 2, 3, 4, 5, 6, 7, 8, 9] rfl rfl (by decide) (by decide) (fun u194 H locs hr193 hP hD hS => ?_)
                                    try dsimp only at hr193
                                    have hP : va_P g.1 classes [((q 2), aI g 600 bs), ((q 14), aI g 620 tg), ((q 16), aI g 620 on), ((q 17), aI g 620 tw), ((q 27), aI g 160 fl), ((q 28), aI g 160 pl), ((q 29), aI g 160 na), ((q 30), aI g 160 ty), ((q 31), aI g 160 ca), (h0, .inr (10, mob q rf n mm mb u194.1 u194.2 av ev wi mn tp tc sc nf fd me mp xn mt wh tq ag an ig))] H := hP
                                    have hD : va_D A [((q 2), aI g 600 bs), ((q 14), aI g 620 tg), ((q 16), aI g 620 on), ((q 17), aI g 620 tw), ((q 27), aI g 160 fl), ((q 28), aI g 160 pl), ((q 29), aI g 160 na), ((q 30), aI g 160 ty), ((q 31), aI g 160 ca), (h0, .inr (10, mob q rf n mm mb u194.1 u194.2 av ev wi mn tp tc sc nf fd me mp xn mt wh tq ag an ig))] := hD
                                    have hP : va_P g.1 classes [(h0, .inr (10, mob q rf n mm mb u194.1 u194.2 av ev wi mn tp tc sc nf fd me mp xn mt wh tq ag an ig)), ((q 2), aI g 600 bs), ((q 14), aI g 620 tg), ((q 16), aI g 620 on), ((q 17), aI g 620 tw), ((q 27), aI g 160 fl), ((q 28), aI g 160 pl), ((q 29), aI g 160 na), ((q 30), aI g 160 ty), ((q 31), aI g 160 ca)] H := hP.sub [9, 0, 1, 2, 3, 4, 5, 6, 7, 8] rfl
                                    have hD : va_D A [(h0, .inr (10, mob q rf n mm mb u194.1 u194.2 av ev wi mn tp tc sc nf fd me mp xn mt wh tq ag an ig)), ((q 2), aI g 600 bs), ((q 14), aI g 620 tg), ((q 16), aI g 620 on), ((q 17), aI g 620 tw), ((q 27), aI g 160 fl), ((q 28), aI g 160 pl), ((q 29), aI g 160 na), ((q 30), aI g 160 ty), ((q 31), aI g 160 ca)] := hD.sub [9, 0, 1, 2, 3, 4, 5, 6, 7, 8] (by decide) rfl
                                    have hp194_0 := hr193
                                    exact tw_vret E hS (u194.1, u194.2) (⟨(fun h => absurd h hp194_0), (fun h => absurd h hp194_0)⟩) hP hD d_Mod_linkMember_302
                                · refine lv_iconst (v := 1) hx hb d_Mod_linkMember_282 (by decide) ?_
                                  refine lv_goto (tgt := 287) hx hb d_Mod_linkMember_283 (by decide) ?_
                                  refine lv_icmp_ne (tgt := 302) hx hb d_Mod_linkMember_287 (by decide) (fun h287 => ?_) (fun h287 => ?_)
                                  · exact tw_vret E hS (fa9, fp9) (⟨(fun h => absurd h (fun h => hp180_0 (hc9 h))), (fun h => absurd h (fun h => hp180_0 (hc9 h)))⟩) hP hD d_Mod_linkMember_302
                                  · refine lv_aload_n hx hb d_Mod_linkMember_290 rfl (lv_at hl 4 rfl) ?_
                                    refine lv_bipush (v := 12) hx hb d_Mod_linkMember_291 (by decide) ?_
                                    refine lv_aload_n hx hb d_Mod_linkMember_293 rfl (lv_at hl 4 rfl) ?_
                                    refine va_get (D := g.1) (ci := 10) (v := .ref (q 28)) (C := R_Mod) (T := F_Mod) (N := 61) hx hb hts in_Mod hown hK hP 0 rfl rfl 28 (by decide) (hts _ wd_1278) (fun _ h9 => h9) rfl d_Mod_linkMember_294 ?_
                                    refine lv_iload_n hx hb d_Mod_linkMember_297 rfl (lv_at hl 5 rfl) ?_
                                    refine va_iald hx hb hK hP 6 0 rfl rfl (vp_in_nI (by omega) (by decide)) d_Mod_linkMember_298 ?_
                                    obtain ⟨x195, ex195⟩ : ∃ z : Int32, pl ((nI mi).toNatClampNeg) = z := ⟨_, rfl⟩
                                    refine tw_ri (e2 := x195) ex195 ?_
                                    refine tw_wv (wr := [((q 2), aI g 600 bs), ((q 14), aI g 620 tg), ((q 16), aI g 620 on), ((q 17), aI g 620 tw), ((q 27), aI g 160 fl), ((q 28), aI g 160 pl), ((q 29), aI g 160 na), ((q 30), aI g 160 ty), ((q 31), aI g 160 ca)]) (tw_runV (ws := [(h0, .inr (10, mob q rf n mm mb fa9 fp9 av ev wi mn tp tc sc nf fd me mp xn mt wh tq ag an ig)), ((q 2), aI g 600 bs), ((q 14), aI g 620 tg), ((q 16), aI g 620 on), ((q 17), aI g 620 tw), ((q 27), aI g 160 fl), ((q 28), aI g 160 pl), ((q 29), aI g 160 na), ((q 30), aI g 160 ty), ((q 31), aI g 160 ca)]) (wc := [(h0, .inr (10, mob q rf n mm mb fa9 fp9 av ev wi mn tp tc sc nf fd me mp xn mt wh tq ag an ig))]) (As := [.int 12, .int x195]) (rest := []) E hB hK hZ (g_Mod_fail l g H.size h0 q rf n mm mb av ev wi mn tp tc sc nf fd me mp xn mt wh tq ag an ig fa9 fp9 12 x195 (by decide)) mc_Mod_fail mi_Mod_fail me_Mod_fail wd_1478 hP hD hS hA [0] rfl (by decide) 0 rfl rfl rfl rfl rfl (by decide) rfl hl.1 rfl (Nat.le_of_ble_eq_true rfl) (by decide) d_Mod_linkMember_299) hP hD hS hA [0] [1, 2, 3, 4, 5, 6, 7, 8, 9] rfl rfl (by decide) (by decide) (fun u197 H locs hr196 hP hD hS => ?_)
                                    try dsimp only at hr196
                                    have hP : va_P g.1 classes [((q 2), aI g 600 bs), ((q 14), aI g 620 tg), ((q 16), aI g 620 on), ((q 17), aI g 620 tw), ((q 27), aI g 160 fl), ((q 28), aI g 160 pl), ((q 29), aI g 160 na), ((q 30), aI g 160 ty), ((q 31), aI g 160 ca), (h0, .inr (10, mob q rf n mm mb u197.1 u197.2 av ev wi mn tp tc sc nf fd me mp xn mt wh tq ag an ig))] H := hP
                                    have hD : va_D A [((q 2), aI g 600 bs), ((q 14), aI g 620 tg), ((q 16), aI g 620 on), ((q 17), aI g 620 tw), ((q 27), aI g 160 fl), ((q 28), aI g 160 pl), ((q 29), aI g 160 na), ((q 30), aI g 160 ty), ((q 31), aI g 160 ca), (h0, .inr (10, mob q rf n mm mb u197.1 u197.2 av ev wi mn tp tc sc nf fd me mp xn mt wh tq ag an ig))] := hD
                                    have hP : va_P g.1 classes [(h0, .inr (10, mob q rf n mm mb u197.1 u197.2 av ev wi mn tp tc sc nf fd me mp xn mt wh tq ag an ig)), ((q 2), aI g 600 bs), ((q 14), aI g 620 tg), ((q 16), aI g 620 on), ((q 17), aI g 620 tw), ((q 27), aI g 160 fl), ((q 28), aI g 160 pl), ((q 29), aI g 160 na), ((q 30), aI g 160 ty), ((q 31), aI g 160 ca)] H := hP.sub [9, 0, 1, 2, 3, 4, 5, 6, 7, 8] rfl
                                    have hD : va_D A [(h0, .inr (10, mob q rf n mm mb u197.1 u197.2 av ev wi mn tp tc sc nf fd me mp xn mt wh tq ag an ig)), ((q 2), aI g 600 bs), ((q 14), aI g 620 tg), ((q 16), aI g 620 on), ((q 17), aI g 620 tw), ((q 27), aI g 160 fl), ((q 28), aI g 160 pl), ((q 29), aI g 160 na), ((q 30), aI g 160 ty), ((q 31), aI g 160 ca)] := hD.sub [9, 0, 1, 2, 3, 4, 5, 6, 7, 8] (by decide) rfl
                                    have hp197_0 := hr196
                                    exact tw_vret E hS (u197.1, u197.2) (⟨(fun h => absurd h hp197_0), (fun h => absurd h hp197_0)⟩) hP hD d_Mod_linkMember_302
                          · have h199 := tn_nle h199 (by omega) (by omega)
                            obtain ⟨⟨i1, u0, u1, u2, ut⟩, ⟨i2, pi2, li2, v0, v1, v2, vt, v3, v4, v5, v6⟩⟩ := hLM i h199
                            obtain ⟨pi1, li1, u3, u4, u5⟩ := hTX i1 (by omega) ut
                            refine lv_aload_n hx hb d_Mod_linkMember_202 rfl (lv_at hl 4 rfl) ?_
                            refine lv_aload_n hx hb d_Mod_linkMember_203 rfl (lv_at hl 4 rfl) ?_
                            refine va_get (D := g.1) (ci := 10) (v := .ref (q 29)) (C := R_Mod) (T := F_Mod) (N := 61) hx hb hts in_Mod hown hK hP 0 rfl rfl 29 (by decide) (hts _ wd_1279) (fun _ h9 => h9) rfl d_Mod_linkMember_204 ?_
                            refine lv_iload hx hb d_Mod_linkMember_207 (lv_at hl 0 rfl) ?_
                            refine va_iald hx hb hK hP 7 0 rfl rfl (vp_in_nI (by omega) (by decide)) d_Mod_linkMember_209 ?_
                            refine tw_ri (e2 := nI i1) (by rw [nI_clamp (by omega)]; exact u2) ?_
                            refine lv_iload_n hx hb d_Mod_linkMember_210 rfl (lv_at hl 2 rfl) ?_
                            refine tw_si (tw_runV (ws := [(h0, .inr (10, mob q rf n mm mb fa9 fp9 av ev wi mn tp tc sc nf fd me mp xn mt wh tq ag an ig)), ((q 2), aI g 600 bs), ((q 14), aI g 620 tg), ((q 16), aI g 620 on), ((q 17), aI g 620 tw), ((q 27), aI g 160 fl), ((q 28), aI g 160 pl), ((q 29), aI g 160 na), ((q 30), aI g 160 ty), ((q 31), aI g 160 ca)]) (wc := [(h0, .inr (10, mob q rf n mm mb fa9 fp9 av ev wi mn tp tc sc nf fd me mp xn mt wh tq ag an ig)), ((q 2), aI g 600 bs), ((q 16), aI g 620 on), ((q 17), aI g 620 tw)]) (As := [.int (nI i1), .int (nI jn)]) (rest := []) E hB hK hZ (g_Mod_sameTexts l g H.size h0 q rf n mm mb fa9 fp9 av ev wi mn tp tc sc nf fd me mp xn mt wh tq ag an ig bs on tw i1 jn pi1 li1 pn ln1 (by omega) u3 u4 u5 (by omega) pna pnb pnc) mc_Mod_sameTexts mi_Mod_sameTexts me_Mod_sameTexts wd_1579 hP hD hS hA [0, 1, 3, 4] rfl (by decide) 0 rfl rfl rfl rfl rfl (by decide) rfl hl.1 rfl (Nat.le_of_ble_eq_true rfl) (by decide) d_Mod_linkMember_211) (fun r198 hr198 => ?_)
                            have hB198 := hr198
                            refine lv_if_eq (tgt := 245) hx hb d_Mod_linkMember_214 (by decide) (fun h214 => ?_) (fun h214 => ?_)
                            · refine lv_iinc (k := 0) (v := nI (i + 1)) hx hb d_Mod_linkMember_245 hl rfl ((nI_succ i).symm) (by decide) rfl (fun ls hl => ?_)
                              have hl : lv_has ls 6 [(5, .int (nI (i + 1))), (4, .int (nI jt)), (3, .int (nI jn)), (2, .int 1), (0, .ref h0), (1, .int (nI mi))] := hl
                              refine lv_goto (tgt := 196) hx hb d_Mod_linkMember_248 (by decide) ?_
                              have hP : va_P g.1 classes [(h0, .inr (10, mob q rf n mm mb fa9 fp9 av ev wi mn tp tc sc nf fd me mp xn mt wh tq ag an ig)), ((q 2), aI g 600 bs), ((q 14), aI g 620 tg), ((q 16), aI g 620 on), ((q 17), aI g 620 tw), ((q 27), aI g 160 fl), ((q 28), aI g 160 pl), ((q 29), aI g 160 na), ((q 30), aI g 160 ty), ((q 31), aI g 160 ca)] H := hP.sub [0, 1, 2, 3, 4, 5, 6, 7, 8, 9] rfl
                              have hD : va_D A [(h0, .inr (10, mob q rf n mm mb fa9 fp9 av ev wi mn tp tc sc nf fd me mp xn mt wh tq ag an ig)), ((q 2), aI g 600 bs), ((q 14), aI g 620 tg), ((q 16), aI g 620 on), ((q 17), aI g 620 tw), ((q 27), aI g 160 fl), ((q 28), aI g 160 pl), ((q 29), aI g 160 na), ((q 30), aI g 160 ty), ((q 31), aI g 160 ca)] := hD.sub [0, 1, 2, 3, 4, 5, 6, 7, 8, 9] (by decide) rfl
                              exact ih _ (by omega) (i + 1) fa9 fp9 ls _ _ rfl (fun h => absurd h (fun h => hp180_0 (hc9 h))) (by omega) (lv_sub hl [0, 1, 2, 3, 4, 5] rfl) hP hD hS
                            · refine lv_aload_n hx hb d_Mod_linkMember_217 rfl (lv_at hl 4 rfl) ?_
                              refine lv_aload_n hx hb d_Mod_linkMember_218 rfl (lv_at hl 4 rfl) ?_
                              refine va_get (D := g.1) (ci := 10) (v := .ref (q 30)) (C := R_Mod) (T := F_Mod) (N := 61) hx hb hts in_Mod hown hK hP 0 rfl rfl 30 (by decide) (hts _ wd_1280) (fun _ h9 => h9) rfl d_Mod_linkMember_219 ?_
                              refine lv_iload hx hb d_Mod_linkMember_222 (lv_at hl 0 rfl) ?_
                              refine va_iald hx hb hK hP 8 0 rfl rfl (vp_in_nI (by omega) (by decide)) d_Mod_linkMember_224 ?_
                              refine tw_ri (e2 := nI i2) (by rw [nI_clamp (by omega)]; exact v2) ?_
                              refine lv_iload hx hb d_Mod_linkMember_225 (lv_at hl 1 rfl) ?_
                              refine tw_si (tw_runV (ws := [(h0, .inr (10, mob q rf n mm mb fa9 fp9 av ev wi mn tp tc sc nf fd me mp xn mt wh tq ag an ig)), ((q 2), aI g 600 bs), ((q 14), aI g 620 tg), ((q 16), aI g 620 on), ((q 17), aI g 620 tw), ((q 27), aI g 160 fl), ((q 28), aI g 160 pl), ((q 29), aI g 160 na), ((q 30), aI g 160 ty), ((q 31), aI g 160 ca)]) (wc := [(h0, .inr (10, mob q rf n mm mb fa9 fp9 av ev wi mn tp tc sc nf fd me mp xn mt wh tq ag an ig)), ((q 2), aI g 600 bs), ((q 16), aI g 620 on), ((q 17), aI g 620 tw)]) (As := [.int (nI i2), .int (nI jt)]) (rest := []) E hB hK hZ (g_Mod_sameTexts l g H.size h0 q rf n mm mb fa9 fp9 av ev wi mn tp tc sc nf fd me mp xn mt wh tq ag an ig bs on tw i2 jt pi2 li2 pt lt1 (by omega) v3 v4 v5 (by omega) pta ptb ptc) mc_Mod_sameTexts mi_Mod_sameTexts me_Mod_sameTexts wd_1579 hP hD hS hA [0, 1, 3, 4] rfl (by decide) 0 rfl rfl rfl rfl rfl (by decide) rfl hl.1 rfl (Nat.le_of_ble_eq_true rfl) (by decide) d_Mod_linkMember_227) (fun r199 hr199 => ?_)
                              have hB199 := hr199
                              refine lv_if_eq (tgt := 245) hx hb d_Mod_linkMember_230 (by decide) (fun h230 => ?_) (fun h230 => ?_)
                              · refine lv_iinc (k := 0) (v := nI (i + 1)) hx hb d_Mod_linkMember_245 hl rfl ((nI_succ i).symm) (by decide) rfl (fun ls hl => ?_)
                                have hl : lv_has ls 6 [(5, .int (nI (i + 1))), (4, .int (nI jt)), (3, .int (nI jn)), (2, .int 1), (0, .ref h0), (1, .int (nI mi))] := hl
                                refine lv_goto (tgt := 196) hx hb d_Mod_linkMember_248 (by decide) ?_
                                have hP : va_P g.1 classes [(h0, .inr (10, mob q rf n mm mb fa9 fp9 av ev wi mn tp tc sc nf fd me mp xn mt wh tq ag an ig)), ((q 2), aI g 600 bs), ((q 14), aI g 620 tg), ((q 16), aI g 620 on), ((q 17), aI g 620 tw), ((q 27), aI g 160 fl), ((q 28), aI g 160 pl), ((q 29), aI g 160 na), ((q 30), aI g 160 ty), ((q 31), aI g 160 ca)] H := hP.sub [0, 1, 2, 3, 4, 5, 6, 7, 8, 9] rfl
                                have hD : va_D A [(h0, .inr (10, mob q rf n mm mb fa9 fp9 av ev wi mn tp tc sc nf fd me mp xn mt wh tq ag an ig)), ((q 2), aI g 600 bs), ((q 14), aI g 620 tg), ((q 16), aI g 620 on), ((q 17), aI g 620 tw), ((q 27), aI g 160 fl), ((q 28), aI g 160 pl), ((q 29), aI g 160 na), ((q 30), aI g 160 ty), ((q 31), aI g 160 ca)] := hD.sub [0, 1, 2, 3, 4, 5, 6, 7, 8, 9] (by decide) rfl
                                exact ih _ (by omega) (i + 1) fa9 fp9 ls _ _ rfl (fun h => absurd h (fun h => hp180_0 (hc9 h))) (by omega) (lv_sub hl [0, 1, 2, 3, 4, 5] rfl) hP hD hS
                              · refine lv_aload_n hx hb d_Mod_linkMember_233 rfl (lv_at hl 4 rfl) ?_
                                refine lv_bipush (v := 7) hx hb d_Mod_linkMember_234 (by decide) ?_
                                refine lv_aload_n hx hb d_Mod_linkMember_236 rfl (lv_at hl 4 rfl) ?_
                                refine va_get (D := g.1) (ci := 10) (v := .ref (q 28)) (C := R_Mod) (T := F_Mod) (N := 61) hx hb hts in_Mod hown hK hP 0 rfl rfl 28 (by decide) (hts _ wd_1278) (fun _ h9 => h9) rfl d_Mod_linkMember_237 ?_
                                refine lv_iload_n hx hb d_Mod_linkMember_240 rfl (lv_at hl 5 rfl) ?_
                                refine va_iald hx hb hK hP 6 0 rfl rfl (vp_in_nI (by omega) (by decide)) d_Mod_linkMember_241 ?_
                                obtain ⟨x200, ex200⟩ : ∃ z : Int32, pl ((nI mi).toNatClampNeg) = z := ⟨_, rfl⟩
                                refine tw_ri (e2 := x200) ex200 ?_
                                refine tw_wv (wr := [((q 2), aI g 600 bs), ((q 14), aI g 620 tg), ((q 16), aI g 620 on), ((q 17), aI g 620 tw), ((q 27), aI g 160 fl), ((q 28), aI g 160 pl), ((q 29), aI g 160 na), ((q 30), aI g 160 ty), ((q 31), aI g 160 ca)]) (tw_runV (ws := [(h0, .inr (10, mob q rf n mm mb fa9 fp9 av ev wi mn tp tc sc nf fd me mp xn mt wh tq ag an ig)), ((q 2), aI g 600 bs), ((q 14), aI g 620 tg), ((q 16), aI g 620 on), ((q 17), aI g 620 tw), ((q 27), aI g 160 fl), ((q 28), aI g 160 pl), ((q 29), aI g 160 na), ((q 30), aI g 160 ty), ((q 31), aI g 160 ca)]) (wc := [(h0, .inr (10, mob q rf n mm mb fa9 fp9 av ev wi mn tp tc sc nf fd me mp xn mt wh tq ag an ig))]) (As := [.int 7, .int x200]) (rest := []) E hB hK hZ (g_Mod_fail l g H.size h0 q rf n mm mb av ev wi mn tp tc sc nf fd me mp xn mt wh tq ag an ig fa9 fp9 7 x200 (by decide)) mc_Mod_fail mi_Mod_fail me_Mod_fail wd_1478 hP hD hS hA [0] rfl (by decide) 0 rfl rfl rfl rfl rfl (by decide) rfl hl.1 rfl (Nat.le_of_ble_eq_true rfl) (by decide) d_Mod_linkMember_242) hP hD hS hA [0] [1, 2, 3, 4, 5, 6, 7, 8, 9] rfl rfl (by decide) (by decide) (fun u202 H locs hr201 hP hD hS => ?_)
                                try dsimp only at hr201
                                have hP : va_P g.1 classes [((q 2), aI g 600 bs), ((q 14), aI g 620 tg), ((q 16), aI g 620 on), ((q 17), aI g 620 tw), ((q 27), aI g 160 fl), ((q 28), aI g 160 pl), ((q 29), aI g 160 na), ((q 30), aI g 160 ty), ((q 31), aI g 160 ca), (h0, .inr (10, mob q rf n mm mb u202.1 u202.2 av ev wi mn tp tc sc nf fd me mp xn mt wh tq ag an ig))] H := hP
                                have hD : va_D A [((q 2), aI g 600 bs), ((q 14), aI g 620 tg), ((q 16), aI g 620 on), ((q 17), aI g 620 tw), ((q 27), aI g 160 fl), ((q 28), aI g 160 pl), ((q 29), aI g 160 na), ((q 30), aI g 160 ty), ((q 31), aI g 160 ca), (h0, .inr (10, mob q rf n mm mb u202.1 u202.2 av ev wi mn tp tc sc nf fd me mp xn mt wh tq ag an ig))] := hD
                                have hP : va_P g.1 classes [(h0, .inr (10, mob q rf n mm mb u202.1 u202.2 av ev wi mn tp tc sc nf fd me mp xn mt wh tq ag an ig)), ((q 2), aI g 600 bs), ((q 14), aI g 620 tg), ((q 16), aI g 620 on), ((q 17), aI g 620 tw), ((q 27), aI g 160 fl), ((q 28), aI g 160 pl), ((q 29), aI g 160 na), ((q 30), aI g 160 ty), ((q 31), aI g 160 ca)] H := hP.sub [9, 0, 1, 2, 3, 4, 5, 6, 7, 8] rfl
                                have hD : va_D A [(h0, .inr (10, mob q rf n mm mb u202.1 u202.2 av ev wi mn tp tc sc nf fd me mp xn mt wh tq ag an ig)), ((q 2), aI g 600 bs), ((q 14), aI g 620 tg), ((q 16), aI g 620 on), ((q 17), aI g 620 tw), ((q 27), aI g 160 fl), ((q 28), aI g 160 pl), ((q 29), aI g 160 na), ((q 30), aI g 160 ty), ((q 31), aI g 160 ca)] := hD.sub [9, 0, 1, 2, 3, 4, 5, 6, 7, 8] (by decide) rfl
                                have hp202_0 := hr201
                                refine lv_iinc (k := 0) (v := nI (i + 1)) hx hb d_Mod_linkMember_245 hl rfl ((nI_succ i).symm) (by decide) rfl (fun ls hl => ?_)
                                have hl : lv_has ls 6 [(5, .int (nI (i + 1))), (4, .int (nI jt)), (3, .int (nI jn)), (2, .int 1), (0, .ref h0), (1, .int (nI mi))] := hl
                                refine lv_goto (tgt := 196) hx hb d_Mod_linkMember_248 (by decide) ?_
                                have hP : va_P g.1 classes [(h0, .inr (10, mob q rf n mm mb u202.1 u202.2 av ev wi mn tp tc sc nf fd me mp xn mt wh tq ag an ig)), ((q 2), aI g 600 bs), ((q 14), aI g 620 tg), ((q 16), aI g 620 on), ((q 17), aI g 620 tw), ((q 27), aI g 160 fl), ((q 28), aI g 160 pl), ((q 29), aI g 160 na), ((q 30), aI g 160 ty), ((q 31), aI g 160 ca)] H := hP.sub [0, 1, 2, 3, 4, 5, 6, 7, 8, 9] rfl
                                have hD : va_D A [(h0, .inr (10, mob q rf n mm mb u202.1 u202.2 av ev wi mn tp tc sc nf fd me mp xn mt wh tq ag an ig)), ((q 2), aI g 600 bs), ((q 14), aI g 620 tg), ((q 16), aI g 620 on), ((q 17), aI g 620 tw), ((q 27), aI g 160 fl), ((q 28), aI g 160 pl), ((q 29), aI g 160 na), ((q 30), aI g 160 ty), ((q 31), aI g 160 ca)] := hD.sub [0, 1, 2, 3, 4, 5, 6, 7, 8, 9] (by decide) rfl
                                exact ih _ (by omega) (i + 1) u202.1 u202.2 ls _ _ rfl (fun h => absurd h hp202_0) (by omega) (lv_sub hl [0, 1, 2, 3, 4, 5] rfl) hP hD hS
                      exact loop196 _ fd u180.1 u180.2 ls _ _ rfl (fun h => h) (by omega) (hl) hP hD hS
              · refine lv_aload_n hx hb d_Mod_linkMember_108 rfl (lv_at hl 3 rfl) ?_
                refine lv_bipush (v := 10) hx hb d_Mod_linkMember_109 (by decide) ?_
                refine lv_aload_n hx hb d_Mod_linkMember_111 rfl (lv_at hl 3 rfl) ?_
                refine va_get (D := g.1) (ci := 10) (v := .ref (q 28)) (C := R_Mod) (T := F_Mod) (N := 61) hx hb hts in_Mod hown hK hP 0 rfl rfl 28 (by decide) (hts _ wd_1278) (fun _ h9 => h9) rfl d_Mod_linkMember_112 ?_
                refine lv_iload_n hx hb d_Mod_linkMember_115 rfl (lv_at hl 4 rfl) ?_
                refine va_iald hx hb hK hP 6 0 rfl rfl (vp_in_nI (by omega) (by decide)) d_Mod_linkMember_116 ?_
                obtain ⟨x203, ex203⟩ : ∃ z : Int32, pl ((nI mi).toNatClampNeg) = z := ⟨_, rfl⟩
                refine tw_ri (e2 := x203) ex203 ?_
                refine tw_wv (wr := [((q 2), aI g 600 bs), ((q 14), aI g 620 tg), ((q 16), aI g 620 on), ((q 17), aI g 620 tw), ((q 27), aI g 160 fl), ((q 28), aI g 160 pl), ((q 29), aI g 160 na), ((q 30), aI g 160 ty), ((q 31), aI g 160 ca)]) (tw_runV (ws := [(h0, .inr (10, mob q rf n mm mb fa fp av ev wi mn tp tc sc nf fd me mp xn mt wh tq ag an ig)), ((q 2), aI g 600 bs), ((q 14), aI g 620 tg), ((q 16), aI g 620 on), ((q 17), aI g 620 tw), ((q 27), aI g 160 fl), ((q 28), aI g 160 pl), ((q 29), aI g 160 na), ((q 30), aI g 160 ty), ((q 31), aI g 160 ca)]) (wc := [(h0, .inr (10, mob q rf n mm mb fa fp av ev wi mn tp tc sc nf fd me mp xn mt wh tq ag an ig))]) (As := [.int 10, .int x203]) (rest := []) E hB hK hZ (g_Mod_fail l g H.size h0 q rf n mm mb av ev wi mn tp tc sc nf fd me mp xn mt wh tq ag an ig fa fp 10 x203 (by decide)) mc_Mod_fail mi_Mod_fail me_Mod_fail wd_1478 hP hD hS hA [0] rfl (by decide) 0 rfl rfl rfl rfl rfl (by decide) rfl hl.1 rfl (Nat.le_of_ble_eq_true rfl) (by decide) d_Mod_linkMember_117) hP hD hS hA [0] [1, 2, 3, 4, 5, 6, 7, 8, 9] rfl rfl (by decide) (by decide) (fun u205 H locs hr204 hP hD hS => ?_)
                try dsimp only at hr204
                have hP : va_P g.1 classes [((q 2), aI g 600 bs), ((q 14), aI g 620 tg), ((q 16), aI g 620 on), ((q 17), aI g 620 tw), ((q 27), aI g 160 fl), ((q 28), aI g 160 pl), ((q 29), aI g 160 na), ((q 30), aI g 160 ty), ((q 31), aI g 160 ca), (h0, .inr (10, mob q rf n mm mb u205.1 u205.2 av ev wi mn tp tc sc nf fd me mp xn mt wh tq ag an ig))] H := hP
                have hD : va_D A [((q 2), aI g 600 bs), ((q 14), aI g 620 tg), ((q 16), aI g 620 on), ((q 17), aI g 620 tw), ((q 27), aI g 160 fl), ((q 28), aI g 160 pl), ((q 29), aI g 160 na), ((q 30), aI g 160 ty), ((q 31), aI g 160 ca), (h0, .inr (10, mob q rf n mm mb u205.1 u205.2 av ev wi mn tp tc sc nf fd me mp xn mt wh tq ag an ig))] := hD
                have hP : va_P g.1 classes [(h0, .inr (10, mob q rf n mm mb u205.1 u205.2 av ev wi mn tp tc sc nf fd me mp xn mt wh tq ag an ig)), ((q 2), aI g 600 bs), ((q 14), aI g 620 tg), ((q 16), aI g 620 on), ((q 17), aI g 620 tw), ((q 27), aI g 160 fl), ((q 28), aI g 160 pl), ((q 29), aI g 160 na), ((q 30), aI g 160 ty), ((q 31), aI g 160 ca)] H := hP.sub [9, 0, 1, 2, 3, 4, 5, 6, 7, 8] rfl
                have hD : va_D A [(h0, .inr (10, mob q rf n mm mb u205.1 u205.2 av ev wi mn tp tc sc nf fd me mp xn mt wh tq ag an ig)), ((q 2), aI g 600 bs), ((q 14), aI g 620 tg), ((q 16), aI g 620 on), ((q 17), aI g 620 tw), ((q 27), aI g 160 fl), ((q 28), aI g 160 pl), ((q 29), aI g 160 na), ((q 30), aI g 160 ty), ((q 31), aI g 160 ca)] := hD.sub [9, 0, 1, 2, 3, 4, 5, 6, 7, 8] (by decide) rfl
                have hp205_0 := hr204
                refine lv_goto (tgt := 182) hx hb d_Mod_linkMember_120 (by decide) ?_
                refine lv_iload_n hx hb d_Mod_linkMember_182 rfl (lv_at hl 2 rfl) ?_
                refine lv_if_eq (tgt := 193) hx hb d_Mod_linkMember_183 (by decide) (fun h183 => ?_) (fun h183 => ?_)
                · first | exact absurd h183 (by decide) | exact absurd (by decide) h183
                · refine lv_aload_n hx hb d_Mod_linkMember_186 rfl (lv_at hl 3 rfl) ?_
                  refine va_get (D := g.1) (ci := 10) (v := .int (nI fd)) (C := R_Mod) (T := F_Mod) (N := 61) hx hb hts in_Mod hown hK hP 0 rfl rfl 24 (by decide) (hts _ wd_1274) (fun _ h9 => h9) rfl d_Mod_linkMember_187 ?_
                  refine lv_goto (tgt := 194) hx hb d_Mod_linkMember_190 (by decide) ?_
                  refine lv_istore hx hb d_Mod_linkMember_194 hl (by decide) rfl (fun ls hl => ?_)
                  have hl : lv_has ls 6 [(5, .int (nI fd)), (4, .int (nI jt)), (3, .int (nI jn)), (2, .int 1), (0, .ref h0), (1, .int (nI mi))] := hl
                  have loop196 : ∀ (kq : Nat) (i : Nat) (fa9 : Int32) (fp9 : Int32) (ls : Array Slot) (H : Heap) (locs : List Loc) , mi - i = kq → (hc9 : fa9 = 0 → u205.1 = 0) → (hib : i ≤ 160) → lv_has ls 6 [(5, .int (nI i)), (4, .int (nI jt)), (3, .int (nI jn)), (2, .int 1), (0, .ref h0), (1, .int (nI mi))] → va_P g.1 classes [(h0, .inr (10, mob q rf n mm mb fa9 fp9 av ev wi mn tp tc sc nf fd me mp xn mt wh tq ag an ig)), ((q 2), aI g 600 bs), ((q 14), aI g 620 tg), ((q 16), aI g 620 on), ((q 17), aI g 620 tw), ((q 27), aI g 160 fl), ((q 28), aI g 160 pl), ((q 29), aI g 160 na), ((q 30), aI g 160 ty), ((q 31), aI g 160 ca)] H → va_D A [(h0, .inr (10, mob q rf n mm mb fa9 fp9 av ev wi mn tp tc sc nf fd me mp xn mt wh tq ag an ig)), ((q 2), aI g 600 bs), ((q 14), aI g 620 tg), ((q 16), aI g 620 on), ((q 17), aI g 620 tw), ((q 27), aI g 160 fl), ((q 28), aI g 160 pl), ((q 29), aI g 160 na), ((q 30), aI g 160 ty), ((q 31), aI g 160 ca)] → va_S A s.heap H locs → W p l e ({ frames := 6, cells := 0, slots := 0, locals := 139 }) s m [.ref h0, .int (nI mi)].toArray below meth c H locs 0 0 (MQ below (tw_Qv g (fun (u : Int32 × Int32) => (u.1 = 0 → fa = 0) ∧ (u.1 = 0 → LMB bs mn tg on tw fd na ty mi)) (fun u : Int32 × Int32 => [(h0, .inr (10, mob q rf n mm mb u.1 u.2 av ev wi mn tp tc sc nf fd me mp xn mt wh tq ag an ig)), ((q 2), aI g 600 bs), ((q 14), aI g 620 tg), ((q 16), aI g 620 on), ((q 17), aI g 620 tw), ((q 27), aI g 160 fl), ((q 28), aI g 160 pl), ((q 29), aI g 160 na), ((q 30), aI g 160 ty), ((q 31), aI g 160 ca)]) A) [.ref h0, .int (nI mi)].toArray s 0 0 A) (F0 m 196 ls []) := by
                    intro kq
                    induction kq using Nat.strongRecOn with
                    | _ kq ih =>
                      intro i fa9 fp9 ls H locs hk hc9 hib hl hP hD hS
                      refine lv_iload hx hb d_Mod_linkMember_196 (lv_at hl 0 rfl) ?_
                      refine lv_iload_n hx hb d_Mod_linkMember_198 rfl (lv_at hl 5 rfl) ?_
                      refine lv_icmp_ge (tgt := 251) hx hb d_Mod_linkMember_199 (by decide) (fun h199 => ?_) (fun h199 => ?_)
                      · refine lv_iload_n hx hb d_Mod_linkMember_251 rfl (lv_at hl 3 rfl) ?_
                        refine lv_if_eq (tgt := 302) hx hb d_Mod_linkMember_252 (by decide) (fun h252 => ?_) (fun h252 => ?_)
                        · first | exact absurd h252 (by decide) | exact absurd (by decide) h252
                        · refine lv_aload_n hx hb d_Mod_linkMember_255 rfl (lv_at hl 4 rfl) ?_
                          refine va_get (D := g.1) (ci := 10) (v := .ref (q 31)) (C := R_Mod) (T := F_Mod) (N := 61) hx hb hts in_Mod hown hK hP 0 rfl rfl 31 (by decide) (hts _ wd_1281) (fun _ h9 => h9) rfl d_Mod_linkMember_256 ?_
                          refine lv_iload_n hx hb d_Mod_linkMember_259 rfl (lv_at hl 5 rfl) ?_
                          refine va_iald hx hb hK hP 9 0 rfl rfl (vp_in_nI (by omega) (by decide)) d_Mod_linkMember_260 ?_
                          obtain ⟨x206, ex206⟩ : ∃ z : Int32, ca ((nI mi).toNatClampNeg) = z := ⟨_, rfl⟩
                          refine tw_ri (e2 := x206) ex206 ?_
                          refine lv_if_le (tgt := 268) hx hb d_Mod_linkMember_261 (by decide) (fun h261 => ?_) (fun h261 => ?_)
                          · refine lv_iconst (v := 0) hx hb d_Mod_linkMember_268 (by decide) ?_
                            refine lv_aload_n hx hb d_Mod_linkMember_269 rfl (lv_at hl 4 rfl) ?_
                            refine va_get (D := g.1) (ci := 10) (v := .ref (q 27)) (C := R_Mod) (T := F_Mod) (N := 61) hx hb hts in_Mod hown hK hP 0 rfl rfl 27 (by decide) (hts _ wd_1277) (fun _ h9 => h9) rfl d_Mod_linkMember_270 ?_
                            refine lv_iload_n hx hb d_Mod_linkMember_273 rfl (lv_at hl 5 rfl) ?_
                            refine va_iald hx hb hK hP 5 0 rfl rfl (vp_in_nI (by omega) (by decide)) d_Mod_linkMember_274 ?_
                            obtain ⟨x207, ex207⟩ : ∃ z : Int32, fl ((nI mi).toNatClampNeg) = z := ⟨_, rfl⟩
                            refine tw_ri (e2 := x207) ex207 ?_
                            refine lv_sipush (v := 1280) hx hb d_Mod_linkMember_275 (by decide) ?_
                            refine lv_iand hx hb d_Mod_linkMember_278 ?_
                            obtain ⟨x208, ex208⟩ : ∃ z : Int32, x207 &&& 1280 = z := ⟨_, rfl⟩
                            refine tw_ri (e2 := x208) ex208 ?_
                            refine lv_if_eq (tgt := 286) hx hb d_Mod_linkMember_279 (by decide) (fun h279 => ?_) (fun h279 => ?_)
                            · refine lv_iconst (v := 0) hx hb d_Mod_linkMember_286 (by decide) ?_
                              refine lv_icmp_ne (tgt := 302) hx hb d_Mod_linkMember_287 (by decide) (fun h287 => ?_) (fun h287 => ?_)
                              · exact tw_vret E hS (fa9, fp9) (⟨(fun h => absurd h (fun h => hp205_0 (hc9 h))), (fun h => absurd h (fun h => hp205_0 (hc9 h)))⟩) hP hD d_Mod_linkMember_302
                              · refine lv_aload_n hx hb d_Mod_linkMember_290 rfl (lv_at hl 4 rfl) ?_
                                refine lv_bipush (v := 12) hx hb d_Mod_linkMember_291 (by decide) ?_
                                refine lv_aload_n hx hb d_Mod_linkMember_293 rfl (lv_at hl 4 rfl) ?_
                                refine va_get (D := g.1) (ci := 10) (v := .ref (q 28)) (C := R_Mod) (T := F_Mod) (N := 61) hx hb hts in_Mod hown hK hP 0 rfl rfl 28 (by decide) (hts _ wd_1278) (fun _ h9 => h9) rfl d_Mod_linkMember_294 ?_
                                refine lv_iload_n hx hb d_Mod_linkMember_297 rfl (lv_at hl 5 rfl) ?_
                                refine va_iald hx hb hK hP 6 0 rfl rfl (vp_in_nI (by omega) (by decide)) d_Mod_linkMember_298 ?_
                                obtain ⟨x209, ex209⟩ : ∃ z : Int32, pl ((nI mi).toNatClampNeg) = z := ⟨_, rfl⟩
                                refine tw_ri (e2 := x209) ex209 ?_
                                refine tw_wv (wr := [((q 2), aI g 600 bs), ((q 14), aI g 620 tg), ((q 16), aI g 620 on), ((q 17), aI g 620 tw), ((q 27), aI g 160 fl), ((q 28), aI g 160 pl), ((q 29), aI g 160 na), ((q 30), aI g 160 ty), ((q 31), aI g 160 ca)]) (tw_runV (ws := [(h0, .inr (10, mob q rf n mm mb fa9 fp9 av ev wi mn tp tc sc nf fd me mp xn mt wh tq ag an ig)), ((q 2), aI g 600 bs), ((q 14), aI g 620 tg), ((q 16), aI g 620 on), ((q 17), aI g 620 tw), ((q 27), aI g 160 fl), ((q 28), aI g 160 pl), ((q 29), aI g 160 na), ((q 30), aI g 160 ty), ((q 31), aI g 160 ca)]) (wc := [(h0, .inr (10, mob q rf n mm mb fa9 fp9 av ev wi mn tp tc sc nf fd me mp xn mt wh tq ag an ig))]) (As := [.int 12, .int x209]) (rest := []) E hB hK hZ (g_Mod_fail l g H.size h0 q rf n mm mb av ev wi mn tp tc sc nf fd me mp xn mt wh tq ag an ig fa9 fp9 12 x209 (by decide)) mc_Mod_fail mi_Mod_fail me_Mod_fail wd_1478 hP hD hS hA [0] rfl (by decide) 0 rfl rfl rfl rfl rfl (by decide) rfl hl.1 rfl (Nat.le_of_ble_eq_true rfl) (by decide) d_Mod_linkMember_299) hP hD hS hA [0] [1, 2, 3, 4, 5, 6, 7, 8, 9] rfl rfl (by decide) (by decide) (fun u211 H locs hr210 hP hD hS => ?_)
                                try dsimp only at hr210
                                have hP : va_P g.1 classes [((q 2), aI g 600 bs), ((q 14), aI g 620 tg), ((q 16), aI g 620 on), ((q 17), aI g 620 tw), ((q 27), aI g 160 fl), ((q 28), aI g 160 pl), ((q 29), aI g 160 na), ((q 30), aI g 160 ty), ((q 31), aI g 160 ca), (h0, .inr (10, mob q rf n mm mb u211.1 u211.2 av ev wi mn tp tc sc nf fd me mp xn mt wh tq ag an ig))] H := hP
                                have hD : va_D A [((q 2), aI g 600 bs), ((q 14), aI g 620 tg), ((q 16), aI g 620 on), ((q 17), aI g 620 tw), ((q 27), aI g 160 fl), ((q 28), aI g 160 pl), ((q 29), aI g 160 na), ((q 30), aI g 160 ty), ((q 31), aI g 160 ca), (h0, .inr (10, mob q rf n mm mb u211.1 u211.2 av ev wi mn tp tc sc nf fd me mp xn mt wh tq ag an ig))] := hD
                                have hP : va_P g.1 classes [(h0, .inr (10, mob q rf n mm mb u211.1 u211.2 av ev wi mn tp tc sc nf fd me mp xn mt wh tq ag an ig)), ((q 2), aI g 600 bs), ((q 14), aI g 620 tg), ((q 16), aI g 620 on), ((q 17), aI g 620 tw), ((q 27), aI g 160 fl), ((q 28), aI g 160 pl), ((q 29), aI g 160 na), ((q 30), aI g 160 ty), ((q 31), aI g 160 ca)] H := hP.sub [9, 0, 1, 2, 3, 4, 5, 6, 7, 8] rfl
                                have hD : va_D A [(h0, .inr (10, mob q rf n mm mb u211.1 u211.2 av ev wi mn tp tc sc nf fd me mp xn mt wh tq ag an ig)), ((q 2), aI g 600 bs), ((q 14), aI g 620 tg), ((q 16), aI g 620 on), ((q 17), aI g 620 tw), ((q 27), aI g 160 fl), ((q 28), aI g 160 pl), ((q 29), aI g 160 na), ((q 30), aI g 160 ty), ((q 31), aI g 160 ca)] := hD.sub [9, 0, 1, 2, 3, 4, 5, 6, 7, 8] (by decide) rfl
                                have hp211_0 := hr210
                                exact tw_vret E hS (u211.1, u211.2) (⟨(fun h => absurd h hp211_0), (fun h => absurd h hp211_0)⟩) hP hD d_Mod_linkMember_302
                            · refine lv_iconst (v := 1) hx hb d_Mod_linkMember_282 (by decide) ?_
                              refine lv_goto (tgt := 287) hx hb d_Mod_linkMember_283 (by decide) ?_
                              refine lv_icmp_ne (tgt := 302) hx hb d_Mod_linkMember_287 (by decide) (fun h287 => ?_) (fun h287 => ?_)
                              · exact tw_vret E hS (fa9, fp9) (⟨(fun h => absurd h (fun h => hp205_0 (hc9 h))), (fun h => absurd h (fun h => hp205_0 (hc9 h)))⟩) hP hD d_Mod_linkMember_302
                              · refine lv_aload_n hx hb d_Mod_linkMember_290 rfl (lv_at hl 4 rfl) ?_
                                refine lv_bipush (v := 12) hx hb d_Mod_linkMember_291 (by decide) ?_
                                refine lv_aload_n hx hb d_Mod_linkMember_293 rfl (lv_at hl 4 rfl) ?_
                                refine va_get (D := g.1) (ci := 10) (v := .ref (q 28)) (C := R_Mod) (T := F_Mod) (N := 61) hx hb hts in_Mod hown hK hP 0 rfl rfl 28 (by decide) (hts _ wd_1278) (fun _ h9 => h9) rfl d_Mod_linkMember_294 ?_
                                refine lv_iload_n hx hb d_Mod_linkMember_297 rfl (lv_at hl 5 rfl) ?_
                                refine va_iald hx hb hK hP 6 0 rfl rfl (vp_in_nI (by omega) (by decide)) d_Mod_linkMember_298 ?_
                                obtain ⟨x212, ex212⟩ : ∃ z : Int32, pl ((nI mi).toNatClampNeg) = z := ⟨_, rfl⟩
                                refine tw_ri (e2 := x212) ex212 ?_
                                refine tw_wv (wr := [((q 2), aI g 600 bs), ((q 14), aI g 620 tg), ((q 16), aI g 620 on), ((q 17), aI g 620 tw), ((q 27), aI g 160 fl), ((q 28), aI g 160 pl), ((q 29), aI g 160 na), ((q 30), aI g 160 ty), ((q 31), aI g 160 ca)]) (tw_runV (ws := [(h0, .inr (10, mob q rf n mm mb fa9 fp9 av ev wi mn tp tc sc nf fd me mp xn mt wh tq ag an ig)), ((q 2), aI g 600 bs), ((q 14), aI g 620 tg), ((q 16), aI g 620 on), ((q 17), aI g 620 tw), ((q 27), aI g 160 fl), ((q 28), aI g 160 pl), ((q 29), aI g 160 na), ((q 30), aI g 160 ty), ((q 31), aI g 160 ca)]) (wc := [(h0, .inr (10, mob q rf n mm mb fa9 fp9 av ev wi mn tp tc sc nf fd me mp xn mt wh tq ag an ig))]) (As := [.int 12, .int x212]) (rest := []) E hB hK hZ (g_Mod_fail l g H.size h0 q rf n mm mb av ev wi mn tp tc sc nf fd me mp xn mt wh tq ag an ig fa9 fp9 12 x212 (by decide)) mc_Mod_fail mi_Mod_fail me_Mod_fail wd_1478 hP hD hS hA [0] rfl (by decide) 0 rfl rfl rfl rfl rfl (by decide) rfl hl.1 rfl (Nat.le_of_ble_eq_true rfl) (by decide) d_Mod_linkMember_299) hP hD hS hA [0] [1, 2, 3, 4, 5, 6, 7, 8, 9] rfl rfl (by decide) (by decide) (fun u214 H locs hr213 hP hD hS => ?_)
                                try dsimp only at hr213
                                have hP : va_P g.1 classes [((q 2), aI g 600 bs), ((q 14), aI g 620 tg), ((q 16), aI g 620 on), ((q 17), aI g 620 tw), ((q 27), aI g 160 fl), ((q 28), aI g 160 pl), ((q 29), aI g 160 na), ((q 30), aI g 160 ty), ((q 31), aI g 160 ca), (h0, .inr (10, mob q rf n mm mb u214.1 u214.2 av ev wi mn tp tc sc nf fd me mp xn mt wh tq ag an ig))] H := hP
                                have hD : va_D A [((q 2), aI g 600 bs), ((q 14), aI g 620 tg), ((q 16), aI g 620 on), ((q 17), aI g 620 tw), ((q 27), aI g 160 fl), ((q 28), aI g 160 pl), ((q 29), aI g 160 na), ((q 30), aI g 160 ty), ((q 31), aI g 160 ca), (h0, .inr (10, mob q rf n mm mb u214.1 u214.2 av ev wi mn tp tc sc nf fd me mp xn mt wh tq ag an ig))] := hD
                                have hP : va_P g.1 classes [(h0, .inr (10, mob q rf n mm mb u214.1 u214.2 av ev wi mn tp tc sc nf fd me mp xn mt wh tq ag an ig)), ((q 2), aI g 600 bs), ((q 14), aI g 620 tg), ((q 16), aI g 620 on), ((q 17), aI g 620 tw), ((q 27), aI g 160 fl), ((q 28), aI g 160 pl), ((q 29), aI g 160 na), ((q 30), aI g 160 ty), ((q 31), aI g 160 ca)] H := hP.sub [9, 0, 1, 2, 3, 4, 5, 6, 7, 8] rfl
                                have hD : va_D A [(h0, .inr (10, mob q rf n mm mb u214.1 u214.2 av ev wi mn tp tc sc nf fd me mp xn mt wh tq ag an ig)), ((q 2), aI g 600 bs), ((q 14), aI g 620 tg), ((q 16), aI g 620 on), ((q 17), aI g 620 tw), ((q 27), aI g 160 fl), ((q 28), aI g 160 pl), ((q 29), aI g 160 na), ((q 30), aI g 160 ty), ((q 31), aI g 160 ca)] := hD.sub [9, 0, 1, 2, 3, 4, 5, 6, 7, 8] (by decide) rfl
                                have hp214_0 := hr213
                                exact tw_vret E hS (u214.1, u214.2) (⟨(fun h => absurd h hp214_0), (fun h => absurd h hp214_0)⟩) hP hD d_Mod_linkMember_302
                          · refine lv_iconst (v := 1) hx hb d_Mod_linkMember_264 (by decide) ?_
                            refine lv_goto (tgt := 269) hx hb d_Mod_linkMember_265 (by decide) ?_
                            refine lv_aload_n hx hb d_Mod_linkMember_269 rfl (lv_at hl 4 rfl) ?_
                            refine va_get (D := g.1) (ci := 10) (v := .ref (q 27)) (C := R_Mod) (T := F_Mod) (N := 61) hx hb hts in_Mod hown hK hP 0 rfl rfl 27 (by decide) (hts _ wd_1277) (fun _ h9 => h9) rfl d_Mod_linkMember_270 ?_
                            refine lv_iload_n hx hb d_Mod_linkMember_273 rfl (lv_at hl 5 rfl) ?_
                            refine va_iald hx hb hK hP 5 0 rfl rfl (vp_in_nI (by omega) (by decide)) d_Mod_linkMember_274 ?_
                            obtain ⟨x215, ex215⟩ : ∃ z : Int32, fl ((nI mi).toNatClampNeg) = z := ⟨_, rfl⟩
                            refine tw_ri (e2 := x215) ex215 ?_
                            refine lv_sipush (v := 1280) hx hb d_Mod_linkMember_275 (by decide) ?_
                            refine lv_iand hx hb d_Mod_linkMember_278 ?_
                            obtain ⟨x216, ex216⟩ : ∃ z : Int32, x215 &&& 1280 = z := ⟨_, rfl⟩
                            refine tw_ri (e2 := x216) ex216 ?_
                            refine lv_if_eq (tgt := 286) hx hb d_Mod_linkMember_279 (by decide) (fun h279 => ?_) (fun h279 => ?_)
                            · refine lv_iconst (v := 0) hx hb d_Mod_linkMember_286 (by decide) ?_
                              refine lv_icmp_ne (tgt := 302) hx hb d_Mod_linkMember_287 (by decide) (fun h287 => ?_) (fun h287 => ?_)
                              · exact tw_vret E hS (fa9, fp9) (⟨(fun h => absurd h (fun h => hp205_0 (hc9 h))), (fun h => absurd h (fun h => hp205_0 (hc9 h)))⟩) hP hD d_Mod_linkMember_302
                              · refine lv_aload_n hx hb d_Mod_linkMember_290 rfl (lv_at hl 4 rfl) ?_
                                refine lv_bipush (v := 12) hx hb d_Mod_linkMember_291 (by decide) ?_
                                refine lv_aload_n hx hb d_Mod_linkMember_293 rfl (lv_at hl 4 rfl) ?_
                                refine va_get (D := g.1) (ci := 10) (v := .ref (q 28)) (C := R_Mod) (T := F_Mod) (N := 61) hx hb hts in_Mod hown hK hP 0 rfl rfl 28 (by decide) (hts _ wd_1278) (fun _ h9 => h9) rfl d_Mod_linkMember_294 ?_
                                refine lv_iload_n hx hb d_Mod_linkMember_297 rfl (lv_at hl 5 rfl) ?_
                                refine va_iald hx hb hK hP 6 0 rfl rfl (vp_in_nI (by omega) (by decide)) d_Mod_linkMember_298 ?_
                                obtain ⟨x217, ex217⟩ : ∃ z : Int32, pl ((nI mi).toNatClampNeg) = z := ⟨_, rfl⟩
                                refine tw_ri (e2 := x217) ex217 ?_
                                refine tw_wv (wr := [((q 2), aI g 600 bs), ((q 14), aI g 620 tg), ((q 16), aI g 620 on), ((q 17), aI g 620 tw), ((q 27), aI g 160 fl), ((q 28), aI g 160 pl), ((q 29), aI g 160 na), ((q 30), aI g 160 ty), ((q 31), aI g 160 ca)]) (tw_runV (ws := [(h0, .inr (10, mob q rf n mm mb fa9 fp9 av ev wi mn tp tc sc nf fd me mp xn mt wh tq ag an ig)), ((q 2), aI g 600 bs), ((q 14), aI g 620 tg), ((q 16), aI g 620 on), ((q 17), aI g 620 tw), ((q 27), aI g 160 fl), ((q 28), aI g 160 pl), ((q 29), aI g 160 na), ((q 30), aI g 160 ty), ((q 31), aI g 160 ca)]) (wc := [(h0, .inr (10, mob q rf n mm mb fa9 fp9 av ev wi mn tp tc sc nf fd me mp xn mt wh tq ag an ig))]) (As := [.int 12, .int x217]) (rest := []) E hB hK hZ (g_Mod_fail l g H.size h0 q rf n mm mb av ev wi mn tp tc sc nf fd me mp xn mt wh tq ag an ig fa9 fp9 12 x217 (by decide)) mc_Mod_fail mi_Mod_fail me_Mod_fail wd_1478 hP hD hS hA [0] rfl (by decide) 0 rfl rfl rfl rfl rfl (by decide) rfl hl.1 rfl (Nat.le_of_ble_eq_true rfl) (by decide) d_Mod_linkMember_299) hP hD hS hA [0] [1, 2, 3, 4, 5, 6, 7, 8, 9] rfl rfl (by decide) (by decide) (fun u219 H locs hr218 hP hD hS => ?_)
                                try dsimp only at hr218
                                have hP : va_P g.1 classes [((q 2), aI g 600 bs), ((q 14), aI g 620 tg), ((q 16), aI g 620 on), ((q 17), aI g 620 tw), ((q 27), aI g 160 fl), ((q 28), aI g 160 pl), ((q 29), aI g 160 na), ((q 30), aI g 160 ty), ((q 31), aI g 160 ca), (h0, .inr (10, mob q rf n mm mb u219.1 u219.2 av ev wi mn tp tc sc nf fd me mp xn mt wh tq ag an ig))] H := hP
                                have hD : va_D A [((q 2), aI g 600 bs), ((q 14), aI g 620 tg), ((q 16), aI g 620 on), ((q 17), aI g 620 tw), ((q 27), aI g 160 fl), ((q 28), aI g 160 pl), ((q 29), aI g 160 na), ((q 30), aI g 160 ty), ((q 31), aI g 160 ca), (h0, .inr (10, mob q rf n mm mb u219.1 u219.2 av ev wi mn tp tc sc nf fd me mp xn mt wh tq ag an ig))] := hD
                                have hP : va_P g.1 classes [(h0, .inr (10, mob q rf n mm mb u219.1 u219.2 av ev wi mn tp tc sc nf fd me mp xn mt wh tq ag an ig)), ((q 2), aI g 600 bs), ((q 14), aI g 620 tg), ((q 16), aI g 620 on), ((q 17), aI g 620 tw), ((q 27), aI g 160 fl), ((q 28), aI g 160 pl), ((q 29), aI g 160 na), ((q 30), aI g 160 ty), ((q 31), aI g 160 ca)] H := hP.sub [9, 0, 1, 2, 3, 4, 5, 6, 7, 8] rfl
                                have hD : va_D A [(h0, .inr (10, mob q rf n mm mb u219.1 u219.2 av ev wi mn tp tc sc nf fd me mp xn mt wh tq ag an ig)), ((q 2), aI g 600 bs), ((q 14), aI g 620 tg), ((q 16), aI g 620 on), ((q 17), aI g 620 tw), ((q 27), aI g 160 fl), ((q 28), aI g 160 pl), ((q 29), aI g 160 na), ((q 30), aI g 160 ty), ((q 31), aI g 160 ca)] := hD.sub [9, 0, 1, 2, 3, 4, 5, 6, 7, 8] (by decide) rfl
                                have hp219_0 := hr218
                                exact tw_vret E hS (u219.1, u219.2) (⟨(fun h => absurd h hp219_0), (fun h => absurd h hp219_0)⟩) hP hD d_Mod_linkMember_302
                            · refine lv_iconst (v := 1) hx hb d_Mod_linkMember_282 (by decide) ?_
                              refine lv_goto (tgt := 287) hx hb d_Mod_linkMember_283 (by decide) ?_
                              refine lv_icmp_ne (tgt := 302) hx hb d_Mod_linkMember_287 (by decide) (fun h287 => ?_) (fun h287 => ?_)
                              · exact tw_vret E hS (fa9, fp9) (⟨(fun h => absurd h (fun h => hp205_0 (hc9 h))), (fun h => absurd h (fun h => hp205_0 (hc9 h)))⟩) hP hD d_Mod_linkMember_302
                              · refine lv_aload_n hx hb d_Mod_linkMember_290 rfl (lv_at hl 4 rfl) ?_
                                refine lv_bipush (v := 12) hx hb d_Mod_linkMember_291 (by decide) ?_
                                refine lv_aload_n hx hb d_Mod_linkMember_293 rfl (lv_at hl 4 rfl) ?_
                                refine va_get (D := g.1) (ci := 10) (v := .ref (q 28)) (C := R_Mod) (T := F_Mod) (N := 61) hx hb hts in_Mod hown hK hP 0 rfl rfl 28 (by decide) (hts _ wd_1278) (fun _ h9 => h9) rfl d_Mod_linkMember_294 ?_
                                refine lv_iload_n hx hb d_Mod_linkMember_297 rfl (lv_at hl 5 rfl) ?_
                                refine va_iald hx hb hK hP 6 0 rfl rfl (vp_in_nI (by omega) (by decide)) d_Mod_linkMember_298 ?_
                                obtain ⟨x220, ex220⟩ : ∃ z : Int32, pl ((nI mi).toNatClampNeg) = z := ⟨_, rfl⟩
                                refine tw_ri (e2 := x220) ex220 ?_
                                refine tw_wv (wr := [((q 2), aI g 600 bs), ((q 14), aI g 620 tg), ((q 16), aI g 620 on), ((q 17), aI g 620 tw), ((q 27), aI g 160 fl), ((q 28), aI g 160 pl), ((q 29), aI g 160 na), ((q 30), aI g 160 ty), ((q 31), aI g 160 ca)]) (tw_runV (ws := [(h0, .inr (10, mob q rf n mm mb fa9 fp9 av ev wi mn tp tc sc nf fd me mp xn mt wh tq ag an ig)), ((q 2), aI g 600 bs), ((q 14), aI g 620 tg), ((q 16), aI g 620 on), ((q 17), aI g 620 tw), ((q 27), aI g 160 fl), ((q 28), aI g 160 pl), ((q 29), aI g 160 na), ((q 30), aI g 160 ty), ((q 31), aI g 160 ca)]) (wc := [(h0, .inr (10, mob q rf n mm mb fa9 fp9 av ev wi mn tp tc sc nf fd me mp xn mt wh tq ag an ig))]) (As := [.int 12, .int x220]) (rest := []) E hB hK hZ (g_Mod_fail l g H.size h0 q rf n mm mb av ev wi mn tp tc sc nf fd me mp xn mt wh tq ag an ig fa9 fp9 12 x220 (by decide)) mc_Mod_fail mi_Mod_fail me_Mod_fail wd_1478 hP hD hS hA [0] rfl (by decide) 0 rfl rfl rfl rfl rfl (by decide) rfl hl.1 rfl (Nat.le_of_ble_eq_true rfl) (by decide) d_Mod_linkMember_299) hP hD hS hA [0] [1, 2, 3, 4, 5, 6, 7, 8, 9] rfl rfl (by decide) (by decide) (fun u222 H locs hr221 hP hD hS => ?_)
                                try dsimp only at hr221
                                have hP : va_P g.1 classes [((q 2), aI g 600 bs), ((q 14), aI g 620 tg), ((q 16), aI g 620 on), ((q 17), aI g 620 tw), ((q 27), aI g 160 fl), ((q 28), aI g 160 pl), ((q 29), aI g 160 na), ((q 30), aI g 160 ty), ((q 31), aI g 160 ca), (h0, .inr (10, mob q rf n mm mb u222.1 u222.2 av ev wi mn tp tc sc nf fd me mp xn mt wh tq ag an ig))] H := hP
                                have hD : va_D A [((q 2), aI g 600 bs), ((q 14), aI g 620 tg), ((q 16), aI g 620 on), ((q 17), aI g 620 tw), ((q 27), aI g 160 fl), ((q 28), aI g 160 pl), ((q 29), aI g 160 na), ((q 30), aI g 160 ty), ((q 31), aI g 160 ca), (h0, .inr (10, mob q rf n mm mb u222.1 u222.2 av ev wi mn tp tc sc nf fd me mp xn mt wh tq ag an ig))] := hD
                                have hP : va_P g.1 classes [(h0, .inr (10, mob q rf n mm mb u222.1 u222.2 av ev wi mn tp tc sc nf fd me mp xn mt wh tq ag an ig)), ((q 2), aI g 600 bs), ((q 14), aI g 620 tg), ((q 16), aI g 620 on), ((q 17), aI g 620 tw), ((q 27), aI g 160 fl), ((q 28), aI g 160 pl), ((q 29), aI g 160 na), ((q 30), aI g 160 ty), ((q 31), aI g 160 ca)] H := hP.sub [9, 0, 1, 2, 3, 4, 5, 6, 7, 8] rfl
                                have hD : va_D A [(h0, .inr (10, mob q rf n mm mb u222.1 u222.2 av ev wi mn tp tc sc nf fd me mp xn mt wh tq ag an ig)), ((q 2), aI g 600 bs), ((q 14), aI g 620 tg), ((q 16), aI g 620 on), ((q 17), aI g 620 tw), ((q 27), aI g 160 fl), ((q 28), aI g 160 pl), ((q 29), aI g 160 na), ((q 30), aI g 160 ty), ((q 31), aI g 160 ca)] := hD.sub [9, 0, 1, 2, 3, 4, 5, 6, 7, 8] (by decide) rfl
                                have hp222_0 := hr221
                                exact tw_vret E hS (u222.1, u222.2) (⟨(fun h => absurd h hp222_0), (fun h => absurd h hp222_0)⟩) hP hD d_Mod_linkMember_302
                      · have h199 := tn_nle h199 (by omega) (by omega)
                        obtain ⟨⟨i1, u0, u1, u2, ut⟩, ⟨i2, pi2, li2, v0, v1, v2, vt, v3, v4, v5, v6⟩⟩ := hLM i h199
                        obtain ⟨pi1, li1, u3, u4, u5⟩ := hTX i1 (by omega) ut
                        refine lv_aload_n hx hb d_Mod_linkMember_202 rfl (lv_at hl 4 rfl) ?_
                        refine lv_aload_n hx hb d_Mod_linkMember_203 rfl (lv_at hl 4 rfl) ?_
                        refine va_get (D := g.1) (ci := 10) (v := .ref (q 29)) (C := R_Mod) (T := F_Mod) (N := 61) hx hb hts in_Mod hown hK hP 0 rfl rfl 29 (by decide) (hts _ wd_1279) (fun _ h9 => h9) rfl d_Mod_linkMember_204 ?_
                        refine lv_iload hx hb d_Mod_linkMember_207 (lv_at hl 0 rfl) ?_
                        refine va_iald hx hb hK hP 7 0 rfl rfl (vp_in_nI (by omega) (by decide)) d_Mod_linkMember_209 ?_
                        refine tw_ri (e2 := nI i1) (by rw [nI_clamp (by omega)]; exact u2) ?_
                        refine lv_iload_n hx hb d_Mod_linkMember_210 rfl (lv_at hl 2 rfl) ?_
                        refine tw_si (tw_runV (ws := [(h0, .inr (10, mob q rf n mm mb fa9 fp9 av ev wi mn tp tc sc nf fd me mp xn mt wh tq ag an ig)), ((q 2), aI g 600 bs), ((q 14), aI g 620 tg), ((q 16), aI g 620 on), ((q 17), aI g 620 tw), ((q 27), aI g 160 fl), ((q 28), aI g 160 pl), ((q 29), aI g 160 na), ((q 30), aI g 160 ty), ((q 31), aI g 160 ca)]) (wc := [(h0, .inr (10, mob q rf n mm mb fa9 fp9 av ev wi mn tp tc sc nf fd me mp xn mt wh tq ag an ig)), ((q 2), aI g 600 bs), ((q 16), aI g 620 on), ((q 17), aI g 620 tw)]) (As := [.int (nI i1), .int (nI jn)]) (rest := []) E hB hK hZ (g_Mod_sameTexts l g H.size h0 q rf n mm mb fa9 fp9 av ev wi mn tp tc sc nf fd me mp xn mt wh tq ag an ig bs on tw i1 jn pi1 li1 pn ln1 (by omega) u3 u4 u5 (by omega) pna pnb pnc) mc_Mod_sameTexts mi_Mod_sameTexts me_Mod_sameTexts wd_1579 hP hD hS hA [0, 1, 3, 4] rfl (by decide) 0 rfl rfl rfl rfl rfl (by decide) rfl hl.1 rfl (Nat.le_of_ble_eq_true rfl) (by decide) d_Mod_linkMember_211) (fun r223 hr223 => ?_)
                        have hB223 := hr223
                        refine lv_if_eq (tgt := 245) hx hb d_Mod_linkMember_214 (by decide) (fun h214 => ?_) (fun h214 => ?_)
                        · refine lv_iinc (k := 0) (v := nI (i + 1)) hx hb d_Mod_linkMember_245 hl rfl ((nI_succ i).symm) (by decide) rfl (fun ls hl => ?_)
                          have hl : lv_has ls 6 [(5, .int (nI (i + 1))), (4, .int (nI jt)), (3, .int (nI jn)), (2, .int 1), (0, .ref h0), (1, .int (nI mi))] := hl
                          refine lv_goto (tgt := 196) hx hb d_Mod_linkMember_248 (by decide) ?_
                          have hP : va_P g.1 classes [(h0, .inr (10, mob q rf n mm mb fa9 fp9 av ev wi mn tp tc sc nf fd me mp xn mt wh tq ag an ig)), ((q 2), aI g 600 bs), ((q 14), aI g 620 tg), ((q 16), aI g 620 on), ((q 17), aI g 620 tw), ((q 27), aI g 160 fl), ((q 28), aI g 160 pl), ((q 29), aI g 160 na), ((q 30), aI g 160 ty), ((q 31), aI g 160 ca)] H := hP.sub [0, 1, 2, 3, 4, 5, 6, 7, 8, 9] rfl
                          have hD : va_D A [(h0, .inr (10, mob q rf n mm mb fa9 fp9 av ev wi mn tp tc sc nf fd me mp xn mt wh tq ag an ig)), ((q 2), aI g 600 bs), ((q 14), aI g 620 tg), ((q 16), aI g 620 on), ((q 17), aI g 620 tw), ((q 27), aI g 160 fl), ((q 28), aI g 160 pl), ((q 29), aI g 160 na), ((q 30), aI g 160 ty), ((q 31), aI g 160 ca)] := hD.sub [0, 1, 2, 3, 4, 5, 6, 7, 8, 9] (by decide) rfl
                          exact ih _ (by omega) (i + 1) fa9 fp9 ls _ _ rfl (fun h => absurd h (fun h => hp205_0 (hc9 h))) (by omega) (lv_sub hl [0, 1, 2, 3, 4, 5] rfl) hP hD hS
                        · refine lv_aload_n hx hb d_Mod_linkMember_217 rfl (lv_at hl 4 rfl) ?_
                          refine lv_aload_n hx hb d_Mod_linkMember_218 rfl (lv_at hl 4 rfl) ?_
                          refine va_get (D := g.1) (ci := 10) (v := .ref (q 30)) (C := R_Mod) (T := F_Mod) (N := 61) hx hb hts in_Mod hown hK hP 0 rfl rfl 30 (by decide) (hts _ wd_1280) (fun _ h9 => h9) rfl d_Mod_linkMember_219 ?_
                          refine lv_iload hx hb d_Mod_linkMember_222 (lv_at hl 0 rfl) ?_
                          refine va_iald hx hb hK hP 8 0 rfl rfl (vp_in_nI (by omega) (by decide)) d_Mod_linkMember_224 ?_
                          refine tw_ri (e2 := nI i2) (by rw [nI_clamp (by omega)]; exact v2) ?_
                          refine lv_iload hx hb d_Mod_linkMember_225 (lv_at hl 1 rfl) ?_
                          refine tw_si (tw_runV (ws := [(h0, .inr (10, mob q rf n mm mb fa9 fp9 av ev wi mn tp tc sc nf fd me mp xn mt wh tq ag an ig)), ((q 2), aI g 600 bs), ((q 14), aI g 620 tg), ((q 16), aI g 620 on), ((q 17), aI g 620 tw), ((q 27), aI g 160 fl), ((q 28), aI g 160 pl), ((q 29), aI g 160 na), ((q 30), aI g 160 ty), ((q 31), aI g 160 ca)]) (wc := [(h0, .inr (10, mob q rf n mm mb fa9 fp9 av ev wi mn tp tc sc nf fd me mp xn mt wh tq ag an ig)), ((q 2), aI g 600 bs), ((q 16), aI g 620 on), ((q 17), aI g 620 tw)]) (As := [.int (nI i2), .int (nI jt)]) (rest := []) E hB hK hZ (g_Mod_sameTexts l g H.size h0 q rf n mm mb fa9 fp9 av ev wi mn tp tc sc nf fd me mp xn mt wh tq ag an ig bs on tw i2 jt pi2 li2 pt lt1 (by omega) v3 v4 v5 (by omega) pta ptb ptc) mc_Mod_sameTexts mi_Mod_sameTexts me_Mod_sameTexts wd_1579 hP hD hS hA [0, 1, 3, 4] rfl (by decide) 0 rfl rfl rfl rfl rfl (by decide) rfl hl.1 rfl (Nat.le_of_ble_eq_true rfl) (by decide) d_Mod_linkMember_227) (fun r224 hr224 => ?_)
                          have hB224 := hr224
                          refine lv_if_eq (tgt := 245) hx hb d_Mod_linkMember_230 (by decide) (fun h230 => ?_) (fun h230 => ?_)
                          · refine lv_iinc (k := 0) (v := nI (i + 1)) hx hb d_Mod_linkMember_245 hl rfl ((nI_succ i).symm) (by decide) rfl (fun ls hl => ?_)
                            have hl : lv_has ls 6 [(5, .int (nI (i + 1))), (4, .int (nI jt)), (3, .int (nI jn)), (2, .int 1), (0, .ref h0), (1, .int (nI mi))] := hl
                            refine lv_goto (tgt := 196) hx hb d_Mod_linkMember_248 (by decide) ?_
                            have hP : va_P g.1 classes [(h0, .inr (10, mob q rf n mm mb fa9 fp9 av ev wi mn tp tc sc nf fd me mp xn mt wh tq ag an ig)), ((q 2), aI g 600 bs), ((q 14), aI g 620 tg), ((q 16), aI g 620 on), ((q 17), aI g 620 tw), ((q 27), aI g 160 fl), ((q 28), aI g 160 pl), ((q 29), aI g 160 na), ((q 30), aI g 160 ty), ((q 31), aI g 160 ca)] H := hP.sub [0, 1, 2, 3, 4, 5, 6, 7, 8, 9] rfl
                            have hD : va_D A [(h0, .inr (10, mob q rf n mm mb fa9 fp9 av ev wi mn tp tc sc nf fd me mp xn mt wh tq ag an ig)), ((q 2), aI g 600 bs), ((q 14), aI g 620 tg), ((q 16), aI g 620 on), ((q 17), aI g 620 tw), ((q 27), aI g 160 fl), ((q 28), aI g 160 pl), ((q 29), aI g 160 na), ((q 30), aI g 160 ty), ((q 31), aI g 160 ca)] := hD.sub [0, 1, 2, 3, 4, 5, 6, 7, 8, 9] (by decide) rfl
                            exact ih _ (by omega) (i + 1) fa9 fp9 ls _ _ rfl (fun h => absurd h (fun h => hp205_0 (hc9 h))) (by omega) (lv_sub hl [0, 1, 2, 3, 4, 5] rfl) hP hD hS
                          · refine lv_aload_n hx hb d_Mod_linkMember_233 rfl (lv_at hl 4 rfl) ?_
                            refine lv_bipush (v := 7) hx hb d_Mod_linkMember_234 (by decide) ?_
                            refine lv_aload_n hx hb d_Mod_linkMember_236 rfl (lv_at hl 4 rfl) ?_
                            refine va_get (D := g.1) (ci := 10) (v := .ref (q 28)) (C := R_Mod) (T := F_Mod) (N := 61) hx hb hts in_Mod hown hK hP 0 rfl rfl 28 (by decide) (hts _ wd_1278) (fun _ h9 => h9) rfl d_Mod_linkMember_237 ?_
                            refine lv_iload_n hx hb d_Mod_linkMember_240 rfl (lv_at hl 5 rfl) ?_
                            refine va_iald hx hb hK hP 6 0 rfl rfl (vp_in_nI (by omega) (by decide)) d_Mod_linkMember_241 ?_
                            obtain ⟨x225, ex225⟩ : ∃ z : Int32, pl ((nI mi).toNatClampNeg) = z := ⟨_, rfl⟩
                            refine tw_ri (e2 := x225) ex225 ?_
                            refine tw_wv (wr := [((q 2), aI g 600 bs), ((q 14), aI g 620 tg), ((q 16), aI g 620 on), ((q 17), aI g 620 tw), ((q 27), aI g 160 fl), ((q 28), aI g 160 pl), ((q 29), aI g 160 na), ((q 30), aI g 160 ty), ((q 31), aI g 160 ca)]) (tw_runV (ws := [(h0, .inr (10, mob q rf n mm mb fa9 fp9 av ev wi mn tp tc sc nf fd me mp xn mt wh tq ag an ig)), ((q 2), aI g 600 bs), ((q 14), aI g 620 tg), ((q 16), aI g 620 on), ((q 17), aI g 620 tw), ((q 27), aI g 160 fl), ((q 28), aI g 160 pl), ((q 29), aI g 160 na), ((q 30), aI g 160 ty), ((q 31), aI g 160 ca)]) (wc := [(h0, .inr (10, mob q rf n mm mb fa9 fp9 av ev wi mn tp tc sc nf fd me mp xn mt wh tq ag an ig))]) (As := [.int 7, .int x225]) (rest := []) E hB hK hZ (g_Mod_fail l g H.size h0 q rf n mm mb av ev wi mn tp tc sc nf fd me mp xn mt wh tq ag an ig fa9 fp9 7 x225 (by decide)) mc_Mod_fail mi_Mod_fail me_Mod_fail wd_1478 hP hD hS hA [0] rfl (by decide) 0 rfl rfl rfl rfl rfl (by decide) rfl hl.1 rfl (Nat.le_of_ble_eq_true rfl) (by decide) d_Mod_linkMember_242) hP hD hS hA [0] [1, 2, 3, 4, 5, 6, 7, 8, 9] rfl rfl (by decide) (by decide) (fun u227 H locs hr226 hP hD hS => ?_)
                            try dsimp only at hr226
                            have hP : va_P g.1 classes [((q 2), aI g 600 bs), ((q 14), aI g 620 tg), ((q 16), aI g 620 on), ((q 17), aI g 620 tw), ((q 27), aI g 160 fl), ((q 28), aI g 160 pl), ((q 29), aI g 160 na), ((q 30), aI g 160 ty), ((q 31), aI g 160 ca), (h0, .inr (10, mob q rf n mm mb u227.1 u227.2 av ev wi mn tp tc sc nf fd me mp xn mt wh tq ag an ig))] H := hP
                            have hD : va_D A [((q 2), aI g 600 bs), ((q 14), aI g 620 tg), ((q 16), aI g 620 on), ((q 17), aI g 620 tw), ((q 27), aI g 160 fl), ((q 28), aI g 160 pl), ((q 29), aI g 160 na), ((q 30), aI g 160 ty), ((q 31), aI g 160 ca), (h0, .inr (10, mob q rf n mm mb u227.1 u227.2 av ev wi mn tp tc sc nf fd me mp xn mt wh tq ag an ig))] := hD
                            have hP : va_P g.1 classes [(h0, .inr (10, mob q rf n mm mb u227.1 u227.2 av ev wi mn tp tc sc nf fd me mp xn mt wh tq ag an ig)), ((q 2), aI g 600 bs), ((q 14), aI g 620 tg), ((q 16), aI g 620 on), ((q 17), aI g 620 tw), ((q 27), aI g 160 fl), ((q 28), aI g 160 pl), ((q 29), aI g 160 na), ((q 30), aI g 160 ty), ((q 31), aI g 160 ca)] H := hP.sub [9, 0, 1, 2, 3, 4, 5, 6, 7, 8] rfl
                            have hD : va_D A [(h0, .inr (10, mob q rf n mm mb u227.1 u227.2 av ev wi mn tp tc sc nf fd me mp xn mt wh tq ag an ig)), ((q 2), aI g 600 bs), ((q 14), aI g 620 tg), ((q 16), aI g 620 on), ((q 17), aI g 620 tw), ((q 27), aI g 160 fl), ((q 28), aI g 160 pl), ((q 29), aI g 160 na), ((q 30), aI g 160 ty), ((q 31), aI g 160 ca)] := hD.sub [9, 0, 1, 2, 3, 4, 5, 6, 7, 8] (by decide) rfl
                            have hp227_0 := hr226
                            refine lv_iinc (k := 0) (v := nI (i + 1)) hx hb d_Mod_linkMember_245 hl rfl ((nI_succ i).symm) (by decide) rfl (fun ls hl => ?_)
                            have hl : lv_has ls 6 [(5, .int (nI (i + 1))), (4, .int (nI jt)), (3, .int (nI jn)), (2, .int 1), (0, .ref h0), (1, .int (nI mi))] := hl
                            refine lv_goto (tgt := 196) hx hb d_Mod_linkMember_248 (by decide) ?_
                            have hP : va_P g.1 classes [(h0, .inr (10, mob q rf n mm mb u227.1 u227.2 av ev wi mn tp tc sc nf fd me mp xn mt wh tq ag an ig)), ((q 2), aI g 600 bs), ((q 14), aI g 620 tg), ((q 16), aI g 620 on), ((q 17), aI g 620 tw), ((q 27), aI g 160 fl), ((q 28), aI g 160 pl), ((q 29), aI g 160 na), ((q 30), aI g 160 ty), ((q 31), aI g 160 ca)] H := hP.sub [0, 1, 2, 3, 4, 5, 6, 7, 8, 9] rfl
                            have hD : va_D A [(h0, .inr (10, mob q rf n mm mb u227.1 u227.2 av ev wi mn tp tc sc nf fd me mp xn mt wh tq ag an ig)), ((q 2), aI g 600 bs), ((q 14), aI g 620 tg), ((q 16), aI g 620 on), ((q 17), aI g 620 tw), ((q 27), aI g 160 fl), ((q 28), aI g 160 pl), ((q 29), aI g 160 na), ((q 30), aI g 160 ty), ((q 31), aI g 160 ca)] := hD.sub [0, 1, 2, 3, 4, 5, 6, 7, 8, 9] (by decide) rfl
                            exact ih _ (by omega) (i + 1) u227.1 u227.2 ls _ _ rfl (fun h => absurd h hp227_0) (by omega) (lv_sub hl [0, 1, 2, 3, 4, 5] rfl) hP hD hS
                  exact loop196 _ fd u205.1 u205.2 ls _ _ rfl (fun h => h) (by omega) (hl) hP hD hS
      · refine lv_aload_n hx hb d_Mod_linkMember_42 rfl (lv_at hl 1 rfl) ?_
        refine lv_bipush (v := 6) hx hb d_Mod_linkMember_43 (by decide) ?_
        refine lv_aload_n hx hb d_Mod_linkMember_45 rfl (lv_at hl 1 rfl) ?_
        refine va_get (D := g.1) (ci := 10) (v := .ref (q 28)) (C := R_Mod) (T := F_Mod) (N := 61) hx hb hts in_Mod hown hK hP 0 rfl rfl 28 (by decide) (hts _ wd_1278) (fun _ h9 => h9) rfl d_Mod_linkMember_46 ?_
        refine lv_iload_n hx hb d_Mod_linkMember_49 rfl (lv_at hl 2 rfl) ?_
        refine va_iald hx hb hK hP 6 0 rfl rfl (vp_in_nI (by omega) (by decide)) d_Mod_linkMember_50 ?_
        obtain ⟨x228, ex228⟩ : ∃ z : Int32, pl ((nI mi).toNatClampNeg) = z := ⟨_, rfl⟩
        refine tw_ri (e2 := x228) ex228 ?_
        refine tw_wv (wr := [((q 2), aI g 600 bs), ((q 14), aI g 620 tg), ((q 16), aI g 620 on), ((q 17), aI g 620 tw), ((q 27), aI g 160 fl), ((q 28), aI g 160 pl), ((q 29), aI g 160 na), ((q 30), aI g 160 ty), ((q 31), aI g 160 ca)]) (tw_runV (ws := [(h0, .inr (10, mob q rf n mm mb fa fp av ev wi mn tp tc sc nf fd me mp xn mt wh tq ag an ig)), ((q 2), aI g 600 bs), ((q 14), aI g 620 tg), ((q 16), aI g 620 on), ((q 17), aI g 620 tw), ((q 27), aI g 160 fl), ((q 28), aI g 160 pl), ((q 29), aI g 160 na), ((q 30), aI g 160 ty), ((q 31), aI g 160 ca)]) (wc := [(h0, .inr (10, mob q rf n mm mb fa fp av ev wi mn tp tc sc nf fd me mp xn mt wh tq ag an ig))]) (As := [.int 6, .int x228]) (rest := []) E hB hK hZ (g_Mod_fail l g H.size h0 q rf n mm mb av ev wi mn tp tc sc nf fd me mp xn mt wh tq ag an ig fa fp 6 x228 (by decide)) mc_Mod_fail mi_Mod_fail me_Mod_fail wd_1478 hP hD hS hA [0] rfl (by decide) 0 rfl rfl rfl rfl rfl (by decide) rfl hl.1 rfl (Nat.le_of_ble_eq_true rfl) (by decide) d_Mod_linkMember_51) hP hD hS hA [0] [1, 2, 3, 4, 5, 6, 7, 8, 9] rfl rfl (by decide) (by decide) (fun u230 H locs hr229 hP hD hS => ?_)
        try dsimp only at hr229
        have hP : va_P g.1 classes [((q 2), aI g 600 bs), ((q 14), aI g 620 tg), ((q 16), aI g 620 on), ((q 17), aI g 620 tw), ((q 27), aI g 160 fl), ((q 28), aI g 160 pl), ((q 29), aI g 160 na), ((q 30), aI g 160 ty), ((q 31), aI g 160 ca), (h0, .inr (10, mob q rf n mm mb u230.1 u230.2 av ev wi mn tp tc sc nf fd me mp xn mt wh tq ag an ig))] H := hP
        have hD : va_D A [((q 2), aI g 600 bs), ((q 14), aI g 620 tg), ((q 16), aI g 620 on), ((q 17), aI g 620 tw), ((q 27), aI g 160 fl), ((q 28), aI g 160 pl), ((q 29), aI g 160 na), ((q 30), aI g 160 ty), ((q 31), aI g 160 ca), (h0, .inr (10, mob q rf n mm mb u230.1 u230.2 av ev wi mn tp tc sc nf fd me mp xn mt wh tq ag an ig))] := hD
        have hP : va_P g.1 classes [(h0, .inr (10, mob q rf n mm mb u230.1 u230.2 av ev wi mn tp tc sc nf fd me mp xn mt wh tq ag an ig)), ((q 2), aI g 600 bs), ((q 14), aI g 620 tg), ((q 16), aI g 620 on), ((q 17), aI g 620 tw), ((q 27), aI g 160 fl), ((q 28), aI g 160 pl), ((q 29), aI g 160 na), ((q 30), aI g 160 ty), ((q 31), aI g 160 ca)] H := hP.sub [9, 0, 1, 2, 3, 4, 5, 6, 7, 8] rfl
        have hD : va_D A [(h0, .inr (10, mob q rf n mm mb u230.1 u230.2 av ev wi mn tp tc sc nf fd me mp xn mt wh tq ag an ig)), ((q 2), aI g 600 bs), ((q 14), aI g 620 tg), ((q 16), aI g 620 on), ((q 17), aI g 620 tw), ((q 27), aI g 160 fl), ((q 28), aI g 160 pl), ((q 29), aI g 160 na), ((q 30), aI g 160 ty), ((q 31), aI g 160 ca)] := hD.sub [9, 0, 1, 2, 3, 4, 5, 6, 7, 8] (by decide) rfl
        have hp230_0 := hr229
        exact tw_vret E hS (u230.1, u230.2) (⟨(fun h => absurd h hp230_0), (fun h => absurd h hp230_0)⟩) hP hD d_Mod_linkMember_54
