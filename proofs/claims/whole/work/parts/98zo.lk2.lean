set_option maxHeartbeats 4000000 in
set_option maxRecDepth 100000 in
theorem g_Mod_linkConstant (l : Launch) (g : tw_G) (sz : Nat) (h0 : Nat) (q : Nat → Nat) (rf : Int32) (n : Nat) (mm : Int32) (mb : Int32) (av : Nat) (ev : Nat) (wi : Int32) (mn : Nat) (tp : Int32) (tc : Int32) (sc : Int32) (nf : Nat) (fd : Nat) (me : Nat) (mp : Int32) (xn : Nat) (mt : Nat) (wh : Nat) (tq : Nat) (ag : Nat) (an : Int32) (ig : Int32) (bs : Nat → Int32) (tg : Nat → Int32) (tl : Nat → Int32) (on : Nat → Int32) (tw : Nat → Int32) (fa : Int32) (fp : Int32) (k : Nat) (hmn : mn ≤ 620) (hTX : TXT tg on tw) (hk6 : k < 620) (hf0 : fa = 0) : Met l y_Mod_linkConstant [.code y_Mod_linkConstant b_Mod_linkConstant 6 none] ({ frames := 6, cells := 0, slots := 0, locals := 139 }) (tw_P g [.ref h0, .int (nI k)] [(h0, .inr (10, mob q rf n mm mb fa fp av ev wi mn tp tc sc nf fd me mp xn mt wh tq ag an ig)), ((q 2), aI g 600 bs), ((q 14), aI g 620 tg), ((q 15), aI g 620 tl), ((q 16), aI g 620 on), ((q 17), aI g 620 tw)] sz) (tw_Qv g (fun (u : Int32 × Int32) => (u.1 = 0 → fa = 0) ∧ (u.1 = 0 → LC1 mn tg on tw k)) (fun u : Int32 × Int32 => [(h0, .inr (10, mob q rf n mm mb u.1 u.2 av ev wi mn tp tc sc nf fd me mp xn mt wh tq ag an ig)), ((q 2), aI g 600 bs), ((q 14), aI g 620 tg), ((q 15), aI g 620 tl), ((q 16), aI g 620 on), ((q 17), aI g 620 tw)]) (va_A [(h0, .inr (10, mob q rf n mm mb fa fp av ev wi mn tp tc sc nf fd me mp xn mt wh tq ag an ig)), ((q 2), aI g 600 bs), ((q 14), aI g 620 tg), ((q 15), aI g 620 tl), ((q 16), aI g 620 on), ((q 17), aI g 620 tw)] sz)) 0 0 (va_A [(h0, .inr (10, mob q rf n mm mb fa fp av ev wi mn tp tc sc nf fd me mp xn mt wh tq ag an ig)), ((q 2), aI g 600 bs), ((q 14), aI g 620 tg), ((q 15), aI g 620 tl), ((q 16), aI g 620 on), ((q 17), aI g 620 tw)] sz) := by
  refine tw_metW (l := l) (g := g) (y := y_Mod_linkConstant) (cc := b_Mod_linkConstant) (maxL := 6) (ret := none) (rm := { frames := 6, cells := 0, slots := 0, locals := 139 }) (mc := 0) (ms := 0) (av := [.ref h0, .int (nI k)]) (ws := [(h0, .inr (10, mob q rf n mm mb fa fp av ev wi mn tp tc sc nf fd me mp xn mt wh tq ag an ig)), ((q 2), aI g 600 bs), ((q 14), aI g 620 tg), ((q 15), aI g 620 tl), ((q 16), aI g 620 on), ((q 17), aI g 620 tw)]) (sz := sz) (Qc := fun A => (tw_Qv g (fun (u : Int32 × Int32) => (u.1 = 0 → fa = 0) ∧ (u.1 = 0 → LC1 mn tg on tw k)) (fun u : Int32 × Int32 => [(h0, .inr (10, mob q rf n mm mb u.1 u.2 av ev wi mn tp tc sc nf fd me mp xn mt wh tq ag an ig)), ((q 2), aI g 600 bs), ((q 14), aI g 620 tg), ((q 15), aI g 620 tl), ((q 16), aI g 620 on), ((q 17), aI g 620 tw)]) A)) (by decide) (Nat.le_of_ble_eq_true rfl) ?_
  intro p e s m below meth c ls H A E hB hK hZ hP hD hS hA hl
  obtain ⟨hx, hb, hml, hr, hown, hts, hlocks, hin⟩ := id E
  have hl : lv_has ls 6 [(0, .ref h0), (1, .int (nI k))] := hl
  refine lv_aload_n hx hb d_Mod_linkConstant_0 rfl (lv_at hl 0 rfl) ?_
  refine va_get (D := g.1) (ci := 10) (v := .ref (q 14)) (C := R_Mod) (T := F_Mod) (N := 61) hx hb hts in_Mod hown hK hP 0 rfl rfl 14 (by decide) (hts _ wd_1264) (fun _ h9 => h9) rfl d_Mod_linkConstant_1 ?_
  refine lv_iload_n hx hb d_Mod_linkConstant_4 rfl (lv_at hl 1 rfl) ?_
  refine va_iald hx hb hK hP 2 0 rfl rfl (vp_in_nI (by omega) (by decide)) d_Mod_linkConstant_5 ?_
  refine tw_ri (e2 := tg k) (by rw [nI_clamp (by omega)]) ?_
  refine lv_istore_n hx hb d_Mod_linkConstant_6 rfl hl (by decide) rfl (fun ls hl => ?_)
  have hl : lv_has ls 6 [(2, .int (tg k)), (0, .ref h0), (1, .int (nI k))] := hl
  refine lv_aload_n hx hb d_Mod_linkConstant_7 rfl (lv_at hl 1 rfl) ?_
  refine va_get (D := g.1) (ci := 10) (v := .ref (q 16)) (C := R_Mod) (T := F_Mod) (N := 61) hx hb hts in_Mod hown hK hP 0 rfl rfl 16 (by decide) (hts _ wd_1266) (fun _ h9 => h9) rfl d_Mod_linkConstant_8 ?_
  refine lv_iload_n hx hb d_Mod_linkConstant_11 rfl (lv_at hl 2 rfl) ?_
  refine va_iald hx hb hK hP 4 0 rfl rfl (vp_in_nI (by omega) (by decide)) d_Mod_linkConstant_12 ?_
  obtain ⟨xa, exa⟩ : ∃ z : Int32, on k = z := ⟨_, rfl⟩
  refine tw_ri (e2 := xa) (by rw [nI_clamp (by omega)]; exact exa) ?_
  refine lv_istore_n hx hb d_Mod_linkConstant_13 rfl hl (by decide) rfl (fun ls hl => ?_)
  have hl : lv_has ls 6 [(3, .int xa), (2, .int (tg k)), (0, .ref h0), (1, .int (nI k))] := hl
  refine lv_aload_n hx hb d_Mod_linkConstant_14 rfl (lv_at hl 2 rfl) ?_
  refine va_get (D := g.1) (ci := 10) (v := .ref (q 17)) (C := R_Mod) (T := F_Mod) (N := 61) hx hb hts in_Mod hown hK hP 0 rfl rfl 17 (by decide) (hts _ wd_1267) (fun _ h9 => h9) rfl d_Mod_linkConstant_15 ?_
  refine lv_iload_n hx hb d_Mod_linkConstant_18 rfl (lv_at hl 3 rfl) ?_
  refine va_iald hx hb hK hP 5 0 rfl rfl (vp_in_nI (by omega) (by decide)) d_Mod_linkConstant_19 ?_
  obtain ⟨xb2, exb2⟩ : ∃ z : Int32, tw k = z := ⟨_, rfl⟩
  refine tw_ri (e2 := xb2) (by rw [nI_clamp (by omega)]; exact exb2) ?_
  refine lv_istore hx hb d_Mod_linkConstant_20 hl (by decide) rfl (fun ls hl => ?_)
  have hl : lv_has ls 6 [(4, .int xb2), (3, .int xa), (2, .int (tg k)), (0, .ref h0), (1, .int (nI k))] := hl
  refine lv_iload_n hx hb d_Mod_linkConstant_22 rfl (lv_at hl 2 rfl) ?_
  refine lv_bipush (v := 7) hx hb d_Mod_linkConstant_23 (by decide) ?_
  refine lv_icmp_eq (tgt := 34) hx hb d_Mod_linkConstant_25 (by decide) (fun h25 => ?_) (fun h25 => ?_)
  · refine lv_aload_n hx hb d_Mod_linkConstant_34 rfl (lv_at hl 3 rfl) ?_
    refine lv_iload_n hx hb d_Mod_linkConstant_35 rfl (lv_at hl 1 rfl) ?_
    refine lv_iconst (v := 1) hx hb d_Mod_linkConstant_36 (by decide) ?_
    refine tw_si (tw_runV (ws := [(h0, .inr (10, mob q rf n mm mb fa fp av ev wi mn tp tc sc nf fd me mp xn mt wh tq ag an ig)), ((q 2), aI g 600 bs), ((q 14), aI g 620 tg), ((q 15), aI g 620 tl), ((q 16), aI g 620 on), ((q 17), aI g 620 tw)]) (wc := [(h0, .inr (10, mob q rf n mm mb fa fp av ev wi mn tp tc sc nf fd me mp xn mt wh tq ag an ig)), ((q 14), aI g 620 tg)]) (As := [.int xa, .int 1]) (rest := []) E hB hK hZ (g_Mod_isTagI l g H.size h0 q rf n mm mb fa fp av ev wi mn tp tc sc nf fd me mp xn mt wh tq ag an ig tg xa 1 (by omega)) mc_Mod_isTag mi_Mod_isTag me_Mod_isTag wd_1508 hP hD hS hA [0, 2] rfl (by decide) 0 rfl rfl rfl rfl rfl (by decide) rfl hl.1 rfl (Nat.le_of_ble_eq_true rfl) (by decide) d_Mod_linkConstant_37) (fun r1 hr1 => ?_)
    have hB1 := hr1
    refine lv_goto (tgt := 114) hx hb d_Mod_linkConstant_40 (by decide) ?_
    refine lv_istore hx hb d_Mod_linkConstant_114 hl (by decide) rfl (fun ls hl => ?_)
    have hl : lv_has ls 6 [(5, .int r1), (4, .int xb2), (3, .int xa), (2, .int (tg k)), (0, .ref h0), (1, .int (nI k))] := hl
    refine lv_iload hx hb d_Mod_linkConstant_116 (lv_at hl 0 rfl) ?_
    refine lv_if_ne (tgt := 136) hx hb d_Mod_linkConstant_118 (by decide) (fun h118 => ?_) (fun h118 => ?_)
    · have hT118 := hB1.2 (hB1.1.resolve_left h118)
      obtain ⟨ja, ja0, ja1, jae, jat⟩ := hT118
      subst jae
      obtain ⟨pa, la, paa, pab, pac⟩ := hTX ja (by omega) jat
      refine lv_iload_n hx hb d_Mod_linkConstant_136 rfl (lv_at hl 3 rfl) ?_
      refine lv_bipush (v := 7) hx hb d_Mod_linkConstant_137 (by decide) ?_
      refine lv_icmp_ne (tgt := 175) hx hb d_Mod_linkConstant_139 (by decide) (fun h139 => ?_) (fun h139 => ?_)
      · exact absurd h25 h139
      · refine lv_aload_n hx hb d_Mod_linkConstant_142 rfl (lv_at hl 4 rfl) ?_
        refine lv_aload_n hx hb d_Mod_linkConstant_143 rfl (lv_at hl 4 rfl) ?_
        refine va_get (D := g.1) (ci := 10) (v := .ref (q 16)) (C := R_Mod) (T := F_Mod) (N := 61) hx hb hts in_Mod hown hK hP 0 rfl rfl 16 (by decide) (hts _ wd_1266) (fun _ h9 => h9) rfl d_Mod_linkConstant_144 ?_
        refine lv_iload_n hx hb d_Mod_linkConstant_147 rfl (lv_at hl 2 rfl) ?_
        refine va_iald hx hb hK hP 4 0 rfl rfl (vp_in_nI (by omega) (by decide)) d_Mod_linkConstant_148 ?_
        refine tw_ri (e2 := nI pa) (by rw [nI_clamp (by omega)]; exact paa) ?_
        refine lv_aload_n hx hb d_Mod_linkConstant_149 rfl (lv_at hl 4 rfl) ?_
        refine lv_iload_n hx hb d_Mod_linkConstant_150 rfl (lv_at hl 2 rfl) ?_
        refine tw_si (tw_runV (ws := [(h0, .inr (10, mob q rf n mm mb fa fp av ev wi mn tp tc sc nf fd me mp xn mt wh tq ag an ig)), ((q 2), aI g 600 bs), ((q 14), aI g 620 tg), ((q 15), aI g 620 tl), ((q 16), aI g 620 on), ((q 17), aI g 620 tw)]) (wc := [(h0, .inr (10, mob q rf n mm mb fa fp av ev wi mn tp tc sc nf fd me mp xn mt wh tq ag an ig)), ((q 16), aI g 620 on), ((q 17), aI g 620 tw)]) (As := [.int (nI ja)]) (rest := [.int (nI pa), .ref h0]) E hB hK hZ (g_Mod_endOf l g H.size h0 q rf n mm mb fa fp av ev wi mn tp tc sc nf fd me mp xn mt wh tq ag an ig on tw ja pa la (by omega) paa pab pac) mc_Mod_endOf mi_Mod_endOf me_Mod_endOf wd_1536 hP hD hS hA [0, 4, 5] rfl (by decide) 0 rfl rfl rfl rfl rfl (by decide) rfl hl.1 rfl (Nat.le_of_ble_eq_true rfl) (by decide) d_Mod_linkConstant_151) (fun r2 hr2 => ?_)
        have hB2 := hr2
        subst hB2
        refine tw_si (tw_runV (ws := [(h0, .inr (10, mob q rf n mm mb fa fp av ev wi mn tp tc sc nf fd me mp xn mt wh tq ag an ig)), ((q 2), aI g 600 bs), ((q 14), aI g 620 tg), ((q 15), aI g 620 tl), ((q 16), aI g 620 on), ((q 17), aI g 620 tw)]) (wc := [(h0, .inr (10, mob q rf n mm mb fa fp av ev wi mn tp tc sc nf fd me mp xn mt wh tq ag an ig)), ((q 2), aI g 600 bs)]) (As := [.int (nI pa), .int (nI (pa + la))]) (rest := []) E hB hK hZ (g_Mod_isClassName l g H.size h0 q rf n mm mb fa fp av ev wi mn tp tc sc nf fd me mp xn mt wh tq ag an ig bs pa (pa + la) (by omega) (by omega)) mc_Mod_isClassName mi_Mod_isClassName me_Mod_isClassName wd_1540 hP hD hS hA [0, 1] rfl (by decide) 0 rfl rfl rfl rfl rfl (by decide) rfl hl.1 rfl (Nat.le_of_ble_eq_true rfl) (by decide) d_Mod_linkConstant_154) (fun r3 hr3 => ?_)
        have hB3 := hr3
        refine lv_if_ne (tgt := 175) hx hb d_Mod_linkConstant_157 (by decide) (fun h157 => ?_) (fun h157 => ?_)
        · refine lv_iload_n hx hb d_Mod_linkConstant_175 rfl (lv_at hl 3 rfl) ?_
          refine lv_bipush (v := 12) hx hb d_Mod_linkConstant_176 (by decide) ?_
          refine lv_icmp_ne (tgt := 222) hx hb d_Mod_linkConstant_178 (by decide) (fun h178 => ?_) (fun h178 => ?_)
          · refine lv_iload_n hx hb d_Mod_linkConstant_222 rfl (lv_at hl 3 rfl) ?_
            refine lv_bipush (v := 12) hx hb d_Mod_linkConstant_223 (by decide) ?_
            refine lv_icmp_ne (tgt := 280) hx hb d_Mod_linkConstant_225 (by decide) (fun h225 => ?_) (fun h225 => ?_)
            · exact tw_vret E hS (fa, fp) (⟨(fun h => h), (fun _ => by exact LC1.a h25 ⟨ja, ja0, ja1, exa, jat⟩)⟩) hP hD d_Mod_linkConstant_280
            · exact absurd (h25.symm.trans h225) (by decide)
          · exact absurd (h25.symm.trans h178) (by decide)
        · refine lv_aload_n hx hb d_Mod_linkConstant_160 rfl (lv_at hl 4 rfl) ?_
          refine lv_bipush (v := 10) hx hb d_Mod_linkConstant_161 (by decide) ?_
          refine lv_aload_n hx hb d_Mod_linkConstant_163 rfl (lv_at hl 4 rfl) ?_
          refine va_get (D := g.1) (ci := 10) (v := .ref (q 15)) (C := R_Mod) (T := F_Mod) (N := 61) hx hb hts in_Mod hown hK hP 0 rfl rfl 15 (by decide) (hts _ wd_1265) (fun _ h9 => h9) rfl d_Mod_linkConstant_164 ?_
          refine lv_iload_n hx hb d_Mod_linkConstant_167 rfl (lv_at hl 5 rfl) ?_
          refine va_iald hx hb hK hP 3 0 rfl rfl (vp_in_nI (by omega) (by decide)) d_Mod_linkConstant_168 ?_
          obtain ⟨x4, ex4⟩ : ∃ z : Int32, tl ((nI k).toNatClampNeg) = z := ⟨_, rfl⟩
          refine tw_ri (e2 := x4) ex4 ?_
          refine tw_wv (wr := [((q 2), aI g 600 bs), ((q 14), aI g 620 tg), ((q 15), aI g 620 tl), ((q 16), aI g 620 on), ((q 17), aI g 620 tw)]) (tw_runV (ws := [(h0, .inr (10, mob q rf n mm mb fa fp av ev wi mn tp tc sc nf fd me mp xn mt wh tq ag an ig)), ((q 2), aI g 600 bs), ((q 14), aI g 620 tg), ((q 15), aI g 620 tl), ((q 16), aI g 620 on), ((q 17), aI g 620 tw)]) (wc := [(h0, .inr (10, mob q rf n mm mb fa fp av ev wi mn tp tc sc nf fd me mp xn mt wh tq ag an ig))]) (As := [.int 10, .int x4]) (rest := []) E hB hK hZ (g_Mod_fail l g H.size h0 q rf n mm mb av ev wi mn tp tc sc nf fd me mp xn mt wh tq ag an ig fa fp 10 x4 (by decide)) mc_Mod_fail mi_Mod_fail me_Mod_fail wd_1478 hP hD hS hA [0] rfl (by decide) 0 rfl rfl rfl rfl rfl (by decide) rfl hl.1 rfl (Nat.le_of_ble_eq_true rfl) (by decide) d_Mod_linkConstant_169) hP hD hS hA [0] [1, 2, 3, 4, 5] rfl rfl (by decide) (by decide) (fun u6 H locs hr5 hP hD hS => ?_)
          try dsimp only at hr5
          have hP : va_P g.1 classes [((q 2), aI g 600 bs), ((q 14), aI g 620 tg), ((q 15), aI g 620 tl), ((q 16), aI g 620 on), ((q 17), aI g 620 tw), (h0, .inr (10, mob q rf n mm mb u6.1 u6.2 av ev wi mn tp tc sc nf fd me mp xn mt wh tq ag an ig))] H := hP
          have hD : va_D A [((q 2), aI g 600 bs), ((q 14), aI g 620 tg), ((q 15), aI g 620 tl), ((q 16), aI g 620 on), ((q 17), aI g 620 tw), (h0, .inr (10, mob q rf n mm mb u6.1 u6.2 av ev wi mn tp tc sc nf fd me mp xn mt wh tq ag an ig))] := hD
          have hP : va_P g.1 classes [(h0, .inr (10, mob q rf n mm mb u6.1 u6.2 av ev wi mn tp tc sc nf fd me mp xn mt wh tq ag an ig)), ((q 2), aI g 600 bs), ((q 14), aI g 620 tg), ((q 15), aI g 620 tl), ((q 16), aI g 620 on), ((q 17), aI g 620 tw)] H := hP.sub [5, 0, 1, 2, 3, 4] rfl
          have hD : va_D A [(h0, .inr (10, mob q rf n mm mb u6.1 u6.2 av ev wi mn tp tc sc nf fd me mp xn mt wh tq ag an ig)), ((q 2), aI g 600 bs), ((q 14), aI g 620 tg), ((q 15), aI g 620 tl), ((q 16), aI g 620 on), ((q 17), aI g 620 tw)] := hD.sub [5, 0, 1, 2, 3, 4] (by decide) rfl
          have hp6_0 := hr5
          refine lv_goto (tgt := 280) hx hb d_Mod_linkConstant_172 (by decide) ?_
          exact tw_vret E hS (u6.1, u6.2) (⟨(fun h => absurd h hp6_0), (fun h => absurd h hp6_0)⟩) hP hD d_Mod_linkConstant_280
    · refine lv_aload_n hx hb d_Mod_linkConstant_121 rfl (lv_at hl 4 rfl) ?_
      refine lv_bipush (v := 6) hx hb d_Mod_linkConstant_122 (by decide) ?_
      refine lv_aload_n hx hb d_Mod_linkConstant_124 rfl (lv_at hl 4 rfl) ?_
      refine va_get (D := g.1) (ci := 10) (v := .ref (q 15)) (C := R_Mod) (T := F_Mod) (N := 61) hx hb hts in_Mod hown hK hP 0 rfl rfl 15 (by decide) (hts _ wd_1265) (fun _ h9 => h9) rfl d_Mod_linkConstant_125 ?_
      refine lv_iload_n hx hb d_Mod_linkConstant_128 rfl (lv_at hl 5 rfl) ?_
      refine va_iald hx hb hK hP 3 0 rfl rfl (vp_in_nI (by omega) (by decide)) d_Mod_linkConstant_129 ?_
      obtain ⟨x7, ex7⟩ : ∃ z : Int32, tl ((nI k).toNatClampNeg) = z := ⟨_, rfl⟩
      refine tw_ri (e2 := x7) ex7 ?_
      refine tw_wv (wr := [((q 2), aI g 600 bs), ((q 14), aI g 620 tg), ((q 15), aI g 620 tl), ((q 16), aI g 620 on), ((q 17), aI g 620 tw)]) (tw_runV (ws := [(h0, .inr (10, mob q rf n mm mb fa fp av ev wi mn tp tc sc nf fd me mp xn mt wh tq ag an ig)), ((q 2), aI g 600 bs), ((q 14), aI g 620 tg), ((q 15), aI g 620 tl), ((q 16), aI g 620 on), ((q 17), aI g 620 tw)]) (wc := [(h0, .inr (10, mob q rf n mm mb fa fp av ev wi mn tp tc sc nf fd me mp xn mt wh tq ag an ig))]) (As := [.int 6, .int x7]) (rest := []) E hB hK hZ (g_Mod_fail l g H.size h0 q rf n mm mb av ev wi mn tp tc sc nf fd me mp xn mt wh tq ag an ig fa fp 6 x7 (by decide)) mc_Mod_fail mi_Mod_fail me_Mod_fail wd_1478 hP hD hS hA [0] rfl (by decide) 0 rfl rfl rfl rfl rfl (by decide) rfl hl.1 rfl (Nat.le_of_ble_eq_true rfl) (by decide) d_Mod_linkConstant_130) hP hD hS hA [0] [1, 2, 3, 4, 5] rfl rfl (by decide) (by decide) (fun u9 H locs hr8 hP hD hS => ?_)
      try dsimp only at hr8
      have hP : va_P g.1 classes [((q 2), aI g 600 bs), ((q 14), aI g 620 tg), ((q 15), aI g 620 tl), ((q 16), aI g 620 on), ((q 17), aI g 620 tw), (h0, .inr (10, mob q rf n mm mb u9.1 u9.2 av ev wi mn tp tc sc nf fd me mp xn mt wh tq ag an ig))] H := hP
      have hD : va_D A [((q 2), aI g 600 bs), ((q 14), aI g 620 tg), ((q 15), aI g 620 tl), ((q 16), aI g 620 on), ((q 17), aI g 620 tw), (h0, .inr (10, mob q rf n mm mb u9.1 u9.2 av ev wi mn tp tc sc nf fd me mp xn mt wh tq ag an ig))] := hD
      have hP : va_P g.1 classes [(h0, .inr (10, mob q rf n mm mb u9.1 u9.2 av ev wi mn tp tc sc nf fd me mp xn mt wh tq ag an ig)), ((q 2), aI g 600 bs), ((q 14), aI g 620 tg), ((q 15), aI g 620 tl), ((q 16), aI g 620 on), ((q 17), aI g 620 tw)] H := hP.sub [5, 0, 1, 2, 3, 4] rfl
      have hD : va_D A [(h0, .inr (10, mob q rf n mm mb u9.1 u9.2 av ev wi mn tp tc sc nf fd me mp xn mt wh tq ag an ig)), ((q 2), aI g 600 bs), ((q 14), aI g 620 tg), ((q 15), aI g 620 tl), ((q 16), aI g 620 on), ((q 17), aI g 620 tw)] := hD.sub [5, 0, 1, 2, 3, 4] (by decide) rfl
      have hp9_0 := hr8
      refine lv_goto (tgt := 280) hx hb d_Mod_linkConstant_133 (by decide) ?_
      exact tw_vret E hS (u9.1, u9.2) (⟨(fun h => absurd h hp9_0), (fun h => absurd h hp9_0)⟩) hP hD d_Mod_linkConstant_280
  · refine lv_iload_n hx hb d_Mod_linkConstant_28 rfl (lv_at hl 2 rfl) ?_
    refine lv_bipush (v := 8) hx hb d_Mod_linkConstant_29 (by decide) ?_
    refine lv_icmp_ne (tgt := 43) hx hb d_Mod_linkConstant_31 (by decide) (fun h31 => ?_) (fun h31 => ?_)
    · refine lv_iload_n hx hb d_Mod_linkConstant_43 rfl (lv_at hl 2 rfl) ?_
      refine lv_bipush (v := 9) hx hb d_Mod_linkConstant_44 (by decide) ?_
      refine lv_icmp_eq (tgt := 55) hx hb d_Mod_linkConstant_46 (by decide) (fun h46 => ?_) (fun h46 => ?_)
      · refine lv_aload_n hx hb d_Mod_linkConstant_55 rfl (lv_at hl 3 rfl) ?_
        refine lv_iload_n hx hb d_Mod_linkConstant_56 rfl (lv_at hl 1 rfl) ?_
        refine lv_bipush (v := 7) hx hb d_Mod_linkConstant_57 (by decide) ?_
        refine tw_si (tw_runV (ws := [(h0, .inr (10, mob q rf n mm mb fa fp av ev wi mn tp tc sc nf fd me mp xn mt wh tq ag an ig)), ((q 2), aI g 600 bs), ((q 14), aI g 620 tg), ((q 15), aI g 620 tl), ((q 16), aI g 620 on), ((q 17), aI g 620 tw)]) (wc := [(h0, .inr (10, mob q rf n mm mb fa fp av ev wi mn tp tc sc nf fd me mp xn mt wh tq ag an ig)), ((q 14), aI g 620 tg)]) (As := [.int xa, .int 7]) (rest := []) E hB hK hZ (g_Mod_isTagI l g H.size h0 q rf n mm mb fa fp av ev wi mn tp tc sc nf fd me mp xn mt wh tq ag an ig tg xa 7 (by omega)) mc_Mod_isTag mi_Mod_isTag me_Mod_isTag wd_1508 hP hD hS hA [0, 2] rfl (by decide) 0 rfl rfl rfl rfl rfl (by decide) rfl hl.1 rfl (Nat.le_of_ble_eq_true rfl) (by decide) d_Mod_linkConstant_59) (fun r10 hr10 => ?_)
        have hB10 := hr10
        refine lv_if_eq (tgt := 80) hx hb d_Mod_linkConstant_62 (by decide) (fun h62 => ?_) (fun h62 => ?_)
        · refine lv_iconst (v := 0) hx hb d_Mod_linkConstant_80 (by decide) ?_
          refine lv_goto (tgt := 114) hx hb d_Mod_linkConstant_81 (by decide) ?_
          refine lv_istore hx hb d_Mod_linkConstant_114 hl (by decide) rfl (fun ls hl => ?_)
          have hl : lv_has ls 6 [(5, .int 0), (4, .int xb2), (3, .int xa), (2, .int (tg k)), (0, .ref h0), (1, .int (nI k))] := hl
          refine lv_iload hx hb d_Mod_linkConstant_116 (lv_at hl 0 rfl) ?_
          refine lv_if_ne (tgt := 136) hx hb d_Mod_linkConstant_118 (by decide) (fun h118 => ?_) (fun h118 => ?_)
          · first | exact absurd h118 (by decide) | exact absurd (by decide) h118
          · refine lv_aload_n hx hb d_Mod_linkConstant_121 rfl (lv_at hl 4 rfl) ?_
            refine lv_bipush (v := 6) hx hb d_Mod_linkConstant_122 (by decide) ?_
            refine lv_aload_n hx hb d_Mod_linkConstant_124 rfl (lv_at hl 4 rfl) ?_
            refine va_get (D := g.1) (ci := 10) (v := .ref (q 15)) (C := R_Mod) (T := F_Mod) (N := 61) hx hb hts in_Mod hown hK hP 0 rfl rfl 15 (by decide) (hts _ wd_1265) (fun _ h9 => h9) rfl d_Mod_linkConstant_125 ?_
            refine lv_iload_n hx hb d_Mod_linkConstant_128 rfl (lv_at hl 5 rfl) ?_
            refine va_iald hx hb hK hP 3 0 rfl rfl (vp_in_nI (by omega) (by decide)) d_Mod_linkConstant_129 ?_
            obtain ⟨x11, ex11⟩ : ∃ z : Int32, tl ((nI k).toNatClampNeg) = z := ⟨_, rfl⟩
            refine tw_ri (e2 := x11) ex11 ?_
            refine tw_wv (wr := [((q 2), aI g 600 bs), ((q 14), aI g 620 tg), ((q 15), aI g 620 tl), ((q 16), aI g 620 on), ((q 17), aI g 620 tw)]) (tw_runV (ws := [(h0, .inr (10, mob q rf n mm mb fa fp av ev wi mn tp tc sc nf fd me mp xn mt wh tq ag an ig)), ((q 2), aI g 600 bs), ((q 14), aI g 620 tg), ((q 15), aI g 620 tl), ((q 16), aI g 620 on), ((q 17), aI g 620 tw)]) (wc := [(h0, .inr (10, mob q rf n mm mb fa fp av ev wi mn tp tc sc nf fd me mp xn mt wh tq ag an ig))]) (As := [.int 6, .int x11]) (rest := []) E hB hK hZ (g_Mod_fail l g H.size h0 q rf n mm mb av ev wi mn tp tc sc nf fd me mp xn mt wh tq ag an ig fa fp 6 x11 (by decide)) mc_Mod_fail mi_Mod_fail me_Mod_fail wd_1478 hP hD hS hA [0] rfl (by decide) 0 rfl rfl rfl rfl rfl (by decide) rfl hl.1 rfl (Nat.le_of_ble_eq_true rfl) (by decide) d_Mod_linkConstant_130) hP hD hS hA [0] [1, 2, 3, 4, 5] rfl rfl (by decide) (by decide) (fun u13 H locs hr12 hP hD hS => ?_)
            try dsimp only at hr12
            have hP : va_P g.1 classes [((q 2), aI g 600 bs), ((q 14), aI g 620 tg), ((q 15), aI g 620 tl), ((q 16), aI g 620 on), ((q 17), aI g 620 tw), (h0, .inr (10, mob q rf n mm mb u13.1 u13.2 av ev wi mn tp tc sc nf fd me mp xn mt wh tq ag an ig))] H := hP
            have hD : va_D A [((q 2), aI g 600 bs), ((q 14), aI g 620 tg), ((q 15), aI g 620 tl), ((q 16), aI g 620 on), ((q 17), aI g 620 tw), (h0, .inr (10, mob q rf n mm mb u13.1 u13.2 av ev wi mn tp tc sc nf fd me mp xn mt wh tq ag an ig))] := hD
            have hP : va_P g.1 classes [(h0, .inr (10, mob q rf n mm mb u13.1 u13.2 av ev wi mn tp tc sc nf fd me mp xn mt wh tq ag an ig)), ((q 2), aI g 600 bs), ((q 14), aI g 620 tg), ((q 15), aI g 620 tl), ((q 16), aI g 620 on), ((q 17), aI g 620 tw)] H := hP.sub [5, 0, 1, 2, 3, 4] rfl
            have hD : va_D A [(h0, .inr (10, mob q rf n mm mb u13.1 u13.2 av ev wi mn tp tc sc nf fd me mp xn mt wh tq ag an ig)), ((q 2), aI g 600 bs), ((q 14), aI g 620 tg), ((q 15), aI g 620 tl), ((q 16), aI g 620 on), ((q 17), aI g 620 tw)] := hD.sub [5, 0, 1, 2, 3, 4] (by decide) rfl
            have hp13_0 := hr12
            refine lv_goto (tgt := 280) hx hb d_Mod_linkConstant_133 (by decide) ?_
            exact tw_vret E hS (u13.1, u13.2) (⟨(fun h => absurd h hp13_0), (fun h => absurd h hp13_0)⟩) hP hD d_Mod_linkConstant_280
        · have hT62 := hB10.2 (hB10.1.resolve_left h62)
          have hT62b : TGv mn tg 7 (on k) := by rw [exa]; exact hT62
          refine lv_aload_n hx hb d_Mod_linkConstant_65 rfl (lv_at hl 3 rfl) ?_
          refine lv_iload hx hb d_Mod_linkConstant_66 (lv_at hl 0 rfl) ?_
          refine lv_bipush (v := 12) hx hb d_Mod_linkConstant_68 (by decide) ?_
          refine tw_si (tw_runV (ws := [(h0, .inr (10, mob q rf n mm mb fa fp av ev wi mn tp tc sc nf fd me mp xn mt wh tq ag an ig)), ((q 2), aI g 600 bs), ((q 14), aI g 620 tg), ((q 15), aI g 620 tl), ((q 16), aI g 620 on), ((q 17), aI g 620 tw)]) (wc := [(h0, .inr (10, mob q rf n mm mb fa fp av ev wi mn tp tc sc nf fd me mp xn mt wh tq ag an ig)), ((q 14), aI g 620 tg)]) (As := [.int xb2, .int 12]) (rest := []) E hB hK hZ (g_Mod_isTagI l g H.size h0 q rf n mm mb fa fp av ev wi mn tp tc sc nf fd me mp xn mt wh tq ag an ig tg xb2 12 (by omega)) mc_Mod_isTag mi_Mod_isTag me_Mod_isTag wd_1508 hP hD hS hA [0, 2] rfl (by decide) 0 rfl rfl rfl rfl rfl (by decide) rfl hl.1 rfl (Nat.le_of_ble_eq_true rfl) (by decide) d_Mod_linkConstant_70) (fun r14 hr14 => ?_)
          have hB14 := hr14
          refine lv_if_eq (tgt := 80) hx hb d_Mod_linkConstant_73 (by decide) (fun h73 => ?_) (fun h73 => ?_)
          · refine lv_iconst (v := 0) hx hb d_Mod_linkConstant_80 (by decide) ?_
            refine lv_goto (tgt := 114) hx hb d_Mod_linkConstant_81 (by decide) ?_
            refine lv_istore hx hb d_Mod_linkConstant_114 hl (by decide) rfl (fun ls hl => ?_)
            have hl : lv_has ls 6 [(5, .int 0), (4, .int xb2), (3, .int xa), (2, .int (tg k)), (0, .ref h0), (1, .int (nI k))] := hl
            refine lv_iload hx hb d_Mod_linkConstant_116 (lv_at hl 0 rfl) ?_
            refine lv_if_ne (tgt := 136) hx hb d_Mod_linkConstant_118 (by decide) (fun h118 => ?_) (fun h118 => ?_)
            · first | exact absurd h118 (by decide) | exact absurd (by decide) h118
            · refine lv_aload_n hx hb d_Mod_linkConstant_121 rfl (lv_at hl 4 rfl) ?_
              refine lv_bipush (v := 6) hx hb d_Mod_linkConstant_122 (by decide) ?_
              refine lv_aload_n hx hb d_Mod_linkConstant_124 rfl (lv_at hl 4 rfl) ?_
              refine va_get (D := g.1) (ci := 10) (v := .ref (q 15)) (C := R_Mod) (T := F_Mod) (N := 61) hx hb hts in_Mod hown hK hP 0 rfl rfl 15 (by decide) (hts _ wd_1265) (fun _ h9 => h9) rfl d_Mod_linkConstant_125 ?_
              refine lv_iload_n hx hb d_Mod_linkConstant_128 rfl (lv_at hl 5 rfl) ?_
              refine va_iald hx hb hK hP 3 0 rfl rfl (vp_in_nI (by omega) (by decide)) d_Mod_linkConstant_129 ?_
              obtain ⟨x15, ex15⟩ : ∃ z : Int32, tl ((nI k).toNatClampNeg) = z := ⟨_, rfl⟩
              refine tw_ri (e2 := x15) ex15 ?_
              refine tw_wv (wr := [((q 2), aI g 600 bs), ((q 14), aI g 620 tg), ((q 15), aI g 620 tl), ((q 16), aI g 620 on), ((q 17), aI g 620 tw)]) (tw_runV (ws := [(h0, .inr (10, mob q rf n mm mb fa fp av ev wi mn tp tc sc nf fd me mp xn mt wh tq ag an ig)), ((q 2), aI g 600 bs), ((q 14), aI g 620 tg), ((q 15), aI g 620 tl), ((q 16), aI g 620 on), ((q 17), aI g 620 tw)]) (wc := [(h0, .inr (10, mob q rf n mm mb fa fp av ev wi mn tp tc sc nf fd me mp xn mt wh tq ag an ig))]) (As := [.int 6, .int x15]) (rest := []) E hB hK hZ (g_Mod_fail l g H.size h0 q rf n mm mb av ev wi mn tp tc sc nf fd me mp xn mt wh tq ag an ig fa fp 6 x15 (by decide)) mc_Mod_fail mi_Mod_fail me_Mod_fail wd_1478 hP hD hS hA [0] rfl (by decide) 0 rfl rfl rfl rfl rfl (by decide) rfl hl.1 rfl (Nat.le_of_ble_eq_true rfl) (by decide) d_Mod_linkConstant_130) hP hD hS hA [0] [1, 2, 3, 4, 5] rfl rfl (by decide) (by decide) (fun u17 H locs hr16 hP hD hS => ?_)
              try dsimp only at hr16
              have hP : va_P g.1 classes [((q 2), aI g 600 bs), ((q 14), aI g 620 tg), ((q 15), aI g 620 tl), ((q 16), aI g 620 on), ((q 17), aI g 620 tw), (h0, .inr (10, mob q rf n mm mb u17.1 u17.2 av ev wi mn tp tc sc nf fd me mp xn mt wh tq ag an ig))] H := hP
              have hD : va_D A [((q 2), aI g 600 bs), ((q 14), aI g 620 tg), ((q 15), aI g 620 tl), ((q 16), aI g 620 on), ((q 17), aI g 620 tw), (h0, .inr (10, mob q rf n mm mb u17.1 u17.2 av ev wi mn tp tc sc nf fd me mp xn mt wh tq ag an ig))] := hD
              have hP : va_P g.1 classes [(h0, .inr (10, mob q rf n mm mb u17.1 u17.2 av ev wi mn tp tc sc nf fd me mp xn mt wh tq ag an ig)), ((q 2), aI g 600 bs), ((q 14), aI g 620 tg), ((q 15), aI g 620 tl), ((q 16), aI g 620 on), ((q 17), aI g 620 tw)] H := hP.sub [5, 0, 1, 2, 3, 4] rfl
              have hD : va_D A [(h0, .inr (10, mob q rf n mm mb u17.1 u17.2 av ev wi mn tp tc sc nf fd me mp xn mt wh tq ag an ig)), ((q 2), aI g 600 bs), ((q 14), aI g 620 tg), ((q 15), aI g 620 tl), ((q 16), aI g 620 on), ((q 17), aI g 620 tw)] := hD.sub [5, 0, 1, 2, 3, 4] (by decide) rfl
              have hp17_0 := hr16
              refine lv_goto (tgt := 280) hx hb d_Mod_linkConstant_133 (by decide) ?_
              exact tw_vret E hS (u17.1, u17.2) (⟨(fun h => absurd h hp17_0), (fun h => absurd h hp17_0)⟩) hP hD d_Mod_linkConstant_280
          · have hT73 := hB14.2 (hB14.1.resolve_left h73)
            have hT73b : TGv mn tg 12 (tw k) := by rw [exb2]; exact hT73
            refine lv_iconst (v := 1) hx hb d_Mod_linkConstant_76 (by decide) ?_
            refine lv_goto (tgt := 114) hx hb d_Mod_linkConstant_77 (by decide) ?_
            refine lv_istore hx hb d_Mod_linkConstant_114 hl (by decide) rfl (fun ls hl => ?_)
            have hl : lv_has ls 6 [(5, .int 1), (4, .int xb2), (3, .int xa), (2, .int (tg k)), (0, .ref h0), (1, .int (nI k))] := hl
            refine lv_iload hx hb d_Mod_linkConstant_116 (lv_at hl 0 rfl) ?_
            refine lv_if_ne (tgt := 136) hx hb d_Mod_linkConstant_118 (by decide) (fun h118 => ?_) (fun h118 => ?_)
            · refine lv_iload_n hx hb d_Mod_linkConstant_136 rfl (lv_at hl 3 rfl) ?_
              refine lv_bipush (v := 7) hx hb d_Mod_linkConstant_137 (by decide) ?_
              refine lv_icmp_ne (tgt := 175) hx hb d_Mod_linkConstant_139 (by decide) (fun h139 => ?_) (fun h139 => ?_)
              · refine lv_iload_n hx hb d_Mod_linkConstant_175 rfl (lv_at hl 3 rfl) ?_
                refine lv_bipush (v := 12) hx hb d_Mod_linkConstant_176 (by decide) ?_
                refine lv_icmp_ne (tgt := 222) hx hb d_Mod_linkConstant_178 (by decide) (fun h178 => ?_) (fun h178 => ?_)
                · refine lv_iload_n hx hb d_Mod_linkConstant_222 rfl (lv_at hl 3 rfl) ?_
                  refine lv_bipush (v := 12) hx hb d_Mod_linkConstant_223 (by decide) ?_
                  refine lv_icmp_ne (tgt := 280) hx hb d_Mod_linkConstant_225 (by decide) (fun h225 => ?_) (fun h225 => ?_)
                  · exact tw_vret E hS (fa, fp) (⟨(fun h => h), (fun _ => by exact LC1.c h46 hT62b hT73b)⟩) hP hD d_Mod_linkConstant_280
                  · exact absurd (h46.symm.trans h225) (by decide)
                · exact absurd (h46.symm.trans h178) (by decide)
              · exact absurd (h46.symm.trans h139) (by decide)
            · first | exact absurd h118 (by decide) | exact absurd (by decide) h118
      · refine lv_iload_n hx hb d_Mod_linkConstant_49 rfl (lv_at hl 2 rfl) ?_
        refine lv_bipush (v := 10) hx hb d_Mod_linkConstant_50 (by decide) ?_
        refine lv_icmp_ne (tgt := 84) hx hb d_Mod_linkConstant_52 (by decide) (fun h52 => ?_) (fun h52 => ?_)
        · refine lv_iload_n hx hb d_Mod_linkConstant_84 rfl (lv_at hl 2 rfl) ?_
          refine lv_bipush (v := 12) hx hb d_Mod_linkConstant_85 (by decide) ?_
          refine lv_icmp_ne (tgt := 109) hx hb d_Mod_linkConstant_87 (by decide) (fun h87 => ?_) (fun h87 => ?_)
          · refine lv_iconst (v := 1) hx hb d_Mod_linkConstant_109 (by decide) ?_
            refine lv_goto (tgt := 114) hx hb d_Mod_linkConstant_110 (by decide) ?_
            refine lv_istore hx hb d_Mod_linkConstant_114 hl (by decide) rfl (fun ls hl => ?_)
            have hl : lv_has ls 6 [(5, .int 1), (4, .int xb2), (3, .int xa), (2, .int (tg k)), (0, .ref h0), (1, .int (nI k))] := hl
            refine lv_iload hx hb d_Mod_linkConstant_116 (lv_at hl 0 rfl) ?_
            refine lv_if_ne (tgt := 136) hx hb d_Mod_linkConstant_118 (by decide) (fun h118 => ?_) (fun h118 => ?_)
            · refine lv_iload_n hx hb d_Mod_linkConstant_136 rfl (lv_at hl 3 rfl) ?_
              refine lv_bipush (v := 7) hx hb d_Mod_linkConstant_137 (by decide) ?_
              refine lv_icmp_ne (tgt := 175) hx hb d_Mod_linkConstant_139 (by decide) (fun h139 => ?_) (fun h139 => ?_)
              · refine lv_iload_n hx hb d_Mod_linkConstant_175 rfl (lv_at hl 3 rfl) ?_
                refine lv_bipush (v := 12) hx hb d_Mod_linkConstant_176 (by decide) ?_
                refine lv_icmp_ne (tgt := 222) hx hb d_Mod_linkConstant_178 (by decide) (fun h178 => ?_) (fun h178 => ?_)
                · refine lv_iload_n hx hb d_Mod_linkConstant_222 rfl (lv_at hl 3 rfl) ?_
                  refine lv_bipush (v := 12) hx hb d_Mod_linkConstant_223 (by decide) ?_
                  refine lv_icmp_ne (tgt := 280) hx hb d_Mod_linkConstant_225 (by decide) (fun h225 => ?_) (fun h225 => ?_)
                  · exact tw_vret E hS (fa, fp) (⟨(fun h => h), (fun _ => by exact LC1.f h25 h31 h46 h52 h87)⟩) hP hD d_Mod_linkConstant_280
                  · exact absurd h225 h87
                · exact absurd h178 h87
              · exact absurd h139 h25
            · first | exact absurd h118 (by decide) | exact absurd (by decide) h118
          · refine lv_aload_n hx hb d_Mod_linkConstant_90 rfl (lv_at hl 3 rfl) ?_
            refine lv_iload_n hx hb d_Mod_linkConstant_91 rfl (lv_at hl 1 rfl) ?_
            refine lv_iconst (v := 1) hx hb d_Mod_linkConstant_92 (by decide) ?_
            refine tw_si (tw_runV (ws := [(h0, .inr (10, mob q rf n mm mb fa fp av ev wi mn tp tc sc nf fd me mp xn mt wh tq ag an ig)), ((q 2), aI g 600 bs), ((q 14), aI g 620 tg), ((q 15), aI g 620 tl), ((q 16), aI g 620 on), ((q 17), aI g 620 tw)]) (wc := [(h0, .inr (10, mob q rf n mm mb fa fp av ev wi mn tp tc sc nf fd me mp xn mt wh tq ag an ig)), ((q 14), aI g 620 tg)]) (As := [.int xa, .int 1]) (rest := []) E hB hK hZ (g_Mod_isTagI l g H.size h0 q rf n mm mb fa fp av ev wi mn tp tc sc nf fd me mp xn mt wh tq ag an ig tg xa 1 (by omega)) mc_Mod_isTag mi_Mod_isTag me_Mod_isTag wd_1508 hP hD hS hA [0, 2] rfl (by decide) 0 rfl rfl rfl rfl rfl (by decide) rfl hl.1 rfl (Nat.le_of_ble_eq_true rfl) (by decide) d_Mod_linkConstant_93) (fun r18 hr18 => ?_)
            have hB18 := hr18
            refine lv_if_eq (tgt := 113) hx hb d_Mod_linkConstant_96 (by decide) (fun h96 => ?_) (fun h96 => ?_)
            · refine lv_iconst (v := 0) hx hb d_Mod_linkConstant_113 (by decide) ?_
              refine lv_istore hx hb d_Mod_linkConstant_114 hl (by decide) rfl (fun ls hl => ?_)
              have hl : lv_has ls 6 [(5, .int 0), (4, .int xb2), (3, .int xa), (2, .int (tg k)), (0, .ref h0), (1, .int (nI k))] := hl
              refine lv_iload hx hb d_Mod_linkConstant_116 (lv_at hl 0 rfl) ?_
              refine lv_if_ne (tgt := 136) hx hb d_Mod_linkConstant_118 (by decide) (fun h118 => ?_) (fun h118 => ?_)
              · first | exact absurd h118 (by decide) | exact absurd (by decide) h118
              · refine lv_aload_n hx hb d_Mod_linkConstant_121 rfl (lv_at hl 4 rfl) ?_
                refine lv_bipush (v := 6) hx hb d_Mod_linkConstant_122 (by decide) ?_
                refine lv_aload_n hx hb d_Mod_linkConstant_124 rfl (lv_at hl 4 rfl) ?_
                refine va_get (D := g.1) (ci := 10) (v := .ref (q 15)) (C := R_Mod) (T := F_Mod) (N := 61) hx hb hts in_Mod hown hK hP 0 rfl rfl 15 (by decide) (hts _ wd_1265) (fun _ h9 => h9) rfl d_Mod_linkConstant_125 ?_
                refine lv_iload_n hx hb d_Mod_linkConstant_128 rfl (lv_at hl 5 rfl) ?_
                refine va_iald hx hb hK hP 3 0 rfl rfl (vp_in_nI (by omega) (by decide)) d_Mod_linkConstant_129 ?_
                obtain ⟨x19, ex19⟩ : ∃ z : Int32, tl ((nI k).toNatClampNeg) = z := ⟨_, rfl⟩
                refine tw_ri (e2 := x19) ex19 ?_
                refine tw_wv (wr := [((q 2), aI g 600 bs), ((q 14), aI g 620 tg), ((q 15), aI g 620 tl), ((q 16), aI g 620 on), ((q 17), aI g 620 tw)]) (tw_runV (ws := [(h0, .inr (10, mob q rf n mm mb fa fp av ev wi mn tp tc sc nf fd me mp xn mt wh tq ag an ig)), ((q 2), aI g 600 bs), ((q 14), aI g 620 tg), ((q 15), aI g 620 tl), ((q 16), aI g 620 on), ((q 17), aI g 620 tw)]) (wc := [(h0, .inr (10, mob q rf n mm mb fa fp av ev wi mn tp tc sc nf fd me mp xn mt wh tq ag an ig))]) (As := [.int 6, .int x19]) (rest := []) E hB hK hZ (g_Mod_fail l g H.size h0 q rf n mm mb av ev wi mn tp tc sc nf fd me mp xn mt wh tq ag an ig fa fp 6 x19 (by decide)) mc_Mod_fail mi_Mod_fail me_Mod_fail wd_1478 hP hD hS hA [0] rfl (by decide) 0 rfl rfl rfl rfl rfl (by decide) rfl hl.1 rfl (Nat.le_of_ble_eq_true rfl) (by decide) d_Mod_linkConstant_130) hP hD hS hA [0] [1, 2, 3, 4, 5] rfl rfl (by decide) (by decide) (fun u21 H locs hr20 hP hD hS => ?_)
                try dsimp only at hr20
                have hP : va_P g.1 classes [((q 2), aI g 600 bs), ((q 14), aI g 620 tg), ((q 15), aI g 620 tl), ((q 16), aI g 620 on), ((q 17), aI g 620 tw), (h0, .inr (10, mob q rf n mm mb u21.1 u21.2 av ev wi mn tp tc sc nf fd me mp xn mt wh tq ag an ig))] H := hP
                have hD : va_D A [((q 2), aI g 600 bs), ((q 14), aI g 620 tg), ((q 15), aI g 620 tl), ((q 16), aI g 620 on), ((q 17), aI g 620 tw), (h0, .inr (10, mob q rf n mm mb u21.1 u21.2 av ev wi mn tp tc sc nf fd me mp xn mt wh tq ag an ig))] := hD
                have hP : va_P g.1 classes [(h0, .inr (10, mob q rf n mm mb u21.1 u21.2 av ev wi mn tp tc sc nf fd me mp xn mt wh tq ag an ig)), ((q 2), aI g 600 bs), ((q 14), aI g 620 tg), ((q 15), aI g 620 tl), ((q 16), aI g 620 on), ((q 17), aI g 620 tw)] H := hP.sub [5, 0, 1, 2, 3, 4] rfl
                have hD : va_D A [(h0, .inr (10, mob q rf n mm mb u21.1 u21.2 av ev wi mn tp tc sc nf fd me mp xn mt wh tq ag an ig)), ((q 2), aI g 600 bs), ((q 14), aI g 620 tg), ((q 15), aI g 620 tl), ((q 16), aI g 620 on), ((q 17), aI g 620 tw)] := hD.sub [5, 0, 1, 2, 3, 4] (by decide) rfl
                have hp21_0 := hr20
                refine lv_goto (tgt := 280) hx hb d_Mod_linkConstant_133 (by decide) ?_
                exact tw_vret E hS (u21.1, u21.2) (⟨(fun h => absurd h hp21_0), (fun h => absurd h hp21_0)⟩) hP hD d_Mod_linkConstant_280
            · have hT96 := hB18.2 (hB18.1.resolve_left h96)
              obtain ⟨ja, ja0, ja1, jae, jat⟩ := hT96
              subst jae
              obtain ⟨pa, la, paa, pab, pac⟩ := hTX ja (by omega) jat
              refine lv_aload_n hx hb d_Mod_linkConstant_99 rfl (lv_at hl 3 rfl) ?_
              refine lv_iload hx hb d_Mod_linkConstant_100 (lv_at hl 0 rfl) ?_
              refine lv_iconst (v := 1) hx hb d_Mod_linkConstant_102 (by decide) ?_
              refine tw_si (tw_runV (ws := [(h0, .inr (10, mob q rf n mm mb fa fp av ev wi mn tp tc sc nf fd me mp xn mt wh tq ag an ig)), ((q 2), aI g 600 bs), ((q 14), aI g 620 tg), ((q 15), aI g 620 tl), ((q 16), aI g 620 on), ((q 17), aI g 620 tw)]) (wc := [(h0, .inr (10, mob q rf n mm mb fa fp av ev wi mn tp tc sc nf fd me mp xn mt wh tq ag an ig)), ((q 14), aI g 620 tg)]) (As := [.int xb2, .int 1]) (rest := []) E hB hK hZ (g_Mod_isTagI l g H.size h0 q rf n mm mb fa fp av ev wi mn tp tc sc nf fd me mp xn mt wh tq ag an ig tg xb2 1 (by omega)) mc_Mod_isTag mi_Mod_isTag me_Mod_isTag wd_1508 hP hD hS hA [0, 2] rfl (by decide) 0 rfl rfl rfl rfl rfl (by decide) rfl hl.1 rfl (Nat.le_of_ble_eq_true rfl) (by decide) d_Mod_linkConstant_103) (fun r22 hr22 => ?_)
              have hB22 := hr22
              refine lv_if_eq (tgt := 113) hx hb d_Mod_linkConstant_106 (by decide) (fun h106 => ?_) (fun h106 => ?_)
              · refine lv_iconst (v := 0) hx hb d_Mod_linkConstant_113 (by decide) ?_
                refine lv_istore hx hb d_Mod_linkConstant_114 hl (by decide) rfl (fun ls hl => ?_)
                have hl : lv_has ls 6 [(5, .int 0), (4, .int xb2), (3, .int (nI ja)), (2, .int (tg k)), (0, .ref h0), (1, .int (nI k))] := hl
                refine lv_iload hx hb d_Mod_linkConstant_116 (lv_at hl 0 rfl) ?_
                refine lv_if_ne (tgt := 136) hx hb d_Mod_linkConstant_118 (by decide) (fun h118 => ?_) (fun h118 => ?_)
                · first | exact absurd h118 (by decide) | exact absurd (by decide) h118
                · refine lv_aload_n hx hb d_Mod_linkConstant_121 rfl (lv_at hl 4 rfl) ?_
                  refine lv_bipush (v := 6) hx hb d_Mod_linkConstant_122 (by decide) ?_
                  refine lv_aload_n hx hb d_Mod_linkConstant_124 rfl (lv_at hl 4 rfl) ?_
                  refine va_get (D := g.1) (ci := 10) (v := .ref (q 15)) (C := R_Mod) (T := F_Mod) (N := 61) hx hb hts in_Mod hown hK hP 0 rfl rfl 15 (by decide) (hts _ wd_1265) (fun _ h9 => h9) rfl d_Mod_linkConstant_125 ?_
                  refine lv_iload_n hx hb d_Mod_linkConstant_128 rfl (lv_at hl 5 rfl) ?_
                  refine va_iald hx hb hK hP 3 0 rfl rfl (vp_in_nI (by omega) (by decide)) d_Mod_linkConstant_129 ?_
                  obtain ⟨x23, ex23⟩ : ∃ z : Int32, tl ((nI k).toNatClampNeg) = z := ⟨_, rfl⟩
                  refine tw_ri (e2 := x23) ex23 ?_
                  refine tw_wv (wr := [((q 2), aI g 600 bs), ((q 14), aI g 620 tg), ((q 15), aI g 620 tl), ((q 16), aI g 620 on), ((q 17), aI g 620 tw)]) (tw_runV (ws := [(h0, .inr (10, mob q rf n mm mb fa fp av ev wi mn tp tc sc nf fd me mp xn mt wh tq ag an ig)), ((q 2), aI g 600 bs), ((q 14), aI g 620 tg), ((q 15), aI g 620 tl), ((q 16), aI g 620 on), ((q 17), aI g 620 tw)]) (wc := [(h0, .inr (10, mob q rf n mm mb fa fp av ev wi mn tp tc sc nf fd me mp xn mt wh tq ag an ig))]) (As := [.int 6, .int x23]) (rest := []) E hB hK hZ (g_Mod_fail l g H.size h0 q rf n mm mb av ev wi mn tp tc sc nf fd me mp xn mt wh tq ag an ig fa fp 6 x23 (by decide)) mc_Mod_fail mi_Mod_fail me_Mod_fail wd_1478 hP hD hS hA [0] rfl (by decide) 0 rfl rfl rfl rfl rfl (by decide) rfl hl.1 rfl (Nat.le_of_ble_eq_true rfl) (by decide) d_Mod_linkConstant_130) hP hD hS hA [0] [1, 2, 3, 4, 5] rfl rfl (by decide) (by decide) (fun u25 H locs hr24 hP hD hS => ?_)
                  try dsimp only at hr24
                  have hP : va_P g.1 classes [((q 2), aI g 600 bs), ((q 14), aI g 620 tg), ((q 15), aI g 620 tl), ((q 16), aI g 620 on), ((q 17), aI g 620 tw), (h0, .inr (10, mob q rf n mm mb u25.1 u25.2 av ev wi mn tp tc sc nf fd me mp xn mt wh tq ag an ig))] H := hP
                  have hD : va_D A [((q 2), aI g 600 bs), ((q 14), aI g 620 tg), ((q 15), aI g 620 tl), ((q 16), aI g 620 on), ((q 17), aI g 620 tw), (h0, .inr (10, mob q rf n mm mb u25.1 u25.2 av ev wi mn tp tc sc nf fd me mp xn mt wh tq ag an ig))] := hD
                  have hP : va_P g.1 classes [(h0, .inr (10, mob q rf n mm mb u25.1 u25.2 av ev wi mn tp tc sc nf fd me mp xn mt wh tq ag an ig)), ((q 2), aI g 600 bs), ((q 14), aI g 620 tg), ((q 15), aI g 620 tl), ((q 16), aI g 620 on), ((q 17), aI g 620 tw)] H := hP.sub [5, 0, 1, 2, 3, 4] rfl
                  have hD : va_D A [(h0, .inr (10, mob q rf n mm mb u25.1 u25.2 av ev wi mn tp tc sc nf fd me mp xn mt wh tq ag an ig)), ((q 2), aI g 600 bs), ((q 14), aI g 620 tg), ((q 15), aI g 620 tl), ((q 16), aI g 620 on), ((q 17), aI g 620 tw)] := hD.sub [5, 0, 1, 2, 3, 4] (by decide) rfl
                  have hp25_0 := hr24
                  refine lv_goto (tgt := 280) hx hb d_Mod_linkConstant_133 (by decide) ?_
                  exact tw_vret E hS (u25.1, u25.2) (⟨(fun h => absurd h hp25_0), (fun h => absurd h hp25_0)⟩) hP hD d_Mod_linkConstant_280
              · have hT106 := hB22.2 (hB22.1.resolve_left h106)
                obtain ⟨jb, jb0, jb1, jbe, jbt⟩ := hT106
                subst jbe
                obtain ⟨pb, lb, pba, pbb, pbc⟩ := hTX jb (by omega) jbt
                refine lv_iconst (v := 1) hx hb d_Mod_linkConstant_109 (by decide) ?_
                refine lv_goto (tgt := 114) hx hb d_Mod_linkConstant_110 (by decide) ?_
                refine lv_istore hx hb d_Mod_linkConstant_114 hl (by decide) rfl (fun ls hl => ?_)
                have hl : lv_has ls 6 [(5, .int 1), (4, .int (nI jb)), (3, .int (nI ja)), (2, .int (tg k)), (0, .ref h0), (1, .int (nI k))] := hl
                refine lv_iload hx hb d_Mod_linkConstant_116 (lv_at hl 0 rfl) ?_
                refine lv_if_ne (tgt := 136) hx hb d_Mod_linkConstant_118 (by decide) (fun h118 => ?_) (fun h118 => ?_)
                · refine lv_iload_n hx hb d_Mod_linkConstant_136 rfl (lv_at hl 3 rfl) ?_
                  refine lv_bipush (v := 7) hx hb d_Mod_linkConstant_137 (by decide) ?_
                  refine lv_icmp_ne (tgt := 175) hx hb d_Mod_linkConstant_139 (by decide) (fun h139 => ?_) (fun h139 => ?_)
                  · refine lv_iload_n hx hb d_Mod_linkConstant_175 rfl (lv_at hl 3 rfl) ?_
                    refine lv_bipush (v := 12) hx hb d_Mod_linkConstant_176 (by decide) ?_
                    refine lv_icmp_ne (tgt := 222) hx hb d_Mod_linkConstant_178 (by decide) (fun h178 => ?_) (fun h178 => ?_)
                    · exact absurd h87 h178
                    · refine lv_aload_n hx hb d_Mod_linkConstant_181 rfl (lv_at hl 4 rfl) ?_
                      refine lv_aload_n hx hb d_Mod_linkConstant_182 rfl (lv_at hl 4 rfl) ?_
                      refine va_get (D := g.1) (ci := 10) (v := .ref (q 16)) (C := R_Mod) (T := F_Mod) (N := 61) hx hb hts in_Mod hown hK hP 0 rfl rfl 16 (by decide) (hts _ wd_1266) (fun _ h9 => h9) rfl d_Mod_linkConstant_183 ?_
                      refine lv_iload_n hx hb d_Mod_linkConstant_186 rfl (lv_at hl 2 rfl) ?_
                      refine va_iald hx hb hK hP 4 0 rfl rfl (vp_in_nI (by omega) (by decide)) d_Mod_linkConstant_187 ?_
                      refine tw_ri (e2 := nI pa) (by rw [nI_clamp (by omega)]; exact paa) ?_
                      refine lv_aload_n hx hb d_Mod_linkConstant_188 rfl (lv_at hl 4 rfl) ?_
                      refine lv_iload_n hx hb d_Mod_linkConstant_189 rfl (lv_at hl 2 rfl) ?_
                      refine tw_si (tw_runV (ws := [(h0, .inr (10, mob q rf n mm mb fa fp av ev wi mn tp tc sc nf fd me mp xn mt wh tq ag an ig)), ((q 2), aI g 600 bs), ((q 14), aI g 620 tg), ((q 15), aI g 620 tl), ((q 16), aI g 620 on), ((q 17), aI g 620 tw)]) (wc := [(h0, .inr (10, mob q rf n mm mb fa fp av ev wi mn tp tc sc nf fd me mp xn mt wh tq ag an ig)), ((q 16), aI g 620 on), ((q 17), aI g 620 tw)]) (As := [.int (nI ja)]) (rest := [.int (nI pa), .ref h0]) E hB hK hZ (g_Mod_endOf l g H.size h0 q rf n mm mb fa fp av ev wi mn tp tc sc nf fd me mp xn mt wh tq ag an ig on tw ja pa la (by omega) paa pab pac) mc_Mod_endOf mi_Mod_endOf me_Mod_endOf wd_1536 hP hD hS hA [0, 4, 5] rfl (by decide) 0 rfl rfl rfl rfl rfl (by decide) rfl hl.1 rfl (Nat.le_of_ble_eq_true rfl) (by decide) d_Mod_linkConstant_190) (fun r26 hr26 => ?_)
                      have hB26 := hr26
                      subst hB26
                      refine tw_si (tw_runV (ws := [(h0, .inr (10, mob q rf n mm mb fa fp av ev wi mn tp tc sc nf fd me mp xn mt wh tq ag an ig)), ((q 2), aI g 600 bs), ((q 14), aI g 620 tg), ((q 15), aI g 620 tl), ((q 16), aI g 620 on), ((q 17), aI g 620 tw)]) (wc := [(h0, .inr (10, mob q rf n mm mb fa fp av ev wi mn tp tc sc nf fd me mp xn mt wh tq ag an ig)), ((q 2), aI g 600 bs)]) (As := [.int (nI pa), .int (nI (pa + la))]) (rest := []) E hB hK hZ (g_Mod_isName l g H.size h0 q rf n mm mb fa fp av ev wi mn tp tc sc nf fd me mp xn mt wh tq ag an ig bs pa (pa + la) (by omega) (by omega)) mc_Mod_isName mi_Mod_isName me_Mod_isName wd_1544 hP hD hS hA [0, 1] rfl (by decide) 0 rfl rfl rfl rfl rfl (by decide) rfl hl.1 rfl (Nat.le_of_ble_eq_true rfl) (by decide) d_Mod_linkConstant_193) (fun r27 hr27 => ?_)
                      have hB27 := hr27
                      refine lv_if_ne (tgt := 222) hx hb d_Mod_linkConstant_196 (by decide) (fun h196 => ?_) (fun h196 => ?_)
                      · refine lv_iload_n hx hb d_Mod_linkConstant_222 rfl (lv_at hl 3 rfl) ?_
                        refine lv_bipush (v := 12) hx hb d_Mod_linkConstant_223 (by decide) ?_
                        refine lv_icmp_ne (tgt := 280) hx hb d_Mod_linkConstant_225 (by decide) (fun h225 => ?_) (fun h225 => ?_)
                        · exact absurd h87 h225
                        · refine lv_aload_n hx hb d_Mod_linkConstant_228 rfl (lv_at hl 4 rfl) ?_
                          refine lv_aload_n hx hb d_Mod_linkConstant_229 rfl (lv_at hl 4 rfl) ?_
                          refine va_get (D := g.1) (ci := 10) (v := .ref (q 16)) (C := R_Mod) (T := F_Mod) (N := 61) hx hb hts in_Mod hown hK hP 0 rfl rfl 16 (by decide) (hts _ wd_1266) (fun _ h9 => h9) rfl d_Mod_linkConstant_230 ?_
                          refine lv_iload hx hb d_Mod_linkConstant_233 (lv_at hl 1 rfl) ?_
                          refine va_iald hx hb hK hP 4 0 rfl rfl (vp_in_nI (by omega) (by decide)) d_Mod_linkConstant_235 ?_
                          refine tw_ri (e2 := nI pb) (by rw [nI_clamp (by omega)]; exact pba) ?_
                          refine lv_aload_n hx hb d_Mod_linkConstant_236 rfl (lv_at hl 4 rfl) ?_
                          refine lv_iload hx hb d_Mod_linkConstant_237 (lv_at hl 1 rfl) ?_
                          refine tw_si (tw_runV (ws := [(h0, .inr (10, mob q rf n mm mb fa fp av ev wi mn tp tc sc nf fd me mp xn mt wh tq ag an ig)), ((q 2), aI g 600 bs), ((q 14), aI g 620 tg), ((q 15), aI g 620 tl), ((q 16), aI g 620 on), ((q 17), aI g 620 tw)]) (wc := [(h0, .inr (10, mob q rf n mm mb fa fp av ev wi mn tp tc sc nf fd me mp xn mt wh tq ag an ig)), ((q 16), aI g 620 on), ((q 17), aI g 620 tw)]) (As := [.int (nI jb)]) (rest := [.int (nI pb), .ref h0]) E hB hK hZ (g_Mod_endOf l g H.size h0 q rf n mm mb fa fp av ev wi mn tp tc sc nf fd me mp xn mt wh tq ag an ig on tw jb pb lb (by omega) pba pbb pbc) mc_Mod_endOf mi_Mod_endOf me_Mod_endOf wd_1536 hP hD hS hA [0, 4, 5] rfl (by decide) 0 rfl rfl rfl rfl rfl (by decide) rfl hl.1 rfl (Nat.le_of_ble_eq_true rfl) (by decide) d_Mod_linkConstant_239) (fun r28 hr28 => ?_)
                          have hB28 := hr28
                          subst hB28
                          refine tw_si (tw_runV (ws := [(h0, .inr (10, mob q rf n mm mb fa fp av ev wi mn tp tc sc nf fd me mp xn mt wh tq ag an ig)), ((q 2), aI g 600 bs), ((q 14), aI g 620 tg), ((q 15), aI g 620 tl), ((q 16), aI g 620 on), ((q 17), aI g 620 tw)]) (wc := [(h0, .inr (10, mob q rf n mm mb fa fp av ev wi mn tp tc sc nf fd me mp xn mt wh tq ag an ig)), ((q 2), aI g 600 bs)]) (As := [.int (nI pb), .int (nI (pb + lb))]) (rest := []) E hB hK hZ (g_Mod_isType l g H.size h0 q rf n mm mb fa fp av ev wi mn tp tc sc nf fd me mp xn mt wh tq ag an ig bs pb (pb + lb) (by omega) (by omega)) mc_Mod_isType mi_Mod_isType me_Mod_isType wd_1555 hP hD hS hA [0, 1] rfl (by decide) 0 rfl rfl rfl rfl rfl (by decide) rfl hl.1 rfl (Nat.le_of_ble_eq_true rfl) (by decide) d_Mod_linkConstant_242) (fun r29 hr29 => ?_)
                          have hB29 := hr29
                          refine lv_if_ne (tgt := 280) hx hb d_Mod_linkConstant_245 (by decide) (fun h245 => ?_) (fun h245 => ?_)
                          · have hT245 := hB29.2 (hB29.1.resolve_left h245)
                            exact tw_vret E hS (fa, fp) (⟨(fun h => h), (fun _ => by exact LC1.e h87 ⟨ja, ja0, ja1, exa, jat⟩ ⟨jb, jb0, jb1, exb2, jbt⟩)⟩) hP hD d_Mod_linkConstant_280
                          · refine lv_aload_n hx hb d_Mod_linkConstant_248 rfl (lv_at hl 4 rfl) ?_
                            refine lv_aload_n hx hb d_Mod_linkConstant_249 rfl (lv_at hl 4 rfl) ?_
                            refine va_get (D := g.1) (ci := 10) (v := .ref (q 16)) (C := R_Mod) (T := F_Mod) (N := 61) hx hb hts in_Mod hown hK hP 0 rfl rfl 16 (by decide) (hts _ wd_1266) (fun _ h9 => h9) rfl d_Mod_linkConstant_250 ?_
                            refine lv_iload hx hb d_Mod_linkConstant_253 (lv_at hl 1 rfl) ?_
                            refine va_iald hx hb hK hP 4 0 rfl rfl (vp_in_nI (by omega) (by decide)) d_Mod_linkConstant_255 ?_
                            refine tw_ri (e2 := nI pb) (by rw [nI_clamp (by omega)]; exact pba) ?_
                            refine lv_aload_n hx hb d_Mod_linkConstant_256 rfl (lv_at hl 4 rfl) ?_
                            refine lv_iload hx hb d_Mod_linkConstant_257 (lv_at hl 1 rfl) ?_
                            refine tw_si (tw_runV (ws := [(h0, .inr (10, mob q rf n mm mb fa fp av ev wi mn tp tc sc nf fd me mp xn mt wh tq ag an ig)), ((q 2), aI g 600 bs), ((q 14), aI g 620 tg), ((q 15), aI g 620 tl), ((q 16), aI g 620 on), ((q 17), aI g 620 tw)]) (wc := [(h0, .inr (10, mob q rf n mm mb fa fp av ev wi mn tp tc sc nf fd me mp xn mt wh tq ag an ig)), ((q 16), aI g 620 on), ((q 17), aI g 620 tw)]) (As := [.int (nI jb)]) (rest := [.int (nI pb), .ref h0]) E hB hK hZ (g_Mod_endOf l g H.size h0 q rf n mm mb fa fp av ev wi mn tp tc sc nf fd me mp xn mt wh tq ag an ig on tw jb pb lb (by omega) pba pbb pbc) mc_Mod_endOf mi_Mod_endOf me_Mod_endOf wd_1536 hP hD hS hA [0, 4, 5] rfl (by decide) 0 rfl rfl rfl rfl rfl (by decide) rfl hl.1 rfl (Nat.le_of_ble_eq_true rfl) (by decide) d_Mod_linkConstant_259) (fun r30 hr30 => ?_)
                            have hB30 := hr30
                            subst hB30
                            refine tw_si (tw_runV (ws := [(h0, .inr (10, mob q rf n mm mb fa fp av ev wi mn tp tc sc nf fd me mp xn mt wh tq ag an ig)), ((q 2), aI g 600 bs), ((q 14), aI g 620 tg), ((q 15), aI g 620 tl), ((q 16), aI g 620 on), ((q 17), aI g 620 tw)]) (wc := [(h0, .inr (10, mob q rf n mm mb fa fp av ev wi mn tp tc sc nf fd me mp xn mt wh tq ag an ig)), ((q 2), aI g 600 bs)]) (As := [.int (nI pb), .int (nI (pb + lb))]) (rest := []) E hB hK hZ (g_Mod_isMethodType l g H.size h0 q rf n mm mb fa fp av ev wi mn tp tc sc nf fd me mp xn mt wh tq ag an ig bs pb (pb + lb) (by omega) (by omega)) mc_Mod_isMethodType mi_Mod_isMethodType me_Mod_isMethodType wd_1563 hP hD hS hA [0, 1] rfl (by decide) 0 rfl rfl rfl rfl rfl (by decide) rfl hl.1 rfl (Nat.le_of_ble_eq_true rfl) (by decide) d_Mod_linkConstant_262) (fun r31 hr31 => ?_)
                            have hB31 := hr31
                            refine lv_if_ne (tgt := 280) hx hb d_Mod_linkConstant_265 (by decide) (fun h265 => ?_) (fun h265 => ?_)
                            · have hT265 := hB31.2 (hB31.1.resolve_left h265)
                              exact tw_vret E hS (fa, fp) (⟨(fun h => h), (fun _ => by exact LC1.e h87 ⟨ja, ja0, ja1, exa, jat⟩ ⟨jb, jb0, jb1, exb2, jbt⟩)⟩) hP hD d_Mod_linkConstant_280
                            · refine lv_aload_n hx hb d_Mod_linkConstant_268 rfl (lv_at hl 4 rfl) ?_
                              refine lv_bipush (v := 11) hx hb d_Mod_linkConstant_269 (by decide) ?_
                              refine lv_aload_n hx hb d_Mod_linkConstant_271 rfl (lv_at hl 4 rfl) ?_
                              refine va_get (D := g.1) (ci := 10) (v := .ref (q 15)) (C := R_Mod) (T := F_Mod) (N := 61) hx hb hts in_Mod hown hK hP 0 rfl rfl 15 (by decide) (hts _ wd_1265) (fun _ h9 => h9) rfl d_Mod_linkConstant_272 ?_
                              refine lv_iload_n hx hb d_Mod_linkConstant_275 rfl (lv_at hl 5 rfl) ?_
                              refine va_iald hx hb hK hP 3 0 rfl rfl (vp_in_nI (by omega) (by decide)) d_Mod_linkConstant_276 ?_
                              obtain ⟨x32, ex32⟩ : ∃ z : Int32, tl ((nI k).toNatClampNeg) = z := ⟨_, rfl⟩
                              refine tw_ri (e2 := x32) ex32 ?_
                              refine tw_wv (wr := [((q 2), aI g 600 bs), ((q 14), aI g 620 tg), ((q 15), aI g 620 tl), ((q 16), aI g 620 on), ((q 17), aI g 620 tw)]) (tw_runV (ws := [(h0, .inr (10, mob q rf n mm mb fa fp av ev wi mn tp tc sc nf fd me mp xn mt wh tq ag an ig)), ((q 2), aI g 600 bs), ((q 14), aI g 620 tg), ((q 15), aI g 620 tl), ((q 16), aI g 620 on), ((q 17), aI g 620 tw)]) (wc := [(h0, .inr (10, mob q rf n mm mb fa fp av ev wi mn tp tc sc nf fd me mp xn mt wh tq ag an ig))]) (As := [.int 11, .int x32]) (rest := []) E hB hK hZ (g_Mod_fail l g H.size h0 q rf n mm mb av ev wi mn tp tc sc nf fd me mp xn mt wh tq ag an ig fa fp 11 x32 (by decide)) mc_Mod_fail mi_Mod_fail me_Mod_fail wd_1478 hP hD hS hA [0] rfl (by decide) 0 rfl rfl rfl rfl rfl (by decide) rfl hl.1 rfl (Nat.le_of_ble_eq_true rfl) (by decide) d_Mod_linkConstant_277) hP hD hS hA [0] [1, 2, 3, 4, 5] rfl rfl (by decide) (by decide) (fun u34 H locs hr33 hP hD hS => ?_)
                              try dsimp only at hr33
                              have hP : va_P g.1 classes [((q 2), aI g 600 bs), ((q 14), aI g 620 tg), ((q 15), aI g 620 tl), ((q 16), aI g 620 on), ((q 17), aI g 620 tw), (h0, .inr (10, mob q rf n mm mb u34.1 u34.2 av ev wi mn tp tc sc nf fd me mp xn mt wh tq ag an ig))] H := hP
                              have hD : va_D A [((q 2), aI g 600 bs), ((q 14), aI g 620 tg), ((q 15), aI g 620 tl), ((q 16), aI g 620 on), ((q 17), aI g 620 tw), (h0, .inr (10, mob q rf n mm mb u34.1 u34.2 av ev wi mn tp tc sc nf fd me mp xn mt wh tq ag an ig))] := hD
                              have hP : va_P g.1 classes [(h0, .inr (10, mob q rf n mm mb u34.1 u34.2 av ev wi mn tp tc sc nf fd me mp xn mt wh tq ag an ig)), ((q 2), aI g 600 bs), ((q 14), aI g 620 tg), ((q 15), aI g 620 tl), ((q 16), aI g 620 on), ((q 17), aI g 620 tw)] H := hP.sub [5, 0, 1, 2, 3, 4] rfl
                              have hD : va_D A [(h0, .inr (10, mob q rf n mm mb u34.1 u34.2 av ev wi mn tp tc sc nf fd me mp xn mt wh tq ag an ig)), ((q 2), aI g 600 bs), ((q 14), aI g 620 tg), ((q 15), aI g 620 tl), ((q 16), aI g 620 on), ((q 17), aI g 620 tw)] := hD.sub [5, 0, 1, 2, 3, 4] (by decide) rfl
                              have hp34_0 := hr33
                              exact tw_vret E hS (u34.1, u34.2) (⟨(fun h => absurd h hp34_0), (fun h => absurd h hp34_0)⟩) hP hD d_Mod_linkConstant_280
                      · refine lv_aload_n hx hb d_Mod_linkConstant_199 rfl (lv_at hl 4 rfl) ?_
                        refine lv_iload_n hx hb d_Mod_linkConstant_200 rfl (lv_at hl 2 rfl) ?_
                        refine tw_si (tw_runV (ws := [(h0, .inr (10, mob q rf n mm mb fa fp av ev wi mn tp tc sc nf fd me mp xn mt wh tq ag an ig)), ((q 2), aI g 600 bs), ((q 14), aI g 620 tg), ((q 15), aI g 620 tl), ((q 16), aI g 620 on), ((q 17), aI g 620 tw)]) (wc := [(h0, .inr (10, mob q rf n mm mb fa fp av ev wi mn tp tc sc nf fd me mp xn mt wh tq ag an ig)), ((q 2), aI g 600 bs), ((q 16), aI g 620 on), ((q 17), aI g 620 tw)]) (As := [.int (nI ja)]) (rest := []) E hB hK hZ (g_Mod_isInit l g H.size h0 q rf n mm mb fa fp av ev wi mn tp tc sc nf fd me mp xn mt wh tq ag an ig bs on tw ja pa la (by omega) paa pab pac) mc_Mod_isInit mi_Mod_isInit me_Mod_isInit wd_1551 hP hD hS hA [0, 1, 4, 5] rfl (by decide) 0 rfl rfl rfl rfl rfl (by decide) rfl hl.1 rfl (Nat.le_of_ble_eq_true rfl) (by decide) d_Mod_linkConstant_201) (fun r35 hr35 => ?_)
                        have hB35 := hr35
                        refine lv_if_ne (tgt := 222) hx hb d_Mod_linkConstant_204 (by decide) (fun h204 => ?_) (fun h204 => ?_)
                        · refine lv_iload_n hx hb d_Mod_linkConstant_222 rfl (lv_at hl 3 rfl) ?_
                          refine lv_bipush (v := 12) hx hb d_Mod_linkConstant_223 (by decide) ?_
                          refine lv_icmp_ne (tgt := 280) hx hb d_Mod_linkConstant_225 (by decide) (fun h225 => ?_) (fun h225 => ?_)
                          · exact absurd h87 h225
                          · refine lv_aload_n hx hb d_Mod_linkConstant_228 rfl (lv_at hl 4 rfl) ?_
                            refine lv_aload_n hx hb d_Mod_linkConstant_229 rfl (lv_at hl 4 rfl) ?_
                            refine va_get (D := g.1) (ci := 10) (v := .ref (q 16)) (C := R_Mod) (T := F_Mod) (N := 61) hx hb hts in_Mod hown hK hP 0 rfl rfl 16 (by decide) (hts _ wd_1266) (fun _ h9 => h9) rfl d_Mod_linkConstant_230 ?_
                            refine lv_iload hx hb d_Mod_linkConstant_233 (lv_at hl 1 rfl) ?_
                            refine va_iald hx hb hK hP 4 0 rfl rfl (vp_in_nI (by omega) (by decide)) d_Mod_linkConstant_235 ?_
                            refine tw_ri (e2 := nI pb) (by rw [nI_clamp (by omega)]; exact pba) ?_
                            refine lv_aload_n hx hb d_Mod_linkConstant_236 rfl (lv_at hl 4 rfl) ?_
                            refine lv_iload hx hb d_Mod_linkConstant_237 (lv_at hl 1 rfl) ?_
                            refine tw_si (tw_runV (ws := [(h0, .inr (10, mob q rf n mm mb fa fp av ev wi mn tp tc sc nf fd me mp xn mt wh tq ag an ig)), ((q 2), aI g 600 bs), ((q 14), aI g 620 tg), ((q 15), aI g 620 tl), ((q 16), aI g 620 on), ((q 17), aI g 620 tw)]) (wc := [(h0, .inr (10, mob q rf n mm mb fa fp av ev wi mn tp tc sc nf fd me mp xn mt wh tq ag an ig)), ((q 16), aI g 620 on), ((q 17), aI g 620 tw)]) (As := [.int (nI jb)]) (rest := [.int (nI pb), .ref h0]) E hB hK hZ (g_Mod_endOf l g H.size h0 q rf n mm mb fa fp av ev wi mn tp tc sc nf fd me mp xn mt wh tq ag an ig on tw jb pb lb (by omega) pba pbb pbc) mc_Mod_endOf mi_Mod_endOf me_Mod_endOf wd_1536 hP hD hS hA [0, 4, 5] rfl (by decide) 0 rfl rfl rfl rfl rfl (by decide) rfl hl.1 rfl (Nat.le_of_ble_eq_true rfl) (by decide) d_Mod_linkConstant_239) (fun r36 hr36 => ?_)
                            have hB36 := hr36
                            subst hB36
                            refine tw_si (tw_runV (ws := [(h0, .inr (10, mob q rf n mm mb fa fp av ev wi mn tp tc sc nf fd me mp xn mt wh tq ag an ig)), ((q 2), aI g 600 bs), ((q 14), aI g 620 tg), ((q 15), aI g 620 tl), ((q 16), aI g 620 on), ((q 17), aI g 620 tw)]) (wc := [(h0, .inr (10, mob q rf n mm mb fa fp av ev wi mn tp tc sc nf fd me mp xn mt wh tq ag an ig)), ((q 2), aI g 600 bs)]) (As := [.int (nI pb), .int (nI (pb + lb))]) (rest := []) E hB hK hZ (g_Mod_isType l g H.size h0 q rf n mm mb fa fp av ev wi mn tp tc sc nf fd me mp xn mt wh tq ag an ig bs pb (pb + lb) (by omega) (by omega)) mc_Mod_isType mi_Mod_isType me_Mod_isType wd_1555 hP hD hS hA [0, 1] rfl (by decide) 0 rfl rfl rfl rfl rfl (by decide) rfl hl.1 rfl (Nat.le_of_ble_eq_true rfl) (by decide) d_Mod_linkConstant_242) (fun r37 hr37 => ?_)
                            have hB37 := hr37
                            refine lv_if_ne (tgt := 280) hx hb d_Mod_linkConstant_245 (by decide) (fun h245 => ?_) (fun h245 => ?_)
                            · have hT245 := hB37.2 (hB37.1.resolve_left h245)
                              exact tw_vret E hS (fa, fp) (⟨(fun h => h), (fun _ => by exact LC1.e h87 ⟨ja, ja0, ja1, exa, jat⟩ ⟨jb, jb0, jb1, exb2, jbt⟩)⟩) hP hD d_Mod_linkConstant_280
                            · refine lv_aload_n hx hb d_Mod_linkConstant_248 rfl (lv_at hl 4 rfl) ?_
                              refine lv_aload_n hx hb d_Mod_linkConstant_249 rfl (lv_at hl 4 rfl) ?_
                              refine va_get (D := g.1) (ci := 10) (v := .ref (q 16)) (C := R_Mod) (T := F_Mod) (N := 61) hx hb hts in_Mod hown hK hP 0 rfl rfl 16 (by decide) (hts _ wd_1266) (fun _ h9 => h9) rfl d_Mod_linkConstant_250 ?_
                              refine lv_iload hx hb d_Mod_linkConstant_253 (lv_at hl 1 rfl) ?_
                              refine va_iald hx hb hK hP 4 0 rfl rfl (vp_in_nI (by omega) (by decide)) d_Mod_linkConstant_255 ?_
                              refine tw_ri (e2 := nI pb) (by rw [nI_clamp (by omega)]; exact pba) ?_
                              refine lv_aload_n hx hb d_Mod_linkConstant_256 rfl (lv_at hl 4 rfl) ?_
                              refine lv_iload hx hb d_Mod_linkConstant_257 (lv_at hl 1 rfl) ?_
                              refine tw_si (tw_runV (ws := [(h0, .inr (10, mob q rf n mm mb fa fp av ev wi mn tp tc sc nf fd me mp xn mt wh tq ag an ig)), ((q 2), aI g 600 bs), ((q 14), aI g 620 tg), ((q 15), aI g 620 tl), ((q 16), aI g 620 on), ((q 17), aI g 620 tw)]) (wc := [(h0, .inr (10, mob q rf n mm mb fa fp av ev wi mn tp tc sc nf fd me mp xn mt wh tq ag an ig)), ((q 16), aI g 620 on), ((q 17), aI g 620 tw)]) (As := [.int (nI jb)]) (rest := [.int (nI pb), .ref h0]) E hB hK hZ (g_Mod_endOf l g H.size h0 q rf n mm mb fa fp av ev wi mn tp tc sc nf fd me mp xn mt wh tq ag an ig on tw jb pb lb (by omega) pba pbb pbc) mc_Mod_endOf mi_Mod_endOf me_Mod_endOf wd_1536 hP hD hS hA [0, 4, 5] rfl (by decide) 0 rfl rfl rfl rfl rfl (by decide) rfl hl.1 rfl (Nat.le_of_ble_eq_true rfl) (by decide) d_Mod_linkConstant_259) (fun r38 hr38 => ?_)
                              have hB38 := hr38
                              subst hB38
                              refine tw_si (tw_runV (ws := [(h0, .inr (10, mob q rf n mm mb fa fp av ev wi mn tp tc sc nf fd me mp xn mt wh tq ag an ig)), ((q 2), aI g 600 bs), ((q 14), aI g 620 tg), ((q 15), aI g 620 tl), ((q 16), aI g 620 on), ((q 17), aI g 620 tw)]) (wc := [(h0, .inr (10, mob q rf n mm mb fa fp av ev wi mn tp tc sc nf fd me mp xn mt wh tq ag an ig)), ((q 2), aI g 600 bs)]) (As := [.int (nI pb), .int (nI (pb + lb))]) (rest := []) E hB hK hZ (g_Mod_isMethodType l g H.size h0 q rf n mm mb fa fp av ev wi mn tp tc sc nf fd me mp xn mt wh tq ag an ig bs pb (pb + lb) (by omega) (by omega)) mc_Mod_isMethodType mi_Mod_isMethodType me_Mod_isMethodType wd_1563 hP hD hS hA [0, 1] rfl (by decide) 0 rfl rfl rfl rfl rfl (by decide) rfl hl.1 rfl (Nat.le_of_ble_eq_true rfl) (by decide) d_Mod_linkConstant_262) (fun r39 hr39 => ?_)
                              have hB39 := hr39
                              refine lv_if_ne (tgt := 280) hx hb d_Mod_linkConstant_265 (by decide) (fun h265 => ?_) (fun h265 => ?_)
                              · have hT265 := hB39.2 (hB39.1.resolve_left h265)
                                exact tw_vret E hS (fa, fp) (⟨(fun h => h), (fun _ => by exact LC1.e h87 ⟨ja, ja0, ja1, exa, jat⟩ ⟨jb, jb0, jb1, exb2, jbt⟩)⟩) hP hD d_Mod_linkConstant_280
                              · refine lv_aload_n hx hb d_Mod_linkConstant_268 rfl (lv_at hl 4 rfl) ?_
                                refine lv_bipush (v := 11) hx hb d_Mod_linkConstant_269 (by decide) ?_
                                refine lv_aload_n hx hb d_Mod_linkConstant_271 rfl (lv_at hl 4 rfl) ?_
                                refine va_get (D := g.1) (ci := 10) (v := .ref (q 15)) (C := R_Mod) (T := F_Mod) (N := 61) hx hb hts in_Mod hown hK hP 0 rfl rfl 15 (by decide) (hts _ wd_1265) (fun _ h9 => h9) rfl d_Mod_linkConstant_272 ?_
                                refine lv_iload_n hx hb d_Mod_linkConstant_275 rfl (lv_at hl 5 rfl) ?_
                                refine va_iald hx hb hK hP 3 0 rfl rfl (vp_in_nI (by omega) (by decide)) d_Mod_linkConstant_276 ?_
                                obtain ⟨x40, ex40⟩ : ∃ z : Int32, tl ((nI k).toNatClampNeg) = z := ⟨_, rfl⟩
                                refine tw_ri (e2 := x40) ex40 ?_
                                refine tw_wv (wr := [((q 2), aI g 600 bs), ((q 14), aI g 620 tg), ((q 15), aI g 620 tl), ((q 16), aI g 620 on), ((q 17), aI g 620 tw)]) (tw_runV (ws := [(h0, .inr (10, mob q rf n mm mb fa fp av ev wi mn tp tc sc nf fd me mp xn mt wh tq ag an ig)), ((q 2), aI g 600 bs), ((q 14), aI g 620 tg), ((q 15), aI g 620 tl), ((q 16), aI g 620 on), ((q 17), aI g 620 tw)]) (wc := [(h0, .inr (10, mob q rf n mm mb fa fp av ev wi mn tp tc sc nf fd me mp xn mt wh tq ag an ig))]) (As := [.int 11, .int x40]) (rest := []) E hB hK hZ (g_Mod_fail l g H.size h0 q rf n mm mb av ev wi mn tp tc sc nf fd me mp xn mt wh tq ag an ig fa fp 11 x40 (by decide)) mc_Mod_fail mi_Mod_fail me_Mod_fail wd_1478 hP hD hS hA [0] rfl (by decide) 0 rfl rfl rfl rfl rfl (by decide) rfl hl.1 rfl (Nat.le_of_ble_eq_true rfl) (by decide) d_Mod_linkConstant_277) hP hD hS hA [0] [1, 2, 3, 4, 5] rfl rfl (by decide) (by decide) (fun u42 H locs hr41 hP hD hS => ?_)
                                try dsimp only at hr41
                                have hP : va_P g.1 classes [((q 2), aI g 600 bs), ((q 14), aI g 620 tg), ((q 15), aI g 620 tl), ((q 16), aI g 620 on), ((q 17), aI g 620 tw), (h0, .inr (10, mob q rf n mm mb u42.1 u42.2 av ev wi mn tp tc sc nf fd me mp xn mt wh tq ag an ig))] H := hP
                                have hD : va_D A [((q 2), aI g 600 bs), ((q 14), aI g 620 tg), ((q 15), aI g 620 tl), ((q 16), aI g 620 on), ((q 17), aI g 620 tw), (h0, .inr (10, mob q rf n mm mb u42.1 u42.2 av ev wi mn tp tc sc nf fd me mp xn mt wh tq ag an ig))] := hD
                                have hP : va_P g.1 classes [(h0, .inr (10, mob q rf n mm mb u42.1 u42.2 av ev wi mn tp tc sc nf fd me mp xn mt wh tq ag an ig)), ((q 2), aI g 600 bs), ((q 14), aI g 620 tg), ((q 15), aI g 620 tl), ((q 16), aI g 620 on), ((q 17), aI g 620 tw)] H := hP.sub [5, 0, 1, 2, 3, 4] rfl
                                have hD : va_D A [(h0, .inr (10, mob q rf n mm mb u42.1 u42.2 av ev wi mn tp tc sc nf fd me mp xn mt wh tq ag an ig)), ((q 2), aI g 600 bs), ((q 14), aI g 620 tg), ((q 15), aI g 620 tl), ((q 16), aI g 620 on), ((q 17), aI g 620 tw)] := hD.sub [5, 0, 1, 2, 3, 4] (by decide) rfl
                                have hp42_0 := hr41
                                exact tw_vret E hS (u42.1, u42.2) (⟨(fun h => absurd h hp42_0), (fun h => absurd h hp42_0)⟩) hP hD d_Mod_linkConstant_280
                        · refine lv_aload_n hx hb d_Mod_linkConstant_207 rfl (lv_at hl 4 rfl) ?_
                          refine lv_bipush (v := 10) hx hb d_Mod_linkConstant_208 (by decide) ?_
                          refine lv_aload_n hx hb d_Mod_linkConstant_210 rfl (lv_at hl 4 rfl) ?_
                          refine va_get (D := g.1) (ci := 10) (v := .ref (q 15)) (C := R_Mod) (T := F_Mod) (N := 61) hx hb hts in_Mod hown hK hP 0 rfl rfl 15 (by decide) (hts _ wd_1265) (fun _ h9 => h9) rfl d_Mod_linkConstant_211 ?_
                          refine lv_iload_n hx hb d_Mod_linkConstant_214 rfl (lv_at hl 5 rfl) ?_
                          refine va_iald hx hb hK hP 3 0 rfl rfl (vp_in_nI (by omega) (by decide)) d_Mod_linkConstant_215 ?_
                          obtain ⟨x43, ex43⟩ : ∃ z : Int32, tl ((nI k).toNatClampNeg) = z := ⟨_, rfl⟩
                          refine tw_ri (e2 := x43) ex43 ?_
                          refine tw_wv (wr := [((q 2), aI g 600 bs), ((q 14), aI g 620 tg), ((q 15), aI g 620 tl), ((q 16), aI g 620 on), ((q 17), aI g 620 tw)]) (tw_runV (ws := [(h0, .inr (10, mob q rf n mm mb fa fp av ev wi mn tp tc sc nf fd me mp xn mt wh tq ag an ig)), ((q 2), aI g 600 bs), ((q 14), aI g 620 tg), ((q 15), aI g 620 tl), ((q 16), aI g 620 on), ((q 17), aI g 620 tw)]) (wc := [(h0, .inr (10, mob q rf n mm mb fa fp av ev wi mn tp tc sc nf fd me mp xn mt wh tq ag an ig))]) (As := [.int 10, .int x43]) (rest := []) E hB hK hZ (g_Mod_fail l g H.size h0 q rf n mm mb av ev wi mn tp tc sc nf fd me mp xn mt wh tq ag an ig fa fp 10 x43 (by decide)) mc_Mod_fail mi_Mod_fail me_Mod_fail wd_1478 hP hD hS hA [0] rfl (by decide) 0 rfl rfl rfl rfl rfl (by decide) rfl hl.1 rfl (Nat.le_of_ble_eq_true rfl) (by decide) d_Mod_linkConstant_216) hP hD hS hA [0] [1, 2, 3, 4, 5] rfl rfl (by decide) (by decide) (fun u45 H locs hr44 hP hD hS => ?_)
                          try dsimp only at hr44
                          have hP : va_P g.1 classes [((q 2), aI g 600 bs), ((q 14), aI g 620 tg), ((q 15), aI g 620 tl), ((q 16), aI g 620 on), ((q 17), aI g 620 tw), (h0, .inr (10, mob q rf n mm mb u45.1 u45.2 av ev wi mn tp tc sc nf fd me mp xn mt wh tq ag an ig))] H := hP
                          have hD : va_D A [((q 2), aI g 600 bs), ((q 14), aI g 620 tg), ((q 15), aI g 620 tl), ((q 16), aI g 620 on), ((q 17), aI g 620 tw), (h0, .inr (10, mob q rf n mm mb u45.1 u45.2 av ev wi mn tp tc sc nf fd me mp xn mt wh tq ag an ig))] := hD
                          have hP : va_P g.1 classes [(h0, .inr (10, mob q rf n mm mb u45.1 u45.2 av ev wi mn tp tc sc nf fd me mp xn mt wh tq ag an ig)), ((q 2), aI g 600 bs), ((q 14), aI g 620 tg), ((q 15), aI g 620 tl), ((q 16), aI g 620 on), ((q 17), aI g 620 tw)] H := hP.sub [5, 0, 1, 2, 3, 4] rfl
                          have hD : va_D A [(h0, .inr (10, mob q rf n mm mb u45.1 u45.2 av ev wi mn tp tc sc nf fd me mp xn mt wh tq ag an ig)), ((q 2), aI g 600 bs), ((q 14), aI g 620 tg), ((q 15), aI g 620 tl), ((q 16), aI g 620 on), ((q 17), aI g 620 tw)] := hD.sub [5, 0, 1, 2, 3, 4] (by decide) rfl
                          have hp45_0 := hr44
                          refine lv_goto (tgt := 280) hx hb d_Mod_linkConstant_219 (by decide) ?_
                          exact tw_vret E hS (u45.1, u45.2) (⟨(fun h => absurd h hp45_0), (fun h => absurd h hp45_0)⟩) hP hD d_Mod_linkConstant_280
                  · exact absurd (h87.symm.trans h139) (by decide)
                · first | exact absurd h118 (by decide) | exact absurd (by decide) h118
        · refine lv_aload_n hx hb d_Mod_linkConstant_55 rfl (lv_at hl 3 rfl) ?_
          refine lv_iload_n hx hb d_Mod_linkConstant_56 rfl (lv_at hl 1 rfl) ?_
          refine lv_bipush (v := 7) hx hb d_Mod_linkConstant_57 (by decide) ?_
          refine tw_si (tw_runV (ws := [(h0, .inr (10, mob q rf n mm mb fa fp av ev wi mn tp tc sc nf fd me mp xn mt wh tq ag an ig)), ((q 2), aI g 600 bs), ((q 14), aI g 620 tg), ((q 15), aI g 620 tl), ((q 16), aI g 620 on), ((q 17), aI g 620 tw)]) (wc := [(h0, .inr (10, mob q rf n mm mb fa fp av ev wi mn tp tc sc nf fd me mp xn mt wh tq ag an ig)), ((q 14), aI g 620 tg)]) (As := [.int xa, .int 7]) (rest := []) E hB hK hZ (g_Mod_isTagI l g H.size h0 q rf n mm mb fa fp av ev wi mn tp tc sc nf fd me mp xn mt wh tq ag an ig tg xa 7 (by omega)) mc_Mod_isTag mi_Mod_isTag me_Mod_isTag wd_1508 hP hD hS hA [0, 2] rfl (by decide) 0 rfl rfl rfl rfl rfl (by decide) rfl hl.1 rfl (Nat.le_of_ble_eq_true rfl) (by decide) d_Mod_linkConstant_59) (fun r46 hr46 => ?_)
          have hB46 := hr46
          refine lv_if_eq (tgt := 80) hx hb d_Mod_linkConstant_62 (by decide) (fun h62 => ?_) (fun h62 => ?_)
          · refine lv_iconst (v := 0) hx hb d_Mod_linkConstant_80 (by decide) ?_
            refine lv_goto (tgt := 114) hx hb d_Mod_linkConstant_81 (by decide) ?_
            refine lv_istore hx hb d_Mod_linkConstant_114 hl (by decide) rfl (fun ls hl => ?_)
            have hl : lv_has ls 6 [(5, .int 0), (4, .int xb2), (3, .int xa), (2, .int (tg k)), (0, .ref h0), (1, .int (nI k))] := hl
            refine lv_iload hx hb d_Mod_linkConstant_116 (lv_at hl 0 rfl) ?_
            refine lv_if_ne (tgt := 136) hx hb d_Mod_linkConstant_118 (by decide) (fun h118 => ?_) (fun h118 => ?_)
            · first | exact absurd h118 (by decide) | exact absurd (by decide) h118
            · refine lv_aload_n hx hb d_Mod_linkConstant_121 rfl (lv_at hl 4 rfl) ?_
              refine lv_bipush (v := 6) hx hb d_Mod_linkConstant_122 (by decide) ?_
              refine lv_aload_n hx hb d_Mod_linkConstant_124 rfl (lv_at hl 4 rfl) ?_
              refine va_get (D := g.1) (ci := 10) (v := .ref (q 15)) (C := R_Mod) (T := F_Mod) (N := 61) hx hb hts in_Mod hown hK hP 0 rfl rfl 15 (by decide) (hts _ wd_1265) (fun _ h9 => h9) rfl d_Mod_linkConstant_125 ?_
              refine lv_iload_n hx hb d_Mod_linkConstant_128 rfl (lv_at hl 5 rfl) ?_
              refine va_iald hx hb hK hP 3 0 rfl rfl (vp_in_nI (by omega) (by decide)) d_Mod_linkConstant_129 ?_
              obtain ⟨x47, ex47⟩ : ∃ z : Int32, tl ((nI k).toNatClampNeg) = z := ⟨_, rfl⟩
              refine tw_ri (e2 := x47) ex47 ?_
              refine tw_wv (wr := [((q 2), aI g 600 bs), ((q 14), aI g 620 tg), ((q 15), aI g 620 tl), ((q 16), aI g 620 on), ((q 17), aI g 620 tw)]) (tw_runV (ws := [(h0, .inr (10, mob q rf n mm mb fa fp av ev wi mn tp tc sc nf fd me mp xn mt wh tq ag an ig)), ((q 2), aI g 600 bs), ((q 14), aI g 620 tg), ((q 15), aI g 620 tl), ((q 16), aI g 620 on), ((q 17), aI g 620 tw)]) (wc := [(h0, .inr (10, mob q rf n mm mb fa fp av ev wi mn tp tc sc nf fd me mp xn mt wh tq ag an ig))]) (As := [.int 6, .int x47]) (rest := []) E hB hK hZ (g_Mod_fail l g H.size h0 q rf n mm mb av ev wi mn tp tc sc nf fd me mp xn mt wh tq ag an ig fa fp 6 x47 (by decide)) mc_Mod_fail mi_Mod_fail me_Mod_fail wd_1478 hP hD hS hA [0] rfl (by decide) 0 rfl rfl rfl rfl rfl (by decide) rfl hl.1 rfl (Nat.le_of_ble_eq_true rfl) (by decide) d_Mod_linkConstant_130) hP hD hS hA [0] [1, 2, 3, 4, 5] rfl rfl (by decide) (by decide) (fun u49 H locs hr48 hP hD hS => ?_)
              try dsimp only at hr48
              have hP : va_P g.1 classes [((q 2), aI g 600 bs), ((q 14), aI g 620 tg), ((q 15), aI g 620 tl), ((q 16), aI g 620 on), ((q 17), aI g 620 tw), (h0, .inr (10, mob q rf n mm mb u49.1 u49.2 av ev wi mn tp tc sc nf fd me mp xn mt wh tq ag an ig))] H := hP
              have hD : va_D A [((q 2), aI g 600 bs), ((q 14), aI g 620 tg), ((q 15), aI g 620 tl), ((q 16), aI g 620 on), ((q 17), aI g 620 tw), (h0, .inr (10, mob q rf n mm mb u49.1 u49.2 av ev wi mn tp tc sc nf fd me mp xn mt wh tq ag an ig))] := hD
              have hP : va_P g.1 classes [(h0, .inr (10, mob q rf n mm mb u49.1 u49.2 av ev wi mn tp tc sc nf fd me mp xn mt wh tq ag an ig)), ((q 2), aI g 600 bs), ((q 14), aI g 620 tg), ((q 15), aI g 620 tl), ((q 16), aI g 620 on), ((q 17), aI g 620 tw)] H := hP.sub [5, 0, 1, 2, 3, 4] rfl
              have hD : va_D A [(h0, .inr (10, mob q rf n mm mb u49.1 u49.2 av ev wi mn tp tc sc nf fd me mp xn mt wh tq ag an ig)), ((q 2), aI g 600 bs), ((q 14), aI g 620 tg), ((q 15), aI g 620 tl), ((q 16), aI g 620 on), ((q 17), aI g 620 tw)] := hD.sub [5, 0, 1, 2, 3, 4] (by decide) rfl
              have hp49_0 := hr48
              refine lv_goto (tgt := 280) hx hb d_Mod_linkConstant_133 (by decide) ?_
              exact tw_vret E hS (u49.1, u49.2) (⟨(fun h => absurd h hp49_0), (fun h => absurd h hp49_0)⟩) hP hD d_Mod_linkConstant_280
          · have hT62 := hB46.2 (hB46.1.resolve_left h62)
            have hT62b : TGv mn tg 7 (on k) := by rw [exa]; exact hT62
            refine lv_aload_n hx hb d_Mod_linkConstant_65 rfl (lv_at hl 3 rfl) ?_
            refine lv_iload hx hb d_Mod_linkConstant_66 (lv_at hl 0 rfl) ?_
            refine lv_bipush (v := 12) hx hb d_Mod_linkConstant_68 (by decide) ?_
            refine tw_si (tw_runV (ws := [(h0, .inr (10, mob q rf n mm mb fa fp av ev wi mn tp tc sc nf fd me mp xn mt wh tq ag an ig)), ((q 2), aI g 600 bs), ((q 14), aI g 620 tg), ((q 15), aI g 620 tl), ((q 16), aI g 620 on), ((q 17), aI g 620 tw)]) (wc := [(h0, .inr (10, mob q rf n mm mb fa fp av ev wi mn tp tc sc nf fd me mp xn mt wh tq ag an ig)), ((q 14), aI g 620 tg)]) (As := [.int xb2, .int 12]) (rest := []) E hB hK hZ (g_Mod_isTagI l g H.size h0 q rf n mm mb fa fp av ev wi mn tp tc sc nf fd me mp xn mt wh tq ag an ig tg xb2 12 (by omega)) mc_Mod_isTag mi_Mod_isTag me_Mod_isTag wd_1508 hP hD hS hA [0, 2] rfl (by decide) 0 rfl rfl rfl rfl rfl (by decide) rfl hl.1 rfl (Nat.le_of_ble_eq_true rfl) (by decide) d_Mod_linkConstant_70) (fun r50 hr50 => ?_)
            have hB50 := hr50
            refine lv_if_eq (tgt := 80) hx hb d_Mod_linkConstant_73 (by decide) (fun h73 => ?_) (fun h73 => ?_)
            · refine lv_iconst (v := 0) hx hb d_Mod_linkConstant_80 (by decide) ?_
              refine lv_goto (tgt := 114) hx hb d_Mod_linkConstant_81 (by decide) ?_
              refine lv_istore hx hb d_Mod_linkConstant_114 hl (by decide) rfl (fun ls hl => ?_)
              have hl : lv_has ls 6 [(5, .int 0), (4, .int xb2), (3, .int xa), (2, .int (tg k)), (0, .ref h0), (1, .int (nI k))] := hl
              refine lv_iload hx hb d_Mod_linkConstant_116 (lv_at hl 0 rfl) ?_
              refine lv_if_ne (tgt := 136) hx hb d_Mod_linkConstant_118 (by decide) (fun h118 => ?_) (fun h118 => ?_)
              · first | exact absurd h118 (by decide) | exact absurd (by decide) h118
              · refine lv_aload_n hx hb d_Mod_linkConstant_121 rfl (lv_at hl 4 rfl) ?_
                refine lv_bipush (v := 6) hx hb d_Mod_linkConstant_122 (by decide) ?_
                refine lv_aload_n hx hb d_Mod_linkConstant_124 rfl (lv_at hl 4 rfl) ?_
                refine va_get (D := g.1) (ci := 10) (v := .ref (q 15)) (C := R_Mod) (T := F_Mod) (N := 61) hx hb hts in_Mod hown hK hP 0 rfl rfl 15 (by decide) (hts _ wd_1265) (fun _ h9 => h9) rfl d_Mod_linkConstant_125 ?_
                refine lv_iload_n hx hb d_Mod_linkConstant_128 rfl (lv_at hl 5 rfl) ?_
                refine va_iald hx hb hK hP 3 0 rfl rfl (vp_in_nI (by omega) (by decide)) d_Mod_linkConstant_129 ?_
                obtain ⟨x51, ex51⟩ : ∃ z : Int32, tl ((nI k).toNatClampNeg) = z := ⟨_, rfl⟩
                refine tw_ri (e2 := x51) ex51 ?_
                refine tw_wv (wr := [((q 2), aI g 600 bs), ((q 14), aI g 620 tg), ((q 15), aI g 620 tl), ((q 16), aI g 620 on), ((q 17), aI g 620 tw)]) (tw_runV (ws := [(h0, .inr (10, mob q rf n mm mb fa fp av ev wi mn tp tc sc nf fd me mp xn mt wh tq ag an ig)), ((q 2), aI g 600 bs), ((q 14), aI g 620 tg), ((q 15), aI g 620 tl), ((q 16), aI g 620 on), ((q 17), aI g 620 tw)]) (wc := [(h0, .inr (10, mob q rf n mm mb fa fp av ev wi mn tp tc sc nf fd me mp xn mt wh tq ag an ig))]) (As := [.int 6, .int x51]) (rest := []) E hB hK hZ (g_Mod_fail l g H.size h0 q rf n mm mb av ev wi mn tp tc sc nf fd me mp xn mt wh tq ag an ig fa fp 6 x51 (by decide)) mc_Mod_fail mi_Mod_fail me_Mod_fail wd_1478 hP hD hS hA [0] rfl (by decide) 0 rfl rfl rfl rfl rfl (by decide) rfl hl.1 rfl (Nat.le_of_ble_eq_true rfl) (by decide) d_Mod_linkConstant_130) hP hD hS hA [0] [1, 2, 3, 4, 5] rfl rfl (by decide) (by decide) (fun u53 H locs hr52 hP hD hS => ?_)
                try dsimp only at hr52
                have hP : va_P g.1 classes [((q 2), aI g 600 bs), ((q 14), aI g 620 tg), ((q 15), aI g 620 tl), ((q 16), aI g 620 on), ((q 17), aI g 620 tw), (h0, .inr (10, mob q rf n mm mb u53.1 u53.2 av ev wi mn tp tc sc nf fd me mp xn mt wh tq ag an ig))] H := hP
                have hD : va_D A [((q 2), aI g 600 bs), ((q 14), aI g 620 tg), ((q 15), aI g 620 tl), ((q 16), aI g 620 on), ((q 17), aI g 620 tw), (h0, .inr (10, mob q rf n mm mb u53.1 u53.2 av ev wi mn tp tc sc nf fd me mp xn mt wh tq ag an ig))] := hD
                have hP : va_P g.1 classes [(h0, .inr (10, mob q rf n mm mb u53.1 u53.2 av ev wi mn tp tc sc nf fd me mp xn mt wh tq ag an ig)), ((q 2), aI g 600 bs), ((q 14), aI g 620 tg), ((q 15), aI g 620 tl), ((q 16), aI g 620 on), ((q 17), aI g 620 tw)] H := hP.sub [5, 0, 1, 2, 3, 4] rfl
                have hD : va_D A [(h0, .inr (10, mob q rf n mm mb u53.1 u53.2 av ev wi mn tp tc sc nf fd me mp xn mt wh tq ag an ig)), ((q 2), aI g 600 bs), ((q 14), aI g 620 tg), ((q 15), aI g 620 tl), ((q 16), aI g 620 on), ((q 17), aI g 620 tw)] := hD.sub [5, 0, 1, 2, 3, 4] (by decide) rfl
                have hp53_0 := hr52
                refine lv_goto (tgt := 280) hx hb d_Mod_linkConstant_133 (by decide) ?_
                exact tw_vret E hS (u53.1, u53.2) (⟨(fun h => absurd h hp53_0), (fun h => absurd h hp53_0)⟩) hP hD d_Mod_linkConstant_280
            · have hT73 := hB50.2 (hB50.1.resolve_left h73)
              have hT73b : TGv mn tg 12 (tw k) := by rw [exb2]; exact hT73
              refine lv_iconst (v := 1) hx hb d_Mod_linkConstant_76 (by decide) ?_
              refine lv_goto (tgt := 114) hx hb d_Mod_linkConstant_77 (by decide) ?_
              refine lv_istore hx hb d_Mod_linkConstant_114 hl (by decide) rfl (fun ls hl => ?_)
              have hl : lv_has ls 6 [(5, .int 1), (4, .int xb2), (3, .int xa), (2, .int (tg k)), (0, .ref h0), (1, .int (nI k))] := hl
              refine lv_iload hx hb d_Mod_linkConstant_116 (lv_at hl 0 rfl) ?_
              refine lv_if_ne (tgt := 136) hx hb d_Mod_linkConstant_118 (by decide) (fun h118 => ?_) (fun h118 => ?_)
              · refine lv_iload_n hx hb d_Mod_linkConstant_136 rfl (lv_at hl 3 rfl) ?_
                refine lv_bipush (v := 7) hx hb d_Mod_linkConstant_137 (by decide) ?_
                refine lv_icmp_ne (tgt := 175) hx hb d_Mod_linkConstant_139 (by decide) (fun h139 => ?_) (fun h139 => ?_)
                · refine lv_iload_n hx hb d_Mod_linkConstant_175 rfl (lv_at hl 3 rfl) ?_
                  refine lv_bipush (v := 12) hx hb d_Mod_linkConstant_176 (by decide) ?_
                  refine lv_icmp_ne (tgt := 222) hx hb d_Mod_linkConstant_178 (by decide) (fun h178 => ?_) (fun h178 => ?_)
                  · refine lv_iload_n hx hb d_Mod_linkConstant_222 rfl (lv_at hl 3 rfl) ?_
                    refine lv_bipush (v := 12) hx hb d_Mod_linkConstant_223 (by decide) ?_
                    refine lv_icmp_ne (tgt := 280) hx hb d_Mod_linkConstant_225 (by decide) (fun h225 => ?_) (fun h225 => ?_)
                    · exact tw_vret E hS (fa, fp) (⟨(fun h => h), (fun _ => by exact LC1.d h52 hT62b hT73b)⟩) hP hD d_Mod_linkConstant_280
                    · exact absurd (h52.symm.trans h225) (by decide)
                  · exact absurd (h52.symm.trans h178) (by decide)
                · exact absurd (h52.symm.trans h139) (by decide)
              · first | exact absurd h118 (by decide) | exact absurd (by decide) h118
    · refine lv_aload_n hx hb d_Mod_linkConstant_34 rfl (lv_at hl 3 rfl) ?_
      refine lv_iload_n hx hb d_Mod_linkConstant_35 rfl (lv_at hl 1 rfl) ?_
      refine lv_iconst (v := 1) hx hb d_Mod_linkConstant_36 (by decide) ?_
      refine tw_si (tw_runV (ws := [(h0, .inr (10, mob q rf n mm mb fa fp av ev wi mn tp tc sc nf fd me mp xn mt wh tq ag an ig)), ((q 2), aI g 600 bs), ((q 14), aI g 620 tg), ((q 15), aI g 620 tl), ((q 16), aI g 620 on), ((q 17), aI g 620 tw)]) (wc := [(h0, .inr (10, mob q rf n mm mb fa fp av ev wi mn tp tc sc nf fd me mp xn mt wh tq ag an ig)), ((q 14), aI g 620 tg)]) (As := [.int xa, .int 1]) (rest := []) E hB hK hZ (g_Mod_isTagI l g H.size h0 q rf n mm mb fa fp av ev wi mn tp tc sc nf fd me mp xn mt wh tq ag an ig tg xa 1 (by omega)) mc_Mod_isTag mi_Mod_isTag me_Mod_isTag wd_1508 hP hD hS hA [0, 2] rfl (by decide) 0 rfl rfl rfl rfl rfl (by decide) rfl hl.1 rfl (Nat.le_of_ble_eq_true rfl) (by decide) d_Mod_linkConstant_37) (fun r54 hr54 => ?_)
      have hB54 := hr54
      refine lv_goto (tgt := 114) hx hb d_Mod_linkConstant_40 (by decide) ?_
      refine lv_istore hx hb d_Mod_linkConstant_114 hl (by decide) rfl (fun ls hl => ?_)
      have hl : lv_has ls 6 [(5, .int r54), (4, .int xb2), (3, .int xa), (2, .int (tg k)), (0, .ref h0), (1, .int (nI k))] := hl
      refine lv_iload hx hb d_Mod_linkConstant_116 (lv_at hl 0 rfl) ?_
      refine lv_if_ne (tgt := 136) hx hb d_Mod_linkConstant_118 (by decide) (fun h118 => ?_) (fun h118 => ?_)
      · have hT118 := hB54.2 (hB54.1.resolve_left h118)
        obtain ⟨ja, ja0, ja1, jae, jat⟩ := hT118
        subst jae
        obtain ⟨pa, la, paa, pab, pac⟩ := hTX ja (by omega) jat
        refine lv_iload_n hx hb d_Mod_linkConstant_136 rfl (lv_at hl 3 rfl) ?_
        refine lv_bipush (v := 7) hx hb d_Mod_linkConstant_137 (by decide) ?_
        refine lv_icmp_ne (tgt := 175) hx hb d_Mod_linkConstant_139 (by decide) (fun h139 => ?_) (fun h139 => ?_)
        · refine lv_iload_n hx hb d_Mod_linkConstant_175 rfl (lv_at hl 3 rfl) ?_
          refine lv_bipush (v := 12) hx hb d_Mod_linkConstant_176 (by decide) ?_
          refine lv_icmp_ne (tgt := 222) hx hb d_Mod_linkConstant_178 (by decide) (fun h178 => ?_) (fun h178 => ?_)
          · refine lv_iload_n hx hb d_Mod_linkConstant_222 rfl (lv_at hl 3 rfl) ?_
            refine lv_bipush (v := 12) hx hb d_Mod_linkConstant_223 (by decide) ?_
            refine lv_icmp_ne (tgt := 280) hx hb d_Mod_linkConstant_225 (by decide) (fun h225 => ?_) (fun h225 => ?_)
            · exact tw_vret E hS (fa, fp) (⟨(fun h => h), (fun _ => by exact LC1.b h31 ⟨ja, ja0, ja1, exa, jat⟩)⟩) hP hD d_Mod_linkConstant_280
            · exact absurd (h31.symm.trans h225) (by decide)
          · exact absurd (h31.symm.trans h178) (by decide)
        · exact absurd (h31.symm.trans h139) (by decide)
      · refine lv_aload_n hx hb d_Mod_linkConstant_121 rfl (lv_at hl 4 rfl) ?_
        refine lv_bipush (v := 6) hx hb d_Mod_linkConstant_122 (by decide) ?_
        refine lv_aload_n hx hb d_Mod_linkConstant_124 rfl (lv_at hl 4 rfl) ?_
        refine va_get (D := g.1) (ci := 10) (v := .ref (q 15)) (C := R_Mod) (T := F_Mod) (N := 61) hx hb hts in_Mod hown hK hP 0 rfl rfl 15 (by decide) (hts _ wd_1265) (fun _ h9 => h9) rfl d_Mod_linkConstant_125 ?_
        refine lv_iload_n hx hb d_Mod_linkConstant_128 rfl (lv_at hl 5 rfl) ?_
        refine va_iald hx hb hK hP 3 0 rfl rfl (vp_in_nI (by omega) (by decide)) d_Mod_linkConstant_129 ?_
        obtain ⟨x55, ex55⟩ : ∃ z : Int32, tl ((nI k).toNatClampNeg) = z := ⟨_, rfl⟩
        refine tw_ri (e2 := x55) ex55 ?_
        refine tw_wv (wr := [((q 2), aI g 600 bs), ((q 14), aI g 620 tg), ((q 15), aI g 620 tl), ((q 16), aI g 620 on), ((q 17), aI g 620 tw)]) (tw_runV (ws := [(h0, .inr (10, mob q rf n mm mb fa fp av ev wi mn tp tc sc nf fd me mp xn mt wh tq ag an ig)), ((q 2), aI g 600 bs), ((q 14), aI g 620 tg), ((q 15), aI g 620 tl), ((q 16), aI g 620 on), ((q 17), aI g 620 tw)]) (wc := [(h0, .inr (10, mob q rf n mm mb fa fp av ev wi mn tp tc sc nf fd me mp xn mt wh tq ag an ig))]) (As := [.int 6, .int x55]) (rest := []) E hB hK hZ (g_Mod_fail l g H.size h0 q rf n mm mb av ev wi mn tp tc sc nf fd me mp xn mt wh tq ag an ig fa fp 6 x55 (by decide)) mc_Mod_fail mi_Mod_fail me_Mod_fail wd_1478 hP hD hS hA [0] rfl (by decide) 0 rfl rfl rfl rfl rfl (by decide) rfl hl.1 rfl (Nat.le_of_ble_eq_true rfl) (by decide) d_Mod_linkConstant_130) hP hD hS hA [0] [1, 2, 3, 4, 5] rfl rfl (by decide) (by decide) (fun u57 H locs hr56 hP hD hS => ?_)
        try dsimp only at hr56
        have hP : va_P g.1 classes [((q 2), aI g 600 bs), ((q 14), aI g 620 tg), ((q 15), aI g 620 tl), ((q 16), aI g 620 on), ((q 17), aI g 620 tw), (h0, .inr (10, mob q rf n mm mb u57.1 u57.2 av ev wi mn tp tc sc nf fd me mp xn mt wh tq ag an ig))] H := hP
        have hD : va_D A [((q 2), aI g 600 bs), ((q 14), aI g 620 tg), ((q 15), aI g 620 tl), ((q 16), aI g 620 on), ((q 17), aI g 620 tw), (h0, .inr (10, mob q rf n mm mb u57.1 u57.2 av ev wi mn tp tc sc nf fd me mp xn mt wh tq ag an ig))] := hD
        have hP : va_P g.1 classes [(h0, .inr (10, mob q rf n mm mb u57.1 u57.2 av ev wi mn tp tc sc nf fd me mp xn mt wh tq ag an ig)), ((q 2), aI g 600 bs), ((q 14), aI g 620 tg), ((q 15), aI g 620 tl), ((q 16), aI g 620 on), ((q 17), aI g 620 tw)] H := hP.sub [5, 0, 1, 2, 3, 4] rfl
        have hD : va_D A [(h0, .inr (10, mob q rf n mm mb u57.1 u57.2 av ev wi mn tp tc sc nf fd me mp xn mt wh tq ag an ig)), ((q 2), aI g 600 bs), ((q 14), aI g 620 tg), ((q 15), aI g 620 tl), ((q 16), aI g 620 on), ((q 17), aI g 620 tw)] := hD.sub [5, 0, 1, 2, 3, 4] (by decide) rfl
        have hp57_0 := hr56
        refine lv_goto (tgt := 280) hx hb d_Mod_linkConstant_133 (by decide) ?_
        exact tw_vret E hS (u57.1, u57.2) (⟨(fun h => absurd h hp57_0), (fun h => absurd h hp57_0)⟩) hP hD d_Mod_linkConstant_280
