set_option maxHeartbeats 4000000 in
set_option maxRecDepth 100000 in
theorem g_Mod_checkHandlers (l : Launch) (g : tw_G) (sz : Nat) (h0 : Nat) (q : Nat → Nat) (rf : Int32) (n : Nat) (mm : Int32) (mb : Int32) (av : Nat) (ev : Nat) (wi : Int32) (mn : Nat) (tp : Int32) (tc : Int32) (sc : Int32) (nf : Nat) (fd : Nat) (me : Nat) (mp : Int32) (xn : Nat) (mt : Nat) (wh : Nat) (tq : Nat) (ag : Nat) (an : Int32) (ig : Int32) (bs : Nat → Int32) (tg : Nat → Int32) (bg : Nat → Int32) (ln : Nat → Int32) (xf : Nat → Int32) (xt : Nat → Int32) (xp : Nat → Int32) (is_ : Nat → Int32) (fa : Int32) (fp : Int32) (mi : Nat) (b1 l1 x1 y1 : Nat) (hmi : mi < 160) (hbg : bg mi = nI b1) (hln : ln mi = nI l1) (hbl : b1 + l1 ≤ 600) (hxf : xf mi = nI x1) (hxt : xt mi = nI y1) (hx1y : x1 ≤ y1) (hxy : y1 ≤ xn) (hxn : xn ≤ 75) (hXP : XPL xp xn) (hmn : mn ≤ 620) (hbs : BYT bs) : Met l y_Mod_checkHandlers [.code y_Mod_checkHandlers b_Mod_checkHandlers 8 none] ({ frames := 1, cells := 0, slots := 0, locals := 22 }) (tw_P g [.ref h0, .int (nI mi)] [(h0, .inr (10, mob q rf n mm mb fa fp av ev wi mn tp tc sc nf fd me mp xn mt wh tq ag an ig)), ((q 2), aI g 600 bs), ((q 14), aI g 620 tg), ((q 34), aI g 160 bg), ((q 35), aI g 160 ln), ((q 36), aI g 160 xf), ((q 37), aI g 160 xt), ((q 39), aI g 160 xp), ((q 40), aZ g 600 is_)] sz) (tw_Qv g (fun (u : Int32 × Int32) => (u.1 = 0 → fa = 0) ∧ (u.1 = 0 → ∀ j, x1 ≤ j → j < y1 → HN1 bs xp l1 j)) (fun u : Int32 × Int32 => [(h0, .inr (10, mob q rf n mm mb u.1 u.2 av ev wi mn tp tc sc nf fd me mp xn mt wh tq ag an ig)), ((q 2), aI g 600 bs), ((q 14), aI g 620 tg), ((q 34), aI g 160 bg), ((q 35), aI g 160 ln), ((q 36), aI g 160 xf), ((q 37), aI g 160 xt), ((q 39), aI g 160 xp), ((q 40), aZ g 600 is_)]) (va_A [(h0, .inr (10, mob q rf n mm mb fa fp av ev wi mn tp tc sc nf fd me mp xn mt wh tq ag an ig)), ((q 2), aI g 600 bs), ((q 14), aI g 620 tg), ((q 34), aI g 160 bg), ((q 35), aI g 160 ln), ((q 36), aI g 160 xf), ((q 37), aI g 160 xt), ((q 39), aI g 160 xp), ((q 40), aZ g 600 is_)] sz)) 0 0 (va_A [(h0, .inr (10, mob q rf n mm mb fa fp av ev wi mn tp tc sc nf fd me mp xn mt wh tq ag an ig)), ((q 2), aI g 600 bs), ((q 14), aI g 620 tg), ((q 34), aI g 160 bg), ((q 35), aI g 160 ln), ((q 36), aI g 160 xf), ((q 37), aI g 160 xt), ((q 39), aI g 160 xp), ((q 40), aZ g 600 is_)] sz) := by
  refine tw_metW (l := l) (g := g) (y := y_Mod_checkHandlers) (cc := b_Mod_checkHandlers) (maxL := 8) (ret := none) (rm := { frames := 1, cells := 0, slots := 0, locals := 22 }) (mc := 0) (ms := 0) (av := [.ref h0, .int (nI mi)]) (ws := [(h0, .inr (10, mob q rf n mm mb fa fp av ev wi mn tp tc sc nf fd me mp xn mt wh tq ag an ig)), ((q 2), aI g 600 bs), ((q 14), aI g 620 tg), ((q 34), aI g 160 bg), ((q 35), aI g 160 ln), ((q 36), aI g 160 xf), ((q 37), aI g 160 xt), ((q 39), aI g 160 xp), ((q 40), aZ g 600 is_)]) (sz := sz) (Qc := fun A => (tw_Qv g (fun (u : Int32 × Int32) => (u.1 = 0 → fa = 0) ∧ (u.1 = 0 → ∀ j, x1 ≤ j → j < y1 → HN1 bs xp l1 j)) (fun u : Int32 × Int32 => [(h0, .inr (10, mob q rf n mm mb u.1 u.2 av ev wi mn tp tc sc nf fd me mp xn mt wh tq ag an ig)), ((q 2), aI g 600 bs), ((q 14), aI g 620 tg), ((q 34), aI g 160 bg), ((q 35), aI g 160 ln), ((q 36), aI g 160 xf), ((q 37), aI g 160 xt), ((q 39), aI g 160 xp), ((q 40), aZ g 600 is_)]) A)) (by decide) (Nat.le_of_ble_eq_true rfl) ?_
  intro p e s m below meth c ls H A E hB hK hZ hP hD hS hA hl
  obtain ⟨hx, hb, hml, hr, hown, hts, hlocks, hin⟩ := id E
  have hl : lv_has ls 8 [(0, .ref h0), (1, .int (nI mi))] := hl
  refine lv_aload_n hx hb d_Mod_checkHandlers_0 rfl (lv_at hl 0 rfl) ?_
  refine va_get (D := g.1) (ci := 10) (v := .ref (q 36)) (C := R_Mod) (T := F_Mod) (N := 61) hx hb hts in_Mod hown hK hP 0 rfl rfl 36 (by decide) (hts _ wd_1286) (fun _ h9 => h9) rfl d_Mod_checkHandlers_1 ?_
  refine lv_iload_n hx hb d_Mod_checkHandlers_4 rfl (lv_at hl 1 rfl) ?_
  refine va_iald hx hb hK hP 5 0 rfl rfl (vp_in_nI (by omega) (by decide)) d_Mod_checkHandlers_5 ?_
  refine tw_ri (e2 := nI x1) (by rw [nI_clamp (by omega)]; exact hxf) ?_
  refine lv_istore_n hx hb d_Mod_checkHandlers_6 rfl hl (by decide) rfl (fun ls hl => ?_)
  have hl : lv_has ls 8 [(2, .int (nI x1)), (0, .ref h0), (1, .int (nI mi))] := hl
  have loop7 : ∀ (kq : Nat) (i : Nat) (fa9 : Int32) (fp9 : Int32) (ls : Array Slot) (H : Heap) (locs : List Loc) , y1 - i = kq → (hc9 : fa9 = 0 → fa = 0) → (hui : i ≤ 700) → (hi1 : x1 ≤ i) → (hHNk : fa9 = 0 → ∀ j, x1 ≤ j → j < i → HN1 bs xp l1 j) → lv_has ls 8 [(2, .int (nI i)), (0, .ref h0), (1, .int (nI mi))] → va_P g.1 classes [(h0, .inr (10, mob q rf n mm mb fa9 fp9 av ev wi mn tp tc sc nf fd me mp xn mt wh tq ag an ig)), ((q 2), aI g 600 bs), ((q 14), aI g 620 tg), ((q 34), aI g 160 bg), ((q 35), aI g 160 ln), ((q 36), aI g 160 xf), ((q 37), aI g 160 xt), ((q 39), aI g 160 xp), ((q 40), aZ g 600 is_)] H → va_D A [(h0, .inr (10, mob q rf n mm mb fa9 fp9 av ev wi mn tp tc sc nf fd me mp xn mt wh tq ag an ig)), ((q 2), aI g 600 bs), ((q 14), aI g 620 tg), ((q 34), aI g 160 bg), ((q 35), aI g 160 ln), ((q 36), aI g 160 xf), ((q 37), aI g 160 xt), ((q 39), aI g 160 xp), ((q 40), aZ g 600 is_)] → va_S A s.heap H locs → W p l e ({ frames := 1, cells := 0, slots := 0, locals := 22 }) s m [.ref h0, .int (nI mi)].toArray below meth c H locs 0 0 (MQ below (tw_Qv g (fun (u : Int32 × Int32) => (u.1 = 0 → fa = 0) ∧ (u.1 = 0 → ∀ j, x1 ≤ j → j < y1 → HN1 bs xp l1 j)) (fun u : Int32 × Int32 => [(h0, .inr (10, mob q rf n mm mb u.1 u.2 av ev wi mn tp tc sc nf fd me mp xn mt wh tq ag an ig)), ((q 2), aI g 600 bs), ((q 14), aI g 620 tg), ((q 34), aI g 160 bg), ((q 35), aI g 160 ln), ((q 36), aI g 160 xf), ((q 37), aI g 160 xt), ((q 39), aI g 160 xp), ((q 40), aZ g 600 is_)]) A) [.ref h0, .int (nI mi)].toArray s 0 0 A) (F0 m 7 ls []) := by
    intro kq
    induction kq using Nat.strongRecOn with
    | _ kq ih =>
      intro i fa9 fp9 ls H locs hk hc9 hui hi1 hHNk hl hP hD hS
      refine lv_iload_n hx hb d_Mod_checkHandlers_7 rfl (lv_at hl 0 rfl) ?_
      refine lv_aload_n hx hb d_Mod_checkHandlers_8 rfl (lv_at hl 1 rfl) ?_
      refine va_get (D := g.1) (ci := 10) (v := .ref (q 37)) (C := R_Mod) (T := F_Mod) (N := 61) hx hb hts in_Mod hown hK hP 0 rfl rfl 37 (by decide) (hts _ wd_1287) (fun _ h9 => h9) rfl d_Mod_checkHandlers_9 ?_
      refine lv_iload_n hx hb d_Mod_checkHandlers_12 rfl (lv_at hl 2 rfl) ?_
      refine va_iald hx hb hK hP 6 0 rfl rfl (vp_in_nI (by omega) (by decide)) d_Mod_checkHandlers_13 ?_
      refine tw_ri (e2 := nI y1) (by rw [nI_clamp (by omega)]; exact hxt) ?_
      refine lv_icmp_ge (tgt := 151) hx hb d_Mod_checkHandlers_14 (by decide) (fun h14 => ?_) (fun h14 => ?_)
      · have h14 := tn_le h14 (by omega) (by omega)
        exact tw_vret E hS (fa9, fp9) (⟨(fun h => (fun h => h) (hc9 h)), (fun hz => by have hz1 := hc9 hz; have hz2 := hHNk hz; exact fun j h1 h2 => hz2 j h1 (by omega))⟩) hP hD d_Mod_checkHandlers_151
      · have h14 := tn_nle h14 (by omega) (by omega)
        obtain ⟨px, epx, hpx⟩ := hXP i (by omega)
        have t21 := t2_lt hbs (i := px) (by omega)
        have t22 := t2_lt hbs (i := px + 2) (by omega)
        have t23 := t2_lt hbs (i := px + 4) (by omega)
        have t24 := t2_lt hbs (i := px + 6) (by omega)
        refine lv_aload_n hx hb d_Mod_checkHandlers_17 rfl (lv_at hl 1 rfl) ?_
        refine va_get (D := g.1) (ci := 10) (v := .int fa9) (C := R_Mod) (T := F_Mod) (N := 61) hx hb hts in_Mod hown hK hP 0 rfl rfl 8 (by decide) (hts _ wd_1258) (fun _ h9 => h9) rfl d_Mod_checkHandlers_18 ?_
        refine lv_if_ne (tgt := 151) hx hb d_Mod_checkHandlers_21 (by decide) (fun h21 => ?_) (fun h21 => ?_)
        · exact tw_vret E hS (fa9, fp9) (⟨(fun h => absurd h h21), (fun h => absurd h h21)⟩) hP hD d_Mod_checkHandlers_151
        · have hz3 := hc9 h21
          have hz4 := hHNk h21
          refine lv_aload_n hx hb d_Mod_checkHandlers_24 rfl (lv_at hl 1 rfl) ?_
          refine va_get (D := g.1) (ci := 10) (v := .ref (q 39)) (C := R_Mod) (T := F_Mod) (N := 61) hx hb hts in_Mod hown hK hP 0 rfl rfl 39 (by decide) (hts _ wd_1289) (fun _ h9 => h9) rfl d_Mod_checkHandlers_25 ?_
          refine lv_iload_n hx hb d_Mod_checkHandlers_28 rfl (lv_at hl 0 rfl) ?_
          refine va_iald hx hb hK hP 7 0 rfl rfl (vp_in_nI (by omega) (by decide)) d_Mod_checkHandlers_29 ?_
          refine tw_ri (e2 := nI px) (by rw [nI_clamp (by omega)]; exact epx) ?_
          refine lv_istore_n hx hb d_Mod_checkHandlers_30 rfl hl (by decide) rfl (fun ls hl => ?_)
          have hl : lv_has ls 8 [(3, .int (nI px)), (2, .int (nI i)), (0, .ref h0), (1, .int (nI mi))] := hl
          refine lv_aload_n hx hb d_Mod_checkHandlers_31 rfl (lv_at hl 2 rfl) ?_
          refine lv_iload_n hx hb d_Mod_checkHandlers_32 rfl (lv_at hl 0 rfl) ?_
          refine tw_si (tw_runV (ws := [(h0, .inr (10, mob q rf n mm mb fa9 fp9 av ev wi mn tp tc sc nf fd me mp xn mt wh tq ag an ig)), ((q 2), aI g 600 bs), ((q 14), aI g 620 tg), ((q 34), aI g 160 bg), ((q 35), aI g 160 ln), ((q 36), aI g 160 xf), ((q 37), aI g 160 xt), ((q 39), aI g 160 xp), ((q 40), aZ g 600 is_)]) (wc := [(h0, .inr (10, mob q rf n mm mb fa9 fp9 av ev wi mn tp tc sc nf fd me mp xn mt wh tq ag an ig)), ((q 2), aI g 600 bs)]) (As := [.int (nI px)]) (rest := []) E hB hK hZ (g_Mod_twoAt l g H.size h0 q rf n mm mb fa9 fp9 av ev wi mn tp tc sc nf fd me mp xn mt wh tq ag an ig bs px hbs (by omega)) mc_Mod_twoAt mi_Mod_twoAt me_Mod_twoAt wd_1616 hP hD hS hA [0, 1] rfl (by decide) 0 rfl rfl rfl rfl rfl (by decide) rfl hl.1 rfl (Nat.le_of_ble_eq_true rfl) (by decide) d_Mod_checkHandlers_33) (fun r5 hr5 => ?_)
          have hB5 := hr5
          subst hB5
          refine lv_istore hx hb d_Mod_checkHandlers_36 hl (by decide) rfl (fun ls hl => ?_)
          have hl : lv_has ls 8 [(4, .int (nI (t2 bs px))), (3, .int (nI px)), (2, .int (nI i)), (0, .ref h0), (1, .int (nI mi))] := hl
          refine lv_aload_n hx hb d_Mod_checkHandlers_38 rfl (lv_at hl 3 rfl) ?_
          refine lv_iload_n hx hb d_Mod_checkHandlers_39 rfl (lv_at hl 1 rfl) ?_
          refine lv_iconst (v := 2) hx hb d_Mod_checkHandlers_40 (by decide) ?_
          refine lv_iadd hx hb d_Mod_checkHandlers_41 ?_
          refine tw_ri (e2 := nI (px + 2)) (nI_add px 2) ?_
          refine tw_si (tw_runV (ws := [(h0, .inr (10, mob q rf n mm mb fa9 fp9 av ev wi mn tp tc sc nf fd me mp xn mt wh tq ag an ig)), ((q 2), aI g 600 bs), ((q 14), aI g 620 tg), ((q 34), aI g 160 bg), ((q 35), aI g 160 ln), ((q 36), aI g 160 xf), ((q 37), aI g 160 xt), ((q 39), aI g 160 xp), ((q 40), aZ g 600 is_)]) (wc := [(h0, .inr (10, mob q rf n mm mb fa9 fp9 av ev wi mn tp tc sc nf fd me mp xn mt wh tq ag an ig)), ((q 2), aI g 600 bs)]) (As := [.int (nI (px + 2))]) (rest := []) E hB hK hZ (g_Mod_twoAt l g H.size h0 q rf n mm mb fa9 fp9 av ev wi mn tp tc sc nf fd me mp xn mt wh tq ag an ig bs (px + 2) hbs (by omega)) mc_Mod_twoAt mi_Mod_twoAt me_Mod_twoAt wd_1616 hP hD hS hA [0, 1] rfl (by decide) 0 rfl rfl rfl rfl rfl (by decide) rfl hl.1 rfl (Nat.le_of_ble_eq_true rfl) (by decide) d_Mod_checkHandlers_42) (fun r6 hr6 => ?_)
          have hB6 := hr6
          subst hB6
          refine lv_istore hx hb d_Mod_checkHandlers_45 hl (by decide) rfl (fun ls hl => ?_)
          have hl : lv_has ls 8 [(5, .int (nI (t2 bs (px + 2)))), (4, .int (nI (t2 bs px))), (3, .int (nI px)), (2, .int (nI i)), (0, .ref h0), (1, .int (nI mi))] := hl
          refine lv_iload hx hb d_Mod_checkHandlers_47 (lv_at hl 1 rfl) ?_
          refine lv_iload hx hb d_Mod_checkHandlers_49 (lv_at hl 0 rfl) ?_
          refine lv_icmp_ge (tgt := 104) hx hb d_Mod_checkHandlers_51 (by decide) (fun h51 => ?_) (fun h51 => ?_)
          · refine lv_iconst (v := 0) hx hb d_Mod_checkHandlers_104 (by decide) ?_
            refine lv_istore hx hb d_Mod_checkHandlers_105 hl (by decide) rfl (fun ls hl => ?_)
            have hl : lv_has ls 8 [(6, .int 0), (5, .int (nI (t2 bs (px + 2)))), (4, .int (nI (t2 bs px))), (3, .int (nI px)), (2, .int (nI i)), (0, .ref h0), (1, .int (nI mi))] := hl
            refine lv_aload_n hx hb d_Mod_checkHandlers_107 rfl (lv_at hl 5 rfl) ?_
            refine lv_iload_n hx hb d_Mod_checkHandlers_108 rfl (lv_at hl 3 rfl) ?_
            refine lv_bipush (v := 6) hx hb d_Mod_checkHandlers_109 (by decide) ?_
            refine lv_iadd hx hb d_Mod_checkHandlers_111 ?_
            refine tw_ri (e2 := nI (px + 6)) (nI_add px 6) ?_
            refine tw_si (tw_runV (ws := [(h0, .inr (10, mob q rf n mm mb fa9 fp9 av ev wi mn tp tc sc nf fd me mp xn mt wh tq ag an ig)), ((q 2), aI g 600 bs), ((q 14), aI g 620 tg), ((q 34), aI g 160 bg), ((q 35), aI g 160 ln), ((q 36), aI g 160 xf), ((q 37), aI g 160 xt), ((q 39), aI g 160 xp), ((q 40), aZ g 600 is_)]) (wc := [(h0, .inr (10, mob q rf n mm mb fa9 fp9 av ev wi mn tp tc sc nf fd me mp xn mt wh tq ag an ig)), ((q 2), aI g 600 bs)]) (As := [.int (nI (px + 6))]) (rest := []) E hB hK hZ (g_Mod_twoAt l g H.size h0 q rf n mm mb fa9 fp9 av ev wi mn tp tc sc nf fd me mp xn mt wh tq ag an ig bs (px + 6) hbs (by omega)) mc_Mod_twoAt mi_Mod_twoAt me_Mod_twoAt wd_1616 hP hD hS hA [0, 1] rfl (by decide) 0 rfl rfl rfl rfl rfl (by decide) rfl hl.1 rfl (Nat.le_of_ble_eq_true rfl) (by decide) d_Mod_checkHandlers_112) (fun r7 hr7 => ?_)
            have hB7 := hr7
            subst hB7
            refine lv_istore hx hb d_Mod_checkHandlers_115 hl (by decide) rfl (fun ls hl => ?_)
            have hl : lv_has ls 8 [(7, .int (nI (t2 bs (px + 6)))), (6, .int 0), (5, .int (nI (t2 bs (px + 2)))), (4, .int (nI (t2 bs px))), (3, .int (nI px)), (2, .int (nI i)), (0, .ref h0), (1, .int (nI mi))] := hl
            refine lv_iload hx hb d_Mod_checkHandlers_117 (lv_at hl 1 rfl) ?_
            refine lv_if_eq (tgt := 138) hx hb d_Mod_checkHandlers_119 (by decide) (fun h119 => ?_) (fun h119 => ?_)
            · refine lv_aload_n hx hb d_Mod_checkHandlers_138 rfl (lv_at hl 6 rfl) ?_
              refine lv_bipush (v := 20) hx hb d_Mod_checkHandlers_139 (by decide) ?_
              refine lv_iload_n hx hb d_Mod_checkHandlers_141 rfl (lv_at hl 4 rfl) ?_
              refine tw_wv (wr := [((q 2), aI g 600 bs), ((q 14), aI g 620 tg), ((q 34), aI g 160 bg), ((q 35), aI g 160 ln), ((q 36), aI g 160 xf), ((q 37), aI g 160 xt), ((q 39), aI g 160 xp), ((q 40), aZ g 600 is_)]) (tw_runV (ws := [(h0, .inr (10, mob q rf n mm mb fa9 fp9 av ev wi mn tp tc sc nf fd me mp xn mt wh tq ag an ig)), ((q 2), aI g 600 bs), ((q 14), aI g 620 tg), ((q 34), aI g 160 bg), ((q 35), aI g 160 ln), ((q 36), aI g 160 xf), ((q 37), aI g 160 xt), ((q 39), aI g 160 xp), ((q 40), aZ g 600 is_)]) (wc := [(h0, .inr (10, mob q rf n mm mb fa9 fp9 av ev wi mn tp tc sc nf fd me mp xn mt wh tq ag an ig))]) (As := [.int 20, .int (nI px)]) (rest := []) E hB hK hZ (g_Mod_fail l g H.size h0 q rf n mm mb av ev wi mn tp tc sc nf fd me mp xn mt wh tq ag an ig fa9 fp9 20 (nI px) (by decide)) mc_Mod_fail mi_Mod_fail me_Mod_fail wd_1478 hP hD hS hA [0] rfl (by decide) 0 rfl rfl rfl rfl rfl (by decide) rfl hl.1 rfl (Nat.le_of_ble_eq_true rfl) (by decide) d_Mod_checkHandlers_142) hP hD hS hA [0] [1, 2, 3, 4, 5, 6, 7, 8] rfl rfl (by decide) (by decide) (fun u9 H locs hr8 hP hD hS => ?_)
              try dsimp only at hr8
              have hP : va_P g.1 classes [((q 2), aI g 600 bs), ((q 14), aI g 620 tg), ((q 34), aI g 160 bg), ((q 35), aI g 160 ln), ((q 36), aI g 160 xf), ((q 37), aI g 160 xt), ((q 39), aI g 160 xp), ((q 40), aZ g 600 is_), (h0, .inr (10, mob q rf n mm mb u9.1 u9.2 av ev wi mn tp tc sc nf fd me mp xn mt wh tq ag an ig))] H := hP
              have hD : va_D A [((q 2), aI g 600 bs), ((q 14), aI g 620 tg), ((q 34), aI g 160 bg), ((q 35), aI g 160 ln), ((q 36), aI g 160 xf), ((q 37), aI g 160 xt), ((q 39), aI g 160 xp), ((q 40), aZ g 600 is_), (h0, .inr (10, mob q rf n mm mb u9.1 u9.2 av ev wi mn tp tc sc nf fd me mp xn mt wh tq ag an ig))] := hD
              have hP : va_P g.1 classes [(h0, .inr (10, mob q rf n mm mb u9.1 u9.2 av ev wi mn tp tc sc nf fd me mp xn mt wh tq ag an ig)), ((q 2), aI g 600 bs), ((q 14), aI g 620 tg), ((q 34), aI g 160 bg), ((q 35), aI g 160 ln), ((q 36), aI g 160 xf), ((q 37), aI g 160 xt), ((q 39), aI g 160 xp), ((q 40), aZ g 600 is_)] H := hP.sub [8, 0, 1, 2, 3, 4, 5, 6, 7] rfl
              have hD : va_D A [(h0, .inr (10, mob q rf n mm mb u9.1 u9.2 av ev wi mn tp tc sc nf fd me mp xn mt wh tq ag an ig)), ((q 2), aI g 600 bs), ((q 14), aI g 620 tg), ((q 34), aI g 160 bg), ((q 35), aI g 160 ln), ((q 36), aI g 160 xf), ((q 37), aI g 160 xt), ((q 39), aI g 160 xp), ((q 40), aZ g 600 is_)] := hD.sub [8, 0, 1, 2, 3, 4, 5, 6, 7] (by decide) rfl
              have hp9_0 := hr8
              refine lv_iinc (k := 5) (v := nI (i + 1)) hx hb d_Mod_checkHandlers_145 hl rfl ((nI_succ i).symm) (by decide) rfl (fun ls hl => ?_)
              have hl : lv_has ls 8 [(2, .int (nI (i + 1))), (7, .int (nI (t2 bs (px + 6)))), (6, .int 0), (5, .int (nI (t2 bs (px + 2)))), (4, .int (nI (t2 bs px))), (3, .int (nI px)), (0, .ref h0), (1, .int (nI mi))] := hl
              refine lv_goto (tgt := 7) hx hb d_Mod_checkHandlers_148 (by decide) ?_
              have hP : va_P g.1 classes [(h0, .inr (10, mob q rf n mm mb u9.1 u9.2 av ev wi mn tp tc sc nf fd me mp xn mt wh tq ag an ig)), ((q 2), aI g 600 bs), ((q 14), aI g 620 tg), ((q 34), aI g 160 bg), ((q 35), aI g 160 ln), ((q 36), aI g 160 xf), ((q 37), aI g 160 xt), ((q 39), aI g 160 xp), ((q 40), aZ g 600 is_)] H := hP.sub [0, 1, 2, 3, 4, 5, 6, 7, 8] rfl
              have hD : va_D A [(h0, .inr (10, mob q rf n mm mb u9.1 u9.2 av ev wi mn tp tc sc nf fd me mp xn mt wh tq ag an ig)), ((q 2), aI g 600 bs), ((q 14), aI g 620 tg), ((q 34), aI g 160 bg), ((q 35), aI g 160 ln), ((q 36), aI g 160 xf), ((q 37), aI g 160 xt), ((q 39), aI g 160 xp), ((q 40), aZ g 600 is_)] := hD.sub [0, 1, 2, 3, 4, 5, 6, 7, 8] (by decide) rfl
              exact ih _ (by omega) (i + 1) u9.1 u9.2 ls _ _ rfl (fun h => absurd h hp9_0) (by omega) (by omega) (fun h => absurd h hp9_0) (lv_sub hl [0, 6, 7] rfl) hP hD hS
            · first | exact absurd h119 (by decide) | exact absurd (by decide) h119
          · refine lv_aload_n hx hb d_Mod_checkHandlers_54 rfl (lv_at hl 4 rfl) ?_
            refine lv_iload_n hx hb d_Mod_checkHandlers_55 rfl (lv_at hl 5 rfl) ?_
            refine lv_iload hx hb d_Mod_checkHandlers_56 (lv_at hl 1 rfl) ?_
            refine tw_si (tw_runV (ws := [(h0, .inr (10, mob q rf n mm mb fa9 fp9 av ev wi mn tp tc sc nf fd me mp xn mt wh tq ag an ig)), ((q 2), aI g 600 bs), ((q 14), aI g 620 tg), ((q 34), aI g 160 bg), ((q 35), aI g 160 ln), ((q 36), aI g 160 xf), ((q 37), aI g 160 xt), ((q 39), aI g 160 xp), ((q 40), aZ g 600 is_)]) (wc := [(h0, .inr (10, mob q rf n mm mb fa9 fp9 av ev wi mn tp tc sc nf fd me mp xn mt wh tq ag an ig)), ((q 34), aI g 160 bg), ((q 35), aI g 160 ln), ((q 40), aZ g 600 is_)]) (As := [.int (nI mi), .int (nI (t2 bs px))]) (rest := []) E hB hK hZ (g_Mod_isInstructionN l g H.size h0 q rf n mm mb fa9 fp9 av ev wi mn tp tc sc nf fd me mp xn mt wh tq ag an ig bg ln is_ mi (t2 bs px) b1 l1 (by omega) hbg hln (by omega) (by omega)) mc_Mod_isInstruction mi_Mod_isInstruction me_Mod_isInstruction wd_1620 hP hD hS hA [0, 3, 4, 8] rfl (by decide) 0 rfl rfl rfl rfl rfl (by decide) rfl hl.1 rfl (Nat.le_of_ble_eq_true rfl) (by decide) d_Mod_checkHandlers_58) (fun r10 hr10 => ?_)
            have hB10 := hr10
            refine lv_if_eq (tgt := 104) hx hb d_Mod_checkHandlers_61 (by decide) (fun h61 => ?_) (fun h61 => ?_)
            · refine lv_iconst (v := 0) hx hb d_Mod_checkHandlers_104 (by decide) ?_
              refine lv_istore hx hb d_Mod_checkHandlers_105 hl (by decide) rfl (fun ls hl => ?_)
              have hl : lv_has ls 8 [(6, .int 0), (5, .int (nI (t2 bs (px + 2)))), (4, .int (nI (t2 bs px))), (3, .int (nI px)), (2, .int (nI i)), (0, .ref h0), (1, .int (nI mi))] := hl
              refine lv_aload_n hx hb d_Mod_checkHandlers_107 rfl (lv_at hl 5 rfl) ?_
              refine lv_iload_n hx hb d_Mod_checkHandlers_108 rfl (lv_at hl 3 rfl) ?_
              refine lv_bipush (v := 6) hx hb d_Mod_checkHandlers_109 (by decide) ?_
              refine lv_iadd hx hb d_Mod_checkHandlers_111 ?_
              refine tw_ri (e2 := nI (px + 6)) (nI_add px 6) ?_
              refine tw_si (tw_runV (ws := [(h0, .inr (10, mob q rf n mm mb fa9 fp9 av ev wi mn tp tc sc nf fd me mp xn mt wh tq ag an ig)), ((q 2), aI g 600 bs), ((q 14), aI g 620 tg), ((q 34), aI g 160 bg), ((q 35), aI g 160 ln), ((q 36), aI g 160 xf), ((q 37), aI g 160 xt), ((q 39), aI g 160 xp), ((q 40), aZ g 600 is_)]) (wc := [(h0, .inr (10, mob q rf n mm mb fa9 fp9 av ev wi mn tp tc sc nf fd me mp xn mt wh tq ag an ig)), ((q 2), aI g 600 bs)]) (As := [.int (nI (px + 6))]) (rest := []) E hB hK hZ (g_Mod_twoAt l g H.size h0 q rf n mm mb fa9 fp9 av ev wi mn tp tc sc nf fd me mp xn mt wh tq ag an ig bs (px + 6) hbs (by omega)) mc_Mod_twoAt mi_Mod_twoAt me_Mod_twoAt wd_1616 hP hD hS hA [0, 1] rfl (by decide) 0 rfl rfl rfl rfl rfl (by decide) rfl hl.1 rfl (Nat.le_of_ble_eq_true rfl) (by decide) d_Mod_checkHandlers_112) (fun r11 hr11 => ?_)
              have hB11 := hr11
              subst hB11
              refine lv_istore hx hb d_Mod_checkHandlers_115 hl (by decide) rfl (fun ls hl => ?_)
              have hl : lv_has ls 8 [(7, .int (nI (t2 bs (px + 6)))), (6, .int 0), (5, .int (nI (t2 bs (px + 2)))), (4, .int (nI (t2 bs px))), (3, .int (nI px)), (2, .int (nI i)), (0, .ref h0), (1, .int (nI mi))] := hl
              refine lv_iload hx hb d_Mod_checkHandlers_117 (lv_at hl 1 rfl) ?_
              refine lv_if_eq (tgt := 138) hx hb d_Mod_checkHandlers_119 (by decide) (fun h119 => ?_) (fun h119 => ?_)
              · refine lv_aload_n hx hb d_Mod_checkHandlers_138 rfl (lv_at hl 6 rfl) ?_
                refine lv_bipush (v := 20) hx hb d_Mod_checkHandlers_139 (by decide) ?_
                refine lv_iload_n hx hb d_Mod_checkHandlers_141 rfl (lv_at hl 4 rfl) ?_
                refine tw_wv (wr := [((q 2), aI g 600 bs), ((q 14), aI g 620 tg), ((q 34), aI g 160 bg), ((q 35), aI g 160 ln), ((q 36), aI g 160 xf), ((q 37), aI g 160 xt), ((q 39), aI g 160 xp), ((q 40), aZ g 600 is_)]) (tw_runV (ws := [(h0, .inr (10, mob q rf n mm mb fa9 fp9 av ev wi mn tp tc sc nf fd me mp xn mt wh tq ag an ig)), ((q 2), aI g 600 bs), ((q 14), aI g 620 tg), ((q 34), aI g 160 bg), ((q 35), aI g 160 ln), ((q 36), aI g 160 xf), ((q 37), aI g 160 xt), ((q 39), aI g 160 xp), ((q 40), aZ g 600 is_)]) (wc := [(h0, .inr (10, mob q rf n mm mb fa9 fp9 av ev wi mn tp tc sc nf fd me mp xn mt wh tq ag an ig))]) (As := [.int 20, .int (nI px)]) (rest := []) E hB hK hZ (g_Mod_fail l g H.size h0 q rf n mm mb av ev wi mn tp tc sc nf fd me mp xn mt wh tq ag an ig fa9 fp9 20 (nI px) (by decide)) mc_Mod_fail mi_Mod_fail me_Mod_fail wd_1478 hP hD hS hA [0] rfl (by decide) 0 rfl rfl rfl rfl rfl (by decide) rfl hl.1 rfl (Nat.le_of_ble_eq_true rfl) (by decide) d_Mod_checkHandlers_142) hP hD hS hA [0] [1, 2, 3, 4, 5, 6, 7, 8] rfl rfl (by decide) (by decide) (fun u13 H locs hr12 hP hD hS => ?_)
                try dsimp only at hr12
                have hP : va_P g.1 classes [((q 2), aI g 600 bs), ((q 14), aI g 620 tg), ((q 34), aI g 160 bg), ((q 35), aI g 160 ln), ((q 36), aI g 160 xf), ((q 37), aI g 160 xt), ((q 39), aI g 160 xp), ((q 40), aZ g 600 is_), (h0, .inr (10, mob q rf n mm mb u13.1 u13.2 av ev wi mn tp tc sc nf fd me mp xn mt wh tq ag an ig))] H := hP
                have hD : va_D A [((q 2), aI g 600 bs), ((q 14), aI g 620 tg), ((q 34), aI g 160 bg), ((q 35), aI g 160 ln), ((q 36), aI g 160 xf), ((q 37), aI g 160 xt), ((q 39), aI g 160 xp), ((q 40), aZ g 600 is_), (h0, .inr (10, mob q rf n mm mb u13.1 u13.2 av ev wi mn tp tc sc nf fd me mp xn mt wh tq ag an ig))] := hD
                have hP : va_P g.1 classes [(h0, .inr (10, mob q rf n mm mb u13.1 u13.2 av ev wi mn tp tc sc nf fd me mp xn mt wh tq ag an ig)), ((q 2), aI g 600 bs), ((q 14), aI g 620 tg), ((q 34), aI g 160 bg), ((q 35), aI g 160 ln), ((q 36), aI g 160 xf), ((q 37), aI g 160 xt), ((q 39), aI g 160 xp), ((q 40), aZ g 600 is_)] H := hP.sub [8, 0, 1, 2, 3, 4, 5, 6, 7] rfl
                have hD : va_D A [(h0, .inr (10, mob q rf n mm mb u13.1 u13.2 av ev wi mn tp tc sc nf fd me mp xn mt wh tq ag an ig)), ((q 2), aI g 600 bs), ((q 14), aI g 620 tg), ((q 34), aI g 160 bg), ((q 35), aI g 160 ln), ((q 36), aI g 160 xf), ((q 37), aI g 160 xt), ((q 39), aI g 160 xp), ((q 40), aZ g 600 is_)] := hD.sub [8, 0, 1, 2, 3, 4, 5, 6, 7] (by decide) rfl
                have hp13_0 := hr12
                refine lv_iinc (k := 5) (v := nI (i + 1)) hx hb d_Mod_checkHandlers_145 hl rfl ((nI_succ i).symm) (by decide) rfl (fun ls hl => ?_)
                have hl : lv_has ls 8 [(2, .int (nI (i + 1))), (7, .int (nI (t2 bs (px + 6)))), (6, .int 0), (5, .int (nI (t2 bs (px + 2)))), (4, .int (nI (t2 bs px))), (3, .int (nI px)), (0, .ref h0), (1, .int (nI mi))] := hl
                refine lv_goto (tgt := 7) hx hb d_Mod_checkHandlers_148 (by decide) ?_
                have hP : va_P g.1 classes [(h0, .inr (10, mob q rf n mm mb u13.1 u13.2 av ev wi mn tp tc sc nf fd me mp xn mt wh tq ag an ig)), ((q 2), aI g 600 bs), ((q 14), aI g 620 tg), ((q 34), aI g 160 bg), ((q 35), aI g 160 ln), ((q 36), aI g 160 xf), ((q 37), aI g 160 xt), ((q 39), aI g 160 xp), ((q 40), aZ g 600 is_)] H := hP.sub [0, 1, 2, 3, 4, 5, 6, 7, 8] rfl
                have hD : va_D A [(h0, .inr (10, mob q rf n mm mb u13.1 u13.2 av ev wi mn tp tc sc nf fd me mp xn mt wh tq ag an ig)), ((q 2), aI g 600 bs), ((q 14), aI g 620 tg), ((q 34), aI g 160 bg), ((q 35), aI g 160 ln), ((q 36), aI g 160 xf), ((q 37), aI g 160 xt), ((q 39), aI g 160 xp), ((q 40), aZ g 600 is_)] := hD.sub [0, 1, 2, 3, 4, 5, 6, 7, 8] (by decide) rfl
                exact ih _ (by omega) (i + 1) u13.1 u13.2 ls _ _ rfl (fun h => absurd h hp13_0) (by omega) (by omega) (fun h => absurd h hp13_0) (lv_sub hl [0, 6, 7] rfl) hP hD hS
              · first | exact absurd h119 (by decide) | exact absurd (by decide) h119
            · have hT61 := hB10.2 (hB10.1.resolve_left h61)
              refine lv_aload_n hx hb d_Mod_checkHandlers_64 rfl (lv_at hl 4 rfl) ?_
              refine lv_iload_n hx hb d_Mod_checkHandlers_65 rfl (lv_at hl 5 rfl) ?_
              refine lv_aload_n hx hb d_Mod_checkHandlers_66 rfl (lv_at hl 4 rfl) ?_
              refine lv_iload_n hx hb d_Mod_checkHandlers_67 rfl (lv_at hl 2 rfl) ?_
              refine lv_iconst (v := 4) hx hb d_Mod_checkHandlers_68 (by decide) ?_
              refine lv_iadd hx hb d_Mod_checkHandlers_69 ?_
              refine tw_ri (e2 := nI (px + 4)) (nI_add px 4) ?_
              refine tw_si (tw_runV (ws := [(h0, .inr (10, mob q rf n mm mb fa9 fp9 av ev wi mn tp tc sc nf fd me mp xn mt wh tq ag an ig)), ((q 2), aI g 600 bs), ((q 14), aI g 620 tg), ((q 34), aI g 160 bg), ((q 35), aI g 160 ln), ((q 36), aI g 160 xf), ((q 37), aI g 160 xt), ((q 39), aI g 160 xp), ((q 40), aZ g 600 is_)]) (wc := [(h0, .inr (10, mob q rf n mm mb fa9 fp9 av ev wi mn tp tc sc nf fd me mp xn mt wh tq ag an ig)), ((q 2), aI g 600 bs)]) (As := [.int (nI (px + 4))]) (rest := [.int (nI mi), .ref h0]) E hB hK hZ (g_Mod_twoAt l g H.size h0 q rf n mm mb fa9 fp9 av ev wi mn tp tc sc nf fd me mp xn mt wh tq ag an ig bs (px + 4) hbs (by omega)) mc_Mod_twoAt mi_Mod_twoAt me_Mod_twoAt wd_1616 hP hD hS hA [0, 1] rfl (by decide) 0 rfl rfl rfl rfl rfl (by decide) rfl hl.1 rfl (Nat.le_of_ble_eq_true rfl) (by decide) d_Mod_checkHandlers_70) (fun r14 hr14 => ?_)
              have hB14 := hr14
              subst hB14
              refine tw_si (tw_runV (ws := [(h0, .inr (10, mob q rf n mm mb fa9 fp9 av ev wi mn tp tc sc nf fd me mp xn mt wh tq ag an ig)), ((q 2), aI g 600 bs), ((q 14), aI g 620 tg), ((q 34), aI g 160 bg), ((q 35), aI g 160 ln), ((q 36), aI g 160 xf), ((q 37), aI g 160 xt), ((q 39), aI g 160 xp), ((q 40), aZ g 600 is_)]) (wc := [(h0, .inr (10, mob q rf n mm mb fa9 fp9 av ev wi mn tp tc sc nf fd me mp xn mt wh tq ag an ig)), ((q 34), aI g 160 bg), ((q 35), aI g 160 ln), ((q 40), aZ g 600 is_)]) (As := [.int (nI mi), .int (nI (t2 bs (px + 4)))]) (rest := []) E hB hK hZ (g_Mod_isInstructionN l g H.size h0 q rf n mm mb fa9 fp9 av ev wi mn tp tc sc nf fd me mp xn mt wh tq ag an ig bg ln is_ mi (t2 bs (px + 4)) b1 l1 (by omega) hbg hln (by omega) (by omega)) mc_Mod_isInstruction mi_Mod_isInstruction me_Mod_isInstruction wd_1620 hP hD hS hA [0, 3, 4, 8] rfl (by decide) 0 rfl rfl rfl rfl rfl (by decide) rfl hl.1 rfl (Nat.le_of_ble_eq_true rfl) (by decide) d_Mod_checkHandlers_73) (fun r15 hr15 => ?_)
              have hB15 := hr15
              refine lv_if_eq (tgt := 104) hx hb d_Mod_checkHandlers_76 (by decide) (fun h76 => ?_) (fun h76 => ?_)
              · refine lv_iconst (v := 0) hx hb d_Mod_checkHandlers_104 (by decide) ?_
                refine lv_istore hx hb d_Mod_checkHandlers_105 hl (by decide) rfl (fun ls hl => ?_)
                have hl : lv_has ls 8 [(6, .int 0), (5, .int (nI (t2 bs (px + 2)))), (4, .int (nI (t2 bs px))), (3, .int (nI px)), (2, .int (nI i)), (0, .ref h0), (1, .int (nI mi))] := hl
                refine lv_aload_n hx hb d_Mod_checkHandlers_107 rfl (lv_at hl 5 rfl) ?_
                refine lv_iload_n hx hb d_Mod_checkHandlers_108 rfl (lv_at hl 3 rfl) ?_
                refine lv_bipush (v := 6) hx hb d_Mod_checkHandlers_109 (by decide) ?_
                refine lv_iadd hx hb d_Mod_checkHandlers_111 ?_
                refine tw_ri (e2 := nI (px + 6)) (nI_add px 6) ?_
                refine tw_si (tw_runV (ws := [(h0, .inr (10, mob q rf n mm mb fa9 fp9 av ev wi mn tp tc sc nf fd me mp xn mt wh tq ag an ig)), ((q 2), aI g 600 bs), ((q 14), aI g 620 tg), ((q 34), aI g 160 bg), ((q 35), aI g 160 ln), ((q 36), aI g 160 xf), ((q 37), aI g 160 xt), ((q 39), aI g 160 xp), ((q 40), aZ g 600 is_)]) (wc := [(h0, .inr (10, mob q rf n mm mb fa9 fp9 av ev wi mn tp tc sc nf fd me mp xn mt wh tq ag an ig)), ((q 2), aI g 600 bs)]) (As := [.int (nI (px + 6))]) (rest := []) E hB hK hZ (g_Mod_twoAt l g H.size h0 q rf n mm mb fa9 fp9 av ev wi mn tp tc sc nf fd me mp xn mt wh tq ag an ig bs (px + 6) hbs (by omega)) mc_Mod_twoAt mi_Mod_twoAt me_Mod_twoAt wd_1616 hP hD hS hA [0, 1] rfl (by decide) 0 rfl rfl rfl rfl rfl (by decide) rfl hl.1 rfl (Nat.le_of_ble_eq_true rfl) (by decide) d_Mod_checkHandlers_112) (fun r16 hr16 => ?_)
                have hB16 := hr16
                subst hB16
                refine lv_istore hx hb d_Mod_checkHandlers_115 hl (by decide) rfl (fun ls hl => ?_)
                have hl : lv_has ls 8 [(7, .int (nI (t2 bs (px + 6)))), (6, .int 0), (5, .int (nI (t2 bs (px + 2)))), (4, .int (nI (t2 bs px))), (3, .int (nI px)), (2, .int (nI i)), (0, .ref h0), (1, .int (nI mi))] := hl
                refine lv_iload hx hb d_Mod_checkHandlers_117 (lv_at hl 1 rfl) ?_
                refine lv_if_eq (tgt := 138) hx hb d_Mod_checkHandlers_119 (by decide) (fun h119 => ?_) (fun h119 => ?_)
                · refine lv_aload_n hx hb d_Mod_checkHandlers_138 rfl (lv_at hl 6 rfl) ?_
                  refine lv_bipush (v := 20) hx hb d_Mod_checkHandlers_139 (by decide) ?_
                  refine lv_iload_n hx hb d_Mod_checkHandlers_141 rfl (lv_at hl 4 rfl) ?_
                  refine tw_wv (wr := [((q 2), aI g 600 bs), ((q 14), aI g 620 tg), ((q 34), aI g 160 bg), ((q 35), aI g 160 ln), ((q 36), aI g 160 xf), ((q 37), aI g 160 xt), ((q 39), aI g 160 xp), ((q 40), aZ g 600 is_)]) (tw_runV (ws := [(h0, .inr (10, mob q rf n mm mb fa9 fp9 av ev wi mn tp tc sc nf fd me mp xn mt wh tq ag an ig)), ((q 2), aI g 600 bs), ((q 14), aI g 620 tg), ((q 34), aI g 160 bg), ((q 35), aI g 160 ln), ((q 36), aI g 160 xf), ((q 37), aI g 160 xt), ((q 39), aI g 160 xp), ((q 40), aZ g 600 is_)]) (wc := [(h0, .inr (10, mob q rf n mm mb fa9 fp9 av ev wi mn tp tc sc nf fd me mp xn mt wh tq ag an ig))]) (As := [.int 20, .int (nI px)]) (rest := []) E hB hK hZ (g_Mod_fail l g H.size h0 q rf n mm mb av ev wi mn tp tc sc nf fd me mp xn mt wh tq ag an ig fa9 fp9 20 (nI px) (by decide)) mc_Mod_fail mi_Mod_fail me_Mod_fail wd_1478 hP hD hS hA [0] rfl (by decide) 0 rfl rfl rfl rfl rfl (by decide) rfl hl.1 rfl (Nat.le_of_ble_eq_true rfl) (by decide) d_Mod_checkHandlers_142) hP hD hS hA [0] [1, 2, 3, 4, 5, 6, 7, 8] rfl rfl (by decide) (by decide) (fun u18 H locs hr17 hP hD hS => ?_)
                  try dsimp only at hr17
                  have hP : va_P g.1 classes [((q 2), aI g 600 bs), ((q 14), aI g 620 tg), ((q 34), aI g 160 bg), ((q 35), aI g 160 ln), ((q 36), aI g 160 xf), ((q 37), aI g 160 xt), ((q 39), aI g 160 xp), ((q 40), aZ g 600 is_), (h0, .inr (10, mob q rf n mm mb u18.1 u18.2 av ev wi mn tp tc sc nf fd me mp xn mt wh tq ag an ig))] H := hP
                  have hD : va_D A [((q 2), aI g 600 bs), ((q 14), aI g 620 tg), ((q 34), aI g 160 bg), ((q 35), aI g 160 ln), ((q 36), aI g 160 xf), ((q 37), aI g 160 xt), ((q 39), aI g 160 xp), ((q 40), aZ g 600 is_), (h0, .inr (10, mob q rf n mm mb u18.1 u18.2 av ev wi mn tp tc sc nf fd me mp xn mt wh tq ag an ig))] := hD
                  have hP : va_P g.1 classes [(h0, .inr (10, mob q rf n mm mb u18.1 u18.2 av ev wi mn tp tc sc nf fd me mp xn mt wh tq ag an ig)), ((q 2), aI g 600 bs), ((q 14), aI g 620 tg), ((q 34), aI g 160 bg), ((q 35), aI g 160 ln), ((q 36), aI g 160 xf), ((q 37), aI g 160 xt), ((q 39), aI g 160 xp), ((q 40), aZ g 600 is_)] H := hP.sub [8, 0, 1, 2, 3, 4, 5, 6, 7] rfl
                  have hD : va_D A [(h0, .inr (10, mob q rf n mm mb u18.1 u18.2 av ev wi mn tp tc sc nf fd me mp xn mt wh tq ag an ig)), ((q 2), aI g 600 bs), ((q 14), aI g 620 tg), ((q 34), aI g 160 bg), ((q 35), aI g 160 ln), ((q 36), aI g 160 xf), ((q 37), aI g 160 xt), ((q 39), aI g 160 xp), ((q 40), aZ g 600 is_)] := hD.sub [8, 0, 1, 2, 3, 4, 5, 6, 7] (by decide) rfl
                  have hp18_0 := hr17
                  refine lv_iinc (k := 5) (v := nI (i + 1)) hx hb d_Mod_checkHandlers_145 hl rfl ((nI_succ i).symm) (by decide) rfl (fun ls hl => ?_)
                  have hl : lv_has ls 8 [(2, .int (nI (i + 1))), (7, .int (nI (t2 bs (px + 6)))), (6, .int 0), (5, .int (nI (t2 bs (px + 2)))), (4, .int (nI (t2 bs px))), (3, .int (nI px)), (0, .ref h0), (1, .int (nI mi))] := hl
                  refine lv_goto (tgt := 7) hx hb d_Mod_checkHandlers_148 (by decide) ?_
                  have hP : va_P g.1 classes [(h0, .inr (10, mob q rf n mm mb u18.1 u18.2 av ev wi mn tp tc sc nf fd me mp xn mt wh tq ag an ig)), ((q 2), aI g 600 bs), ((q 14), aI g 620 tg), ((q 34), aI g 160 bg), ((q 35), aI g 160 ln), ((q 36), aI g 160 xf), ((q 37), aI g 160 xt), ((q 39), aI g 160 xp), ((q 40), aZ g 600 is_)] H := hP.sub [0, 1, 2, 3, 4, 5, 6, 7, 8] rfl
                  have hD : va_D A [(h0, .inr (10, mob q rf n mm mb u18.1 u18.2 av ev wi mn tp tc sc nf fd me mp xn mt wh tq ag an ig)), ((q 2), aI g 600 bs), ((q 14), aI g 620 tg), ((q 34), aI g 160 bg), ((q 35), aI g 160 ln), ((q 36), aI g 160 xf), ((q 37), aI g 160 xt), ((q 39), aI g 160 xp), ((q 40), aZ g 600 is_)] := hD.sub [0, 1, 2, 3, 4, 5, 6, 7, 8] (by decide) rfl
                  exact ih _ (by omega) (i + 1) u18.1 u18.2 ls _ _ rfl (fun h => absurd h hp18_0) (by omega) (by omega) (fun h => absurd h hp18_0) (lv_sub hl [0, 6, 7] rfl) hP hD hS
                · first | exact absurd h119 (by decide) | exact absurd (by decide) h119
              · have hT76 := hB15.2 (hB15.1.resolve_left h76)
                refine lv_iload hx hb d_Mod_checkHandlers_79 (lv_at hl 0 rfl) ?_
                refine lv_aload_n hx hb d_Mod_checkHandlers_81 rfl (lv_at hl 4 rfl) ?_
                refine va_get (D := g.1) (ci := 10) (v := .ref (q 35)) (C := R_Mod) (T := F_Mod) (N := 61) hx hb hts in_Mod hown hK hP 0 rfl rfl 35 (by decide) (hts _ wd_1285) (fun _ h9 => h9) rfl d_Mod_checkHandlers_82 ?_
                refine lv_iload_n hx hb d_Mod_checkHandlers_85 rfl (lv_at hl 5 rfl) ?_
                refine va_iald hx hb hK hP 4 0 rfl rfl (vp_in_nI (by omega) (by decide)) d_Mod_checkHandlers_86 ?_
                refine tw_ri (e2 := nI l1) (by rw [nI_clamp (by omega)]; exact hln) ?_
                refine lv_icmp_eq (tgt := 100) hx hb d_Mod_checkHandlers_87 (by decide) (fun h87 => ?_) (fun h87 => ?_)
                · refine lv_iconst (v := 1) hx hb d_Mod_checkHandlers_100 (by decide) ?_
                  refine lv_goto (tgt := 105) hx hb d_Mod_checkHandlers_101 (by decide) ?_
                  refine lv_istore hx hb d_Mod_checkHandlers_105 hl (by decide) rfl (fun ls hl => ?_)
                  have hl : lv_has ls 8 [(6, .int 1), (5, .int (nI (t2 bs (px + 2)))), (4, .int (nI (t2 bs px))), (3, .int (nI px)), (2, .int (nI i)), (0, .ref h0), (1, .int (nI mi))] := hl
                  refine lv_aload_n hx hb d_Mod_checkHandlers_107 rfl (lv_at hl 5 rfl) ?_
                  refine lv_iload_n hx hb d_Mod_checkHandlers_108 rfl (lv_at hl 3 rfl) ?_
                  refine lv_bipush (v := 6) hx hb d_Mod_checkHandlers_109 (by decide) ?_
                  refine lv_iadd hx hb d_Mod_checkHandlers_111 ?_
                  refine tw_ri (e2 := nI (px + 6)) (nI_add px 6) ?_
                  refine tw_si (tw_runV (ws := [(h0, .inr (10, mob q rf n mm mb fa9 fp9 av ev wi mn tp tc sc nf fd me mp xn mt wh tq ag an ig)), ((q 2), aI g 600 bs), ((q 14), aI g 620 tg), ((q 34), aI g 160 bg), ((q 35), aI g 160 ln), ((q 36), aI g 160 xf), ((q 37), aI g 160 xt), ((q 39), aI g 160 xp), ((q 40), aZ g 600 is_)]) (wc := [(h0, .inr (10, mob q rf n mm mb fa9 fp9 av ev wi mn tp tc sc nf fd me mp xn mt wh tq ag an ig)), ((q 2), aI g 600 bs)]) (As := [.int (nI (px + 6))]) (rest := []) E hB hK hZ (g_Mod_twoAt l g H.size h0 q rf n mm mb fa9 fp9 av ev wi mn tp tc sc nf fd me mp xn mt wh tq ag an ig bs (px + 6) hbs (by omega)) mc_Mod_twoAt mi_Mod_twoAt me_Mod_twoAt wd_1616 hP hD hS hA [0, 1] rfl (by decide) 0 rfl rfl rfl rfl rfl (by decide) rfl hl.1 rfl (Nat.le_of_ble_eq_true rfl) (by decide) d_Mod_checkHandlers_112) (fun r19 hr19 => ?_)
                  have hB19 := hr19
                  subst hB19
                  refine lv_istore hx hb d_Mod_checkHandlers_115 hl (by decide) rfl (fun ls hl => ?_)
                  have hl : lv_has ls 8 [(7, .int (nI (t2 bs (px + 6)))), (6, .int 1), (5, .int (nI (t2 bs (px + 2)))), (4, .int (nI (t2 bs px))), (3, .int (nI px)), (2, .int (nI i)), (0, .ref h0), (1, .int (nI mi))] := hl
                  refine lv_iload hx hb d_Mod_checkHandlers_117 (lv_at hl 1 rfl) ?_
                  refine lv_if_eq (tgt := 138) hx hb d_Mod_checkHandlers_119 (by decide) (fun h119 => ?_) (fun h119 => ?_)
                  · first | exact absurd h119 (by decide) | exact absurd (by decide) h119
                  · refine lv_iload hx hb d_Mod_checkHandlers_122 (lv_at hl 0 rfl) ?_
                    refine lv_if_eq (tgt := 145) hx hb d_Mod_checkHandlers_124 (by decide) (fun h124 => ?_) (fun h124 => ?_)
                    · refine lv_iinc (k := 5) (v := nI (i + 1)) hx hb d_Mod_checkHandlers_145 hl rfl ((nI_succ i).symm) (by decide) rfl (fun ls hl => ?_)
                      have hl : lv_has ls 8 [(2, .int (nI (i + 1))), (7, .int (nI (t2 bs (px + 6)))), (6, .int 1), (5, .int (nI (t2 bs (px + 2)))), (4, .int (nI (t2 bs px))), (3, .int (nI px)), (0, .ref h0), (1, .int (nI mi))] := hl
                      refine lv_goto (tgt := 7) hx hb d_Mod_checkHandlers_148 (by decide) ?_
                      have hP : va_P g.1 classes [(h0, .inr (10, mob q rf n mm mb fa9 fp9 av ev wi mn tp tc sc nf fd me mp xn mt wh tq ag an ig)), ((q 2), aI g 600 bs), ((q 14), aI g 620 tg), ((q 34), aI g 160 bg), ((q 35), aI g 160 ln), ((q 36), aI g 160 xf), ((q 37), aI g 160 xt), ((q 39), aI g 160 xp), ((q 40), aZ g 600 is_)] H := hP.sub [0, 1, 2, 3, 4, 5, 6, 7, 8] rfl
                      have hD : va_D A [(h0, .inr (10, mob q rf n mm mb fa9 fp9 av ev wi mn tp tc sc nf fd me mp xn mt wh tq ag an ig)), ((q 2), aI g 600 bs), ((q 14), aI g 620 tg), ((q 34), aI g 160 bg), ((q 35), aI g 160 ln), ((q 36), aI g 160 xf), ((q 37), aI g 160 xt), ((q 39), aI g 160 xp), ((q 40), aZ g 600 is_)] := hD.sub [0, 1, 2, 3, 4, 5, 6, 7, 8] (by decide) rfl
                      exact ih _ (by omega) (i + 1) fa9 fp9 ls _ _ rfl (fun _ => hz3) (by omega) (by omega) (fun _ => by exact fun j h1 h2 => by by_cases ej : j = i; (rw [ej]; exact ⟨px, epx, hpx, hT76.1⟩); (exact hz4 j h1 (by omega))) (lv_sub hl [0, 6, 7] rfl) hP hD hS
                    · refine lv_aload_n hx hb d_Mod_checkHandlers_127 rfl (lv_at hl 6 rfl) ?_
                      refine lv_iload hx hb d_Mod_checkHandlers_128 (lv_at hl 0 rfl) ?_
                      refine lv_bipush (v := 7) hx hb d_Mod_checkHandlers_130 (by decide) ?_
                      refine tw_si (tw_runV (ws := [(h0, .inr (10, mob q rf n mm mb fa9 fp9 av ev wi mn tp tc sc nf fd me mp xn mt wh tq ag an ig)), ((q 2), aI g 600 bs), ((q 14), aI g 620 tg), ((q 34), aI g 160 bg), ((q 35), aI g 160 ln), ((q 36), aI g 160 xf), ((q 37), aI g 160 xt), ((q 39), aI g 160 xp), ((q 40), aZ g 600 is_)]) (wc := [(h0, .inr (10, mob q rf n mm mb fa9 fp9 av ev wi mn tp tc sc nf fd me mp xn mt wh tq ag an ig)), ((q 14), aI g 620 tg)]) (As := [.int (nI (t2 bs (px + 6))), .int 7]) (rest := []) E hB hK hZ (g_Mod_isTagN l g H.size h0 q rf n mm mb fa9 fp9 av ev wi mn tp tc sc nf fd me mp xn mt wh tq ag an ig tg (t2 bs (px + 6)) 7 (by omega) (by omega)) mc_Mod_isTag mi_Mod_isTag me_Mod_isTag wd_1508 hP hD hS hA [0, 2] rfl (by decide) 0 rfl rfl rfl rfl rfl (by decide) rfl hl.1 rfl (Nat.le_of_ble_eq_true rfl) (by decide) d_Mod_checkHandlers_132) (fun r20 hr20 => ?_)
                      have hB20 := hr20
                      refine lv_if_ne (tgt := 145) hx hb d_Mod_checkHandlers_135 (by decide) (fun h135 => ?_) (fun h135 => ?_)
                      · have hT135 := hB20.2 (hB20.1.resolve_left h135)
                        refine lv_iinc (k := 5) (v := nI (i + 1)) hx hb d_Mod_checkHandlers_145 hl rfl ((nI_succ i).symm) (by decide) rfl (fun ls hl => ?_)
                        have hl : lv_has ls 8 [(2, .int (nI (i + 1))), (7, .int (nI (t2 bs (px + 6)))), (6, .int 1), (5, .int (nI (t2 bs (px + 2)))), (4, .int (nI (t2 bs px))), (3, .int (nI px)), (0, .ref h0), (1, .int (nI mi))] := hl
                        refine lv_goto (tgt := 7) hx hb d_Mod_checkHandlers_148 (by decide) ?_
                        have hP : va_P g.1 classes [(h0, .inr (10, mob q rf n mm mb fa9 fp9 av ev wi mn tp tc sc nf fd me mp xn mt wh tq ag an ig)), ((q 2), aI g 600 bs), ((q 14), aI g 620 tg), ((q 34), aI g 160 bg), ((q 35), aI g 160 ln), ((q 36), aI g 160 xf), ((q 37), aI g 160 xt), ((q 39), aI g 160 xp), ((q 40), aZ g 600 is_)] H := hP.sub [0, 1, 2, 3, 4, 5, 6, 7, 8] rfl
                        have hD : va_D A [(h0, .inr (10, mob q rf n mm mb fa9 fp9 av ev wi mn tp tc sc nf fd me mp xn mt wh tq ag an ig)), ((q 2), aI g 600 bs), ((q 14), aI g 620 tg), ((q 34), aI g 160 bg), ((q 35), aI g 160 ln), ((q 36), aI g 160 xf), ((q 37), aI g 160 xt), ((q 39), aI g 160 xp), ((q 40), aZ g 600 is_)] := hD.sub [0, 1, 2, 3, 4, 5, 6, 7, 8] (by decide) rfl
                        exact ih _ (by omega) (i + 1) fa9 fp9 ls _ _ rfl (fun _ => hz3) (by omega) (by omega) (fun _ => by exact fun j h1 h2 => by by_cases ej : j = i; (rw [ej]; exact ⟨px, epx, hpx, hT76.1⟩); (exact hz4 j h1 (by omega))) (lv_sub hl [0, 6, 7] rfl) hP hD hS
                      · refine lv_aload_n hx hb d_Mod_checkHandlers_138 rfl (lv_at hl 6 rfl) ?_
                        refine lv_bipush (v := 20) hx hb d_Mod_checkHandlers_139 (by decide) ?_
                        refine lv_iload_n hx hb d_Mod_checkHandlers_141 rfl (lv_at hl 4 rfl) ?_
                        refine tw_wv (wr := [((q 2), aI g 600 bs), ((q 14), aI g 620 tg), ((q 34), aI g 160 bg), ((q 35), aI g 160 ln), ((q 36), aI g 160 xf), ((q 37), aI g 160 xt), ((q 39), aI g 160 xp), ((q 40), aZ g 600 is_)]) (tw_runV (ws := [(h0, .inr (10, mob q rf n mm mb fa9 fp9 av ev wi mn tp tc sc nf fd me mp xn mt wh tq ag an ig)), ((q 2), aI g 600 bs), ((q 14), aI g 620 tg), ((q 34), aI g 160 bg), ((q 35), aI g 160 ln), ((q 36), aI g 160 xf), ((q 37), aI g 160 xt), ((q 39), aI g 160 xp), ((q 40), aZ g 600 is_)]) (wc := [(h0, .inr (10, mob q rf n mm mb fa9 fp9 av ev wi mn tp tc sc nf fd me mp xn mt wh tq ag an ig))]) (As := [.int 20, .int (nI px)]) (rest := []) E hB hK hZ (g_Mod_fail l g H.size h0 q rf n mm mb av ev wi mn tp tc sc nf fd me mp xn mt wh tq ag an ig fa9 fp9 20 (nI px) (by decide)) mc_Mod_fail mi_Mod_fail me_Mod_fail wd_1478 hP hD hS hA [0] rfl (by decide) 0 rfl rfl rfl rfl rfl (by decide) rfl hl.1 rfl (Nat.le_of_ble_eq_true rfl) (by decide) d_Mod_checkHandlers_142) hP hD hS hA [0] [1, 2, 3, 4, 5, 6, 7, 8] rfl rfl (by decide) (by decide) (fun u22 H locs hr21 hP hD hS => ?_)
                        try dsimp only at hr21
                        have hP : va_P g.1 classes [((q 2), aI g 600 bs), ((q 14), aI g 620 tg), ((q 34), aI g 160 bg), ((q 35), aI g 160 ln), ((q 36), aI g 160 xf), ((q 37), aI g 160 xt), ((q 39), aI g 160 xp), ((q 40), aZ g 600 is_), (h0, .inr (10, mob q rf n mm mb u22.1 u22.2 av ev wi mn tp tc sc nf fd me mp xn mt wh tq ag an ig))] H := hP
                        have hD : va_D A [((q 2), aI g 600 bs), ((q 14), aI g 620 tg), ((q 34), aI g 160 bg), ((q 35), aI g 160 ln), ((q 36), aI g 160 xf), ((q 37), aI g 160 xt), ((q 39), aI g 160 xp), ((q 40), aZ g 600 is_), (h0, .inr (10, mob q rf n mm mb u22.1 u22.2 av ev wi mn tp tc sc nf fd me mp xn mt wh tq ag an ig))] := hD
                        have hP : va_P g.1 classes [(h0, .inr (10, mob q rf n mm mb u22.1 u22.2 av ev wi mn tp tc sc nf fd me mp xn mt wh tq ag an ig)), ((q 2), aI g 600 bs), ((q 14), aI g 620 tg), ((q 34), aI g 160 bg), ((q 35), aI g 160 ln), ((q 36), aI g 160 xf), ((q 37), aI g 160 xt), ((q 39), aI g 160 xp), ((q 40), aZ g 600 is_)] H := hP.sub [8, 0, 1, 2, 3, 4, 5, 6, 7] rfl
                        have hD : va_D A [(h0, .inr (10, mob q rf n mm mb u22.1 u22.2 av ev wi mn tp tc sc nf fd me mp xn mt wh tq ag an ig)), ((q 2), aI g 600 bs), ((q 14), aI g 620 tg), ((q 34), aI g 160 bg), ((q 35), aI g 160 ln), ((q 36), aI g 160 xf), ((q 37), aI g 160 xt), ((q 39), aI g 160 xp), ((q 40), aZ g 600 is_)] := hD.sub [8, 0, 1, 2, 3, 4, 5, 6, 7] (by decide) rfl
                        have hp22_0 := hr21
                        refine lv_iinc (k := 5) (v := nI (i + 1)) hx hb d_Mod_checkHandlers_145 hl rfl ((nI_succ i).symm) (by decide) rfl (fun ls hl => ?_)
                        have hl : lv_has ls 8 [(2, .int (nI (i + 1))), (7, .int (nI (t2 bs (px + 6)))), (6, .int 1), (5, .int (nI (t2 bs (px + 2)))), (4, .int (nI (t2 bs px))), (3, .int (nI px)), (0, .ref h0), (1, .int (nI mi))] := hl
                        refine lv_goto (tgt := 7) hx hb d_Mod_checkHandlers_148 (by decide) ?_
                        have hP : va_P g.1 classes [(h0, .inr (10, mob q rf n mm mb u22.1 u22.2 av ev wi mn tp tc sc nf fd me mp xn mt wh tq ag an ig)), ((q 2), aI g 600 bs), ((q 14), aI g 620 tg), ((q 34), aI g 160 bg), ((q 35), aI g 160 ln), ((q 36), aI g 160 xf), ((q 37), aI g 160 xt), ((q 39), aI g 160 xp), ((q 40), aZ g 600 is_)] H := hP.sub [0, 1, 2, 3, 4, 5, 6, 7, 8] rfl
                        have hD : va_D A [(h0, .inr (10, mob q rf n mm mb u22.1 u22.2 av ev wi mn tp tc sc nf fd me mp xn mt wh tq ag an ig)), ((q 2), aI g 600 bs), ((q 14), aI g 620 tg), ((q 34), aI g 160 bg), ((q 35), aI g 160 ln), ((q 36), aI g 160 xf), ((q 37), aI g 160 xt), ((q 39), aI g 160 xp), ((q 40), aZ g 600 is_)] := hD.sub [0, 1, 2, 3, 4, 5, 6, 7, 8] (by decide) rfl
                        exact ih _ (by omega) (i + 1) u22.1 u22.2 ls _ _ rfl (fun h => absurd h hp22_0) (by omega) (by omega) (fun h => absurd h hp22_0) (lv_sub hl [0, 6, 7] rfl) hP hD hS
                · refine lv_aload_n hx hb d_Mod_checkHandlers_90 rfl (lv_at hl 4 rfl) ?_
                  refine lv_iload_n hx hb d_Mod_checkHandlers_91 rfl (lv_at hl 5 rfl) ?_
                  refine lv_iload hx hb d_Mod_checkHandlers_92 (lv_at hl 0 rfl) ?_
                  refine tw_si (tw_runV (ws := [(h0, .inr (10, mob q rf n mm mb fa9 fp9 av ev wi mn tp tc sc nf fd me mp xn mt wh tq ag an ig)), ((q 2), aI g 600 bs), ((q 14), aI g 620 tg), ((q 34), aI g 160 bg), ((q 35), aI g 160 ln), ((q 36), aI g 160 xf), ((q 37), aI g 160 xt), ((q 39), aI g 160 xp), ((q 40), aZ g 600 is_)]) (wc := [(h0, .inr (10, mob q rf n mm mb fa9 fp9 av ev wi mn tp tc sc nf fd me mp xn mt wh tq ag an ig)), ((q 34), aI g 160 bg), ((q 35), aI g 160 ln), ((q 40), aZ g 600 is_)]) (As := [.int (nI mi), .int (nI (t2 bs (px + 2)))]) (rest := []) E hB hK hZ (g_Mod_isInstructionN l g H.size h0 q rf n mm mb fa9 fp9 av ev wi mn tp tc sc nf fd me mp xn mt wh tq ag an ig bg ln is_ mi (t2 bs (px + 2)) b1 l1 (by omega) hbg hln (by omega) (by omega)) mc_Mod_isInstruction mi_Mod_isInstruction me_Mod_isInstruction wd_1620 hP hD hS hA [0, 3, 4, 8] rfl (by decide) 0 rfl rfl rfl rfl rfl (by decide) rfl hl.1 rfl (Nat.le_of_ble_eq_true rfl) (by decide) d_Mod_checkHandlers_94) (fun r23 hr23 => ?_)
                  have hB23 := hr23
                  refine lv_if_eq (tgt := 104) hx hb d_Mod_checkHandlers_97 (by decide) (fun h97 => ?_) (fun h97 => ?_)
                  · refine lv_iconst (v := 0) hx hb d_Mod_checkHandlers_104 (by decide) ?_
                    refine lv_istore hx hb d_Mod_checkHandlers_105 hl (by decide) rfl (fun ls hl => ?_)
                    have hl : lv_has ls 8 [(6, .int 0), (5, .int (nI (t2 bs (px + 2)))), (4, .int (nI (t2 bs px))), (3, .int (nI px)), (2, .int (nI i)), (0, .ref h0), (1, .int (nI mi))] := hl
                    refine lv_aload_n hx hb d_Mod_checkHandlers_107 rfl (lv_at hl 5 rfl) ?_
                    refine lv_iload_n hx hb d_Mod_checkHandlers_108 rfl (lv_at hl 3 rfl) ?_
                    refine lv_bipush (v := 6) hx hb d_Mod_checkHandlers_109 (by decide) ?_
                    refine lv_iadd hx hb d_Mod_checkHandlers_111 ?_
                    refine tw_ri (e2 := nI (px + 6)) (nI_add px 6) ?_
                    refine tw_si (tw_runV (ws := [(h0, .inr (10, mob q rf n mm mb fa9 fp9 av ev wi mn tp tc sc nf fd me mp xn mt wh tq ag an ig)), ((q 2), aI g 600 bs), ((q 14), aI g 620 tg), ((q 34), aI g 160 bg), ((q 35), aI g 160 ln), ((q 36), aI g 160 xf), ((q 37), aI g 160 xt), ((q 39), aI g 160 xp), ((q 40), aZ g 600 is_)]) (wc := [(h0, .inr (10, mob q rf n mm mb fa9 fp9 av ev wi mn tp tc sc nf fd me mp xn mt wh tq ag an ig)), ((q 2), aI g 600 bs)]) (As := [.int (nI (px + 6))]) (rest := []) E hB hK hZ (g_Mod_twoAt l g H.size h0 q rf n mm mb fa9 fp9 av ev wi mn tp tc sc nf fd me mp xn mt wh tq ag an ig bs (px + 6) hbs (by omega)) mc_Mod_twoAt mi_Mod_twoAt me_Mod_twoAt wd_1616 hP hD hS hA [0, 1] rfl (by decide) 0 rfl rfl rfl rfl rfl (by decide) rfl hl.1 rfl (Nat.le_of_ble_eq_true rfl) (by decide) d_Mod_checkHandlers_112) (fun r24 hr24 => ?_)
                    have hB24 := hr24
                    subst hB24
                    refine lv_istore hx hb d_Mod_checkHandlers_115 hl (by decide) rfl (fun ls hl => ?_)
                    have hl : lv_has ls 8 [(7, .int (nI (t2 bs (px + 6)))), (6, .int 0), (5, .int (nI (t2 bs (px + 2)))), (4, .int (nI (t2 bs px))), (3, .int (nI px)), (2, .int (nI i)), (0, .ref h0), (1, .int (nI mi))] := hl
                    refine lv_iload hx hb d_Mod_checkHandlers_117 (lv_at hl 1 rfl) ?_
                    refine lv_if_eq (tgt := 138) hx hb d_Mod_checkHandlers_119 (by decide) (fun h119 => ?_) (fun h119 => ?_)
                    · refine lv_aload_n hx hb d_Mod_checkHandlers_138 rfl (lv_at hl 6 rfl) ?_
                      refine lv_bipush (v := 20) hx hb d_Mod_checkHandlers_139 (by decide) ?_
                      refine lv_iload_n hx hb d_Mod_checkHandlers_141 rfl (lv_at hl 4 rfl) ?_
                      refine tw_wv (wr := [((q 2), aI g 600 bs), ((q 14), aI g 620 tg), ((q 34), aI g 160 bg), ((q 35), aI g 160 ln), ((q 36), aI g 160 xf), ((q 37), aI g 160 xt), ((q 39), aI g 160 xp), ((q 40), aZ g 600 is_)]) (tw_runV (ws := [(h0, .inr (10, mob q rf n mm mb fa9 fp9 av ev wi mn tp tc sc nf fd me mp xn mt wh tq ag an ig)), ((q 2), aI g 600 bs), ((q 14), aI g 620 tg), ((q 34), aI g 160 bg), ((q 35), aI g 160 ln), ((q 36), aI g 160 xf), ((q 37), aI g 160 xt), ((q 39), aI g 160 xp), ((q 40), aZ g 600 is_)]) (wc := [(h0, .inr (10, mob q rf n mm mb fa9 fp9 av ev wi mn tp tc sc nf fd me mp xn mt wh tq ag an ig))]) (As := [.int 20, .int (nI px)]) (rest := []) E hB hK hZ (g_Mod_fail l g H.size h0 q rf n mm mb av ev wi mn tp tc sc nf fd me mp xn mt wh tq ag an ig fa9 fp9 20 (nI px) (by decide)) mc_Mod_fail mi_Mod_fail me_Mod_fail wd_1478 hP hD hS hA [0] rfl (by decide) 0 rfl rfl rfl rfl rfl (by decide) rfl hl.1 rfl (Nat.le_of_ble_eq_true rfl) (by decide) d_Mod_checkHandlers_142) hP hD hS hA [0] [1, 2, 3, 4, 5, 6, 7, 8] rfl rfl (by decide) (by decide) (fun u26 H locs hr25 hP hD hS => ?_)
                      try dsimp only at hr25
                      have hP : va_P g.1 classes [((q 2), aI g 600 bs), ((q 14), aI g 620 tg), ((q 34), aI g 160 bg), ((q 35), aI g 160 ln), ((q 36), aI g 160 xf), ((q 37), aI g 160 xt), ((q 39), aI g 160 xp), ((q 40), aZ g 600 is_), (h0, .inr (10, mob q rf n mm mb u26.1 u26.2 av ev wi mn tp tc sc nf fd me mp xn mt wh tq ag an ig))] H := hP
                      have hD : va_D A [((q 2), aI g 600 bs), ((q 14), aI g 620 tg), ((q 34), aI g 160 bg), ((q 35), aI g 160 ln), ((q 36), aI g 160 xf), ((q 37), aI g 160 xt), ((q 39), aI g 160 xp), ((q 40), aZ g 600 is_), (h0, .inr (10, mob q rf n mm mb u26.1 u26.2 av ev wi mn tp tc sc nf fd me mp xn mt wh tq ag an ig))] := hD
                      have hP : va_P g.1 classes [(h0, .inr (10, mob q rf n mm mb u26.1 u26.2 av ev wi mn tp tc sc nf fd me mp xn mt wh tq ag an ig)), ((q 2), aI g 600 bs), ((q 14), aI g 620 tg), ((q 34), aI g 160 bg), ((q 35), aI g 160 ln), ((q 36), aI g 160 xf), ((q 37), aI g 160 xt), ((q 39), aI g 160 xp), ((q 40), aZ g 600 is_)] H := hP.sub [8, 0, 1, 2, 3, 4, 5, 6, 7] rfl
                      have hD : va_D A [(h0, .inr (10, mob q rf n mm mb u26.1 u26.2 av ev wi mn tp tc sc nf fd me mp xn mt wh tq ag an ig)), ((q 2), aI g 600 bs), ((q 14), aI g 620 tg), ((q 34), aI g 160 bg), ((q 35), aI g 160 ln), ((q 36), aI g 160 xf), ((q 37), aI g 160 xt), ((q 39), aI g 160 xp), ((q 40), aZ g 600 is_)] := hD.sub [8, 0, 1, 2, 3, 4, 5, 6, 7] (by decide) rfl
                      have hp26_0 := hr25
                      refine lv_iinc (k := 5) (v := nI (i + 1)) hx hb d_Mod_checkHandlers_145 hl rfl ((nI_succ i).symm) (by decide) rfl (fun ls hl => ?_)
                      have hl : lv_has ls 8 [(2, .int (nI (i + 1))), (7, .int (nI (t2 bs (px + 6)))), (6, .int 0), (5, .int (nI (t2 bs (px + 2)))), (4, .int (nI (t2 bs px))), (3, .int (nI px)), (0, .ref h0), (1, .int (nI mi))] := hl
                      refine lv_goto (tgt := 7) hx hb d_Mod_checkHandlers_148 (by decide) ?_
                      have hP : va_P g.1 classes [(h0, .inr (10, mob q rf n mm mb u26.1 u26.2 av ev wi mn tp tc sc nf fd me mp xn mt wh tq ag an ig)), ((q 2), aI g 600 bs), ((q 14), aI g 620 tg), ((q 34), aI g 160 bg), ((q 35), aI g 160 ln), ((q 36), aI g 160 xf), ((q 37), aI g 160 xt), ((q 39), aI g 160 xp), ((q 40), aZ g 600 is_)] H := hP.sub [0, 1, 2, 3, 4, 5, 6, 7, 8] rfl
                      have hD : va_D A [(h0, .inr (10, mob q rf n mm mb u26.1 u26.2 av ev wi mn tp tc sc nf fd me mp xn mt wh tq ag an ig)), ((q 2), aI g 600 bs), ((q 14), aI g 620 tg), ((q 34), aI g 160 bg), ((q 35), aI g 160 ln), ((q 36), aI g 160 xf), ((q 37), aI g 160 xt), ((q 39), aI g 160 xp), ((q 40), aZ g 600 is_)] := hD.sub [0, 1, 2, 3, 4, 5, 6, 7, 8] (by decide) rfl
                      exact ih _ (by omega) (i + 1) u26.1 u26.2 ls _ _ rfl (fun h => absurd h hp26_0) (by omega) (by omega) (fun h => absurd h hp26_0) (lv_sub hl [0, 6, 7] rfl) hP hD hS
                    · first | exact absurd h119 (by decide) | exact absurd (by decide) h119
                  · have hT97 := hB23.2 (hB23.1.resolve_left h97)
                    refine lv_iconst (v := 1) hx hb d_Mod_checkHandlers_100 (by decide) ?_
                    refine lv_goto (tgt := 105) hx hb d_Mod_checkHandlers_101 (by decide) ?_
                    refine lv_istore hx hb d_Mod_checkHandlers_105 hl (by decide) rfl (fun ls hl => ?_)
                    have hl : lv_has ls 8 [(6, .int 1), (5, .int (nI (t2 bs (px + 2)))), (4, .int (nI (t2 bs px))), (3, .int (nI px)), (2, .int (nI i)), (0, .ref h0), (1, .int (nI mi))] := hl
                    refine lv_aload_n hx hb d_Mod_checkHandlers_107 rfl (lv_at hl 5 rfl) ?_
                    refine lv_iload_n hx hb d_Mod_checkHandlers_108 rfl (lv_at hl 3 rfl) ?_
                    refine lv_bipush (v := 6) hx hb d_Mod_checkHandlers_109 (by decide) ?_
                    refine lv_iadd hx hb d_Mod_checkHandlers_111 ?_
                    refine tw_ri (e2 := nI (px + 6)) (nI_add px 6) ?_
                    refine tw_si (tw_runV (ws := [(h0, .inr (10, mob q rf n mm mb fa9 fp9 av ev wi mn tp tc sc nf fd me mp xn mt wh tq ag an ig)), ((q 2), aI g 600 bs), ((q 14), aI g 620 tg), ((q 34), aI g 160 bg), ((q 35), aI g 160 ln), ((q 36), aI g 160 xf), ((q 37), aI g 160 xt), ((q 39), aI g 160 xp), ((q 40), aZ g 600 is_)]) (wc := [(h0, .inr (10, mob q rf n mm mb fa9 fp9 av ev wi mn tp tc sc nf fd me mp xn mt wh tq ag an ig)), ((q 2), aI g 600 bs)]) (As := [.int (nI (px + 6))]) (rest := []) E hB hK hZ (g_Mod_twoAt l g H.size h0 q rf n mm mb fa9 fp9 av ev wi mn tp tc sc nf fd me mp xn mt wh tq ag an ig bs (px + 6) hbs (by omega)) mc_Mod_twoAt mi_Mod_twoAt me_Mod_twoAt wd_1616 hP hD hS hA [0, 1] rfl (by decide) 0 rfl rfl rfl rfl rfl (by decide) rfl hl.1 rfl (Nat.le_of_ble_eq_true rfl) (by decide) d_Mod_checkHandlers_112) (fun r27 hr27 => ?_)
                    have hB27 := hr27
                    subst hB27
                    refine lv_istore hx hb d_Mod_checkHandlers_115 hl (by decide) rfl (fun ls hl => ?_)
                    have hl : lv_has ls 8 [(7, .int (nI (t2 bs (px + 6)))), (6, .int 1), (5, .int (nI (t2 bs (px + 2)))), (4, .int (nI (t2 bs px))), (3, .int (nI px)), (2, .int (nI i)), (0, .ref h0), (1, .int (nI mi))] := hl
                    refine lv_iload hx hb d_Mod_checkHandlers_117 (lv_at hl 1 rfl) ?_
                    refine lv_if_eq (tgt := 138) hx hb d_Mod_checkHandlers_119 (by decide) (fun h119 => ?_) (fun h119 => ?_)
                    · first | exact absurd h119 (by decide) | exact absurd (by decide) h119
                    · refine lv_iload hx hb d_Mod_checkHandlers_122 (lv_at hl 0 rfl) ?_
                      refine lv_if_eq (tgt := 145) hx hb d_Mod_checkHandlers_124 (by decide) (fun h124 => ?_) (fun h124 => ?_)
                      · refine lv_iinc (k := 5) (v := nI (i + 1)) hx hb d_Mod_checkHandlers_145 hl rfl ((nI_succ i).symm) (by decide) rfl (fun ls hl => ?_)
                        have hl : lv_has ls 8 [(2, .int (nI (i + 1))), (7, .int (nI (t2 bs (px + 6)))), (6, .int 1), (5, .int (nI (t2 bs (px + 2)))), (4, .int (nI (t2 bs px))), (3, .int (nI px)), (0, .ref h0), (1, .int (nI mi))] := hl
                        refine lv_goto (tgt := 7) hx hb d_Mod_checkHandlers_148 (by decide) ?_
                        have hP : va_P g.1 classes [(h0, .inr (10, mob q rf n mm mb fa9 fp9 av ev wi mn tp tc sc nf fd me mp xn mt wh tq ag an ig)), ((q 2), aI g 600 bs), ((q 14), aI g 620 tg), ((q 34), aI g 160 bg), ((q 35), aI g 160 ln), ((q 36), aI g 160 xf), ((q 37), aI g 160 xt), ((q 39), aI g 160 xp), ((q 40), aZ g 600 is_)] H := hP.sub [0, 1, 2, 3, 4, 5, 6, 7, 8] rfl
                        have hD : va_D A [(h0, .inr (10, mob q rf n mm mb fa9 fp9 av ev wi mn tp tc sc nf fd me mp xn mt wh tq ag an ig)), ((q 2), aI g 600 bs), ((q 14), aI g 620 tg), ((q 34), aI g 160 bg), ((q 35), aI g 160 ln), ((q 36), aI g 160 xf), ((q 37), aI g 160 xt), ((q 39), aI g 160 xp), ((q 40), aZ g 600 is_)] := hD.sub [0, 1, 2, 3, 4, 5, 6, 7, 8] (by decide) rfl
                        exact ih _ (by omega) (i + 1) fa9 fp9 ls _ _ rfl (fun _ => hz3) (by omega) (by omega) (fun _ => by exact fun j h1 h2 => by by_cases ej : j = i; (rw [ej]; exact ⟨px, epx, hpx, hT76.1⟩); (exact hz4 j h1 (by omega))) (lv_sub hl [0, 6, 7] rfl) hP hD hS
                      · refine lv_aload_n hx hb d_Mod_checkHandlers_127 rfl (lv_at hl 6 rfl) ?_
                        refine lv_iload hx hb d_Mod_checkHandlers_128 (lv_at hl 0 rfl) ?_
                        refine lv_bipush (v := 7) hx hb d_Mod_checkHandlers_130 (by decide) ?_
                        refine tw_si (tw_runV (ws := [(h0, .inr (10, mob q rf n mm mb fa9 fp9 av ev wi mn tp tc sc nf fd me mp xn mt wh tq ag an ig)), ((q 2), aI g 600 bs), ((q 14), aI g 620 tg), ((q 34), aI g 160 bg), ((q 35), aI g 160 ln), ((q 36), aI g 160 xf), ((q 37), aI g 160 xt), ((q 39), aI g 160 xp), ((q 40), aZ g 600 is_)]) (wc := [(h0, .inr (10, mob q rf n mm mb fa9 fp9 av ev wi mn tp tc sc nf fd me mp xn mt wh tq ag an ig)), ((q 14), aI g 620 tg)]) (As := [.int (nI (t2 bs (px + 6))), .int 7]) (rest := []) E hB hK hZ (g_Mod_isTagN l g H.size h0 q rf n mm mb fa9 fp9 av ev wi mn tp tc sc nf fd me mp xn mt wh tq ag an ig tg (t2 bs (px + 6)) 7 (by omega) (by omega)) mc_Mod_isTag mi_Mod_isTag me_Mod_isTag wd_1508 hP hD hS hA [0, 2] rfl (by decide) 0 rfl rfl rfl rfl rfl (by decide) rfl hl.1 rfl (Nat.le_of_ble_eq_true rfl) (by decide) d_Mod_checkHandlers_132) (fun r28 hr28 => ?_)
                        have hB28 := hr28
                        refine lv_if_ne (tgt := 145) hx hb d_Mod_checkHandlers_135 (by decide) (fun h135 => ?_) (fun h135 => ?_)
                        · have hT135 := hB28.2 (hB28.1.resolve_left h135)
                          refine lv_iinc (k := 5) (v := nI (i + 1)) hx hb d_Mod_checkHandlers_145 hl rfl ((nI_succ i).symm) (by decide) rfl (fun ls hl => ?_)
                          have hl : lv_has ls 8 [(2, .int (nI (i + 1))), (7, .int (nI (t2 bs (px + 6)))), (6, .int 1), (5, .int (nI (t2 bs (px + 2)))), (4, .int (nI (t2 bs px))), (3, .int (nI px)), (0, .ref h0), (1, .int (nI mi))] := hl
                          refine lv_goto (tgt := 7) hx hb d_Mod_checkHandlers_148 (by decide) ?_
                          have hP : va_P g.1 classes [(h0, .inr (10, mob q rf n mm mb fa9 fp9 av ev wi mn tp tc sc nf fd me mp xn mt wh tq ag an ig)), ((q 2), aI g 600 bs), ((q 14), aI g 620 tg), ((q 34), aI g 160 bg), ((q 35), aI g 160 ln), ((q 36), aI g 160 xf), ((q 37), aI g 160 xt), ((q 39), aI g 160 xp), ((q 40), aZ g 600 is_)] H := hP.sub [0, 1, 2, 3, 4, 5, 6, 7, 8] rfl
                          have hD : va_D A [(h0, .inr (10, mob q rf n mm mb fa9 fp9 av ev wi mn tp tc sc nf fd me mp xn mt wh tq ag an ig)), ((q 2), aI g 600 bs), ((q 14), aI g 620 tg), ((q 34), aI g 160 bg), ((q 35), aI g 160 ln), ((q 36), aI g 160 xf), ((q 37), aI g 160 xt), ((q 39), aI g 160 xp), ((q 40), aZ g 600 is_)] := hD.sub [0, 1, 2, 3, 4, 5, 6, 7, 8] (by decide) rfl
                          exact ih _ (by omega) (i + 1) fa9 fp9 ls _ _ rfl (fun _ => hz3) (by omega) (by omega) (fun _ => by exact fun j h1 h2 => by by_cases ej : j = i; (rw [ej]; exact ⟨px, epx, hpx, hT76.1⟩); (exact hz4 j h1 (by omega))) (lv_sub hl [0, 6, 7] rfl) hP hD hS
                        · refine lv_aload_n hx hb d_Mod_checkHandlers_138 rfl (lv_at hl 6 rfl) ?_
                          refine lv_bipush (v := 20) hx hb d_Mod_checkHandlers_139 (by decide) ?_
                          refine lv_iload_n hx hb d_Mod_checkHandlers_141 rfl (lv_at hl 4 rfl) ?_
                          refine tw_wv (wr := [((q 2), aI g 600 bs), ((q 14), aI g 620 tg), ((q 34), aI g 160 bg), ((q 35), aI g 160 ln), ((q 36), aI g 160 xf), ((q 37), aI g 160 xt), ((q 39), aI g 160 xp), ((q 40), aZ g 600 is_)]) (tw_runV (ws := [(h0, .inr (10, mob q rf n mm mb fa9 fp9 av ev wi mn tp tc sc nf fd me mp xn mt wh tq ag an ig)), ((q 2), aI g 600 bs), ((q 14), aI g 620 tg), ((q 34), aI g 160 bg), ((q 35), aI g 160 ln), ((q 36), aI g 160 xf), ((q 37), aI g 160 xt), ((q 39), aI g 160 xp), ((q 40), aZ g 600 is_)]) (wc := [(h0, .inr (10, mob q rf n mm mb fa9 fp9 av ev wi mn tp tc sc nf fd me mp xn mt wh tq ag an ig))]) (As := [.int 20, .int (nI px)]) (rest := []) E hB hK hZ (g_Mod_fail l g H.size h0 q rf n mm mb av ev wi mn tp tc sc nf fd me mp xn mt wh tq ag an ig fa9 fp9 20 (nI px) (by decide)) mc_Mod_fail mi_Mod_fail me_Mod_fail wd_1478 hP hD hS hA [0] rfl (by decide) 0 rfl rfl rfl rfl rfl (by decide) rfl hl.1 rfl (Nat.le_of_ble_eq_true rfl) (by decide) d_Mod_checkHandlers_142) hP hD hS hA [0] [1, 2, 3, 4, 5, 6, 7, 8] rfl rfl (by decide) (by decide) (fun u30 H locs hr29 hP hD hS => ?_)
                          try dsimp only at hr29
                          have hP : va_P g.1 classes [((q 2), aI g 600 bs), ((q 14), aI g 620 tg), ((q 34), aI g 160 bg), ((q 35), aI g 160 ln), ((q 36), aI g 160 xf), ((q 37), aI g 160 xt), ((q 39), aI g 160 xp), ((q 40), aZ g 600 is_), (h0, .inr (10, mob q rf n mm mb u30.1 u30.2 av ev wi mn tp tc sc nf fd me mp xn mt wh tq ag an ig))] H := hP
                          have hD : va_D A [((q 2), aI g 600 bs), ((q 14), aI g 620 tg), ((q 34), aI g 160 bg), ((q 35), aI g 160 ln), ((q 36), aI g 160 xf), ((q 37), aI g 160 xt), ((q 39), aI g 160 xp), ((q 40), aZ g 600 is_), (h0, .inr (10, mob q rf n mm mb u30.1 u30.2 av ev wi mn tp tc sc nf fd me mp xn mt wh tq ag an ig))] := hD
                          have hP : va_P g.1 classes [(h0, .inr (10, mob q rf n mm mb u30.1 u30.2 av ev wi mn tp tc sc nf fd me mp xn mt wh tq ag an ig)), ((q 2), aI g 600 bs), ((q 14), aI g 620 tg), ((q 34), aI g 160 bg), ((q 35), aI g 160 ln), ((q 36), aI g 160 xf), ((q 37), aI g 160 xt), ((q 39), aI g 160 xp), ((q 40), aZ g 600 is_)] H := hP.sub [8, 0, 1, 2, 3, 4, 5, 6, 7] rfl
                          have hD : va_D A [(h0, .inr (10, mob q rf n mm mb u30.1 u30.2 av ev wi mn tp tc sc nf fd me mp xn mt wh tq ag an ig)), ((q 2), aI g 600 bs), ((q 14), aI g 620 tg), ((q 34), aI g 160 bg), ((q 35), aI g 160 ln), ((q 36), aI g 160 xf), ((q 37), aI g 160 xt), ((q 39), aI g 160 xp), ((q 40), aZ g 600 is_)] := hD.sub [8, 0, 1, 2, 3, 4, 5, 6, 7] (by decide) rfl
                          have hp30_0 := hr29
                          refine lv_iinc (k := 5) (v := nI (i + 1)) hx hb d_Mod_checkHandlers_145 hl rfl ((nI_succ i).symm) (by decide) rfl (fun ls hl => ?_)
                          have hl : lv_has ls 8 [(2, .int (nI (i + 1))), (7, .int (nI (t2 bs (px + 6)))), (6, .int 1), (5, .int (nI (t2 bs (px + 2)))), (4, .int (nI (t2 bs px))), (3, .int (nI px)), (0, .ref h0), (1, .int (nI mi))] := hl
                          refine lv_goto (tgt := 7) hx hb d_Mod_checkHandlers_148 (by decide) ?_
                          have hP : va_P g.1 classes [(h0, .inr (10, mob q rf n mm mb u30.1 u30.2 av ev wi mn tp tc sc nf fd me mp xn mt wh tq ag an ig)), ((q 2), aI g 600 bs), ((q 14), aI g 620 tg), ((q 34), aI g 160 bg), ((q 35), aI g 160 ln), ((q 36), aI g 160 xf), ((q 37), aI g 160 xt), ((q 39), aI g 160 xp), ((q 40), aZ g 600 is_)] H := hP.sub [0, 1, 2, 3, 4, 5, 6, 7, 8] rfl
                          have hD : va_D A [(h0, .inr (10, mob q rf n mm mb u30.1 u30.2 av ev wi mn tp tc sc nf fd me mp xn mt wh tq ag an ig)), ((q 2), aI g 600 bs), ((q 14), aI g 620 tg), ((q 34), aI g 160 bg), ((q 35), aI g 160 ln), ((q 36), aI g 160 xf), ((q 37), aI g 160 xt), ((q 39), aI g 160 xp), ((q 40), aZ g 600 is_)] := hD.sub [0, 1, 2, 3, 4, 5, 6, 7, 8] (by decide) rfl
                          exact ih _ (by omega) (i + 1) u30.1 u30.2 ls _ _ rfl (fun h => absurd h hp30_0) (by omega) (by omega) (fun h => absurd h hp30_0) (lv_sub hl [0, 6, 7] rfl) hP hD hS
  exact loop7 _ x1 fa fp ls _ _ rfl (fun h => h) (by omega) (Nat.le_refl _) (fun _ j h1 h2 => absurd h2 (by omega)) (lv_sub hl [0, 1, 2] rfl) hP hD hS
set_option maxHeartbeats 4000000 in
set_option maxRecDepth 100000 in
theorem g_Mod_readTypes (l : Launch) (g : tw_G) (sz : Nat) (h0 : Nat) (q : Nat → Nat) (rf : Int32) (n : Nat) (mm : Int32) (mb : Int32) (fa : Int32) (fp : Int32) (av : Nat) (ev : Nat) (wi : Int32) (mn : Nat) (tp : Int32) (tc : Int32) (sc : Int32) (nf : Nat) (fd : Nat) (me : Nat) (mp : Int32) (xn : Nat) (mt : Nat) (wh : Nat) (tq : Nat) (ig : Int32) (bs : Nat → Int32) (on : Nat → Int32) (tw : Nat → Int32) (ag : Nat) (an : Int32) (ak : Nat → Int32) (kt : Nat) (p1 l1 : Nat) (k6kt : kt < 620) (q1kt : on kt = nI p1) (q2kt : tw kt = nI l1) (q3kt : p1 + l1 ≤ 600) (hMT : MTY bs p1 (p1 + l1)) : Met l y_Mod_readTypes [.code y_Mod_readTypes b_Mod_readTypes 4 none] ({ frames := 4, cells := 0, slots := 0, locals := 94 }) (tw_P g [.ref h0, .int (nI kt)] [(h0, .inr (10, mob q rf n mm mb fa fp av ev wi mn tp tc sc nf fd me mp xn mt wh tq ag an ig)), ((q 2), aI g 600 bs), ((q 16), aI g 620 on), ((q 17), aI g 620 tw), ((q 50), aI g 600 ak)] sz) (tw_Qv g (fun (u : Nat × Int32 × (Nat → Int32)) => (u.1 ≤ 600) ∧ (∀ j, j < u.1 → KND (u.2.2 j)) ∧ (KND u.2.1)) (fun u : Nat × Int32 × (Nat → Int32) => [(h0, .inr (10, mob q rf n mm mb fa fp av ev wi mn tp tc sc nf fd me mp xn mt wh tq u.1 u.2.1 ig)), ((q 2), aI g 600 bs), ((q 16), aI g 620 on), ((q 17), aI g 620 tw), ((q 50), aI g 600 u.2.2)]) (va_A [(h0, .inr (10, mob q rf n mm mb fa fp av ev wi mn tp tc sc nf fd me mp xn mt wh tq ag an ig)), ((q 2), aI g 600 bs), ((q 16), aI g 620 on), ((q 17), aI g 620 tw), ((q 50), aI g 600 ak)] sz)) 0 0 (va_A [(h0, .inr (10, mob q rf n mm mb fa fp av ev wi mn tp tc sc nf fd me mp xn mt wh tq ag an ig)), ((q 2), aI g 600 bs), ((q 16), aI g 620 on), ((q 17), aI g 620 tw), ((q 50), aI g 600 ak)] sz) := by
  refine tw_metW (l := l) (g := g) (y := y_Mod_readTypes) (cc := b_Mod_readTypes) (maxL := 4) (ret := none) (rm := { frames := 4, cells := 0, slots := 0, locals := 94 }) (mc := 0) (ms := 0) (av := [.ref h0, .int (nI kt)]) (ws := [(h0, .inr (10, mob q rf n mm mb fa fp av ev wi mn tp tc sc nf fd me mp xn mt wh tq ag an ig)), ((q 2), aI g 600 bs), ((q 16), aI g 620 on), ((q 17), aI g 620 tw), ((q 50), aI g 600 ak)]) (sz := sz) (Qc := fun A => (tw_Qv g (fun (u : Nat × Int32 × (Nat → Int32)) => (u.1 ≤ 600) ∧ (∀ j, j < u.1 → KND (u.2.2 j)) ∧ (KND u.2.1)) (fun u : Nat × Int32 × (Nat → Int32) => [(h0, .inr (10, mob q rf n mm mb fa fp av ev wi mn tp tc sc nf fd me mp xn mt wh tq u.1 u.2.1 ig)), ((q 2), aI g 600 bs), ((q 16), aI g 620 on), ((q 17), aI g 620 tw), ((q 50), aI g 600 u.2.2)]) A)) (by decide) (Nat.le_of_ble_eq_true rfl) ?_
  intro p e s m below meth c ls H A E hB hK hZ hP hD hS hA hl
  obtain ⟨hx, hb, hml, hr, hown, hts, hlocks, hin⟩ := id E
  have hl : lv_has ls 4 [(0, .ref h0), (1, .int (nI kt))] := hl
  refine lv_aload_n hx hb d_Mod_readTypes_0 rfl (lv_at hl 0 rfl) ?_
  refine lv_iconst (v := 0) hx hb d_Mod_readTypes_1 (by decide) ?_
  refine va_put (D := g.1) (ci := 10) (v := .int 0) (ty := .int) (C := R_Mod) (T := F_Mod) (N := 61) hx hb hts in_Mod t_Mod t_Mod_ok n_Mod hown hK hP hD hS 0 rfl rfl 49 (by decide) (hts _ wd_1299) (fun _ h9 => h9) rfl (t_Mod_ok 49 (by decide)) rfl rfl (Nat.le_of_ble_eq_true rfl) d_Mod_readTypes_2 (fun H locs hP hD hS => ?_)
  have hP : va_P g.1 classes [(h0, .inr (10, mob q rf n mm mb fa fp av ev wi mn tp tc sc nf fd me mp xn mt wh tq 0 an ig)), ((q 2), aI g 600 bs), ((q 16), aI g 620 on), ((q 17), aI g 620 tw), ((q 50), aI g 600 ak)] H := hP
  have hD : va_D A [(h0, .inr (10, mob q rf n mm mb fa fp av ev wi mn tp tc sc nf fd me mp xn mt wh tq 0 an ig)), ((q 2), aI g 600 bs), ((q 16), aI g 620 on), ((q 17), aI g 620 tw), ((q 50), aI g 600 ak)] := hD
  refine lv_aload_n hx hb d_Mod_readTypes_5 rfl (lv_at hl 0 rfl) ?_
  refine lv_iload_n hx hb d_Mod_readTypes_6 rfl (lv_at hl 1 rfl) ?_
  refine tw_si (tw_runV (ws := [(h0, .inr (10, mob q rf n mm mb fa fp av ev wi mn tp tc sc nf fd me mp xn mt wh tq 0 an ig)), ((q 2), aI g 600 bs), ((q 16), aI g 620 on), ((q 17), aI g 620 tw), ((q 50), aI g 600 ak)]) (wc := [(h0, .inr (10, mob q rf n mm mb fa fp av ev wi mn tp tc sc nf fd me mp xn mt wh tq 0 an ig)), ((q 16), aI g 620 on), ((q 17), aI g 620 tw)]) (As := [.int (nI kt)]) (rest := []) E hB hK hZ (g_Mod_endOf l g H.size h0 q rf n mm mb fa fp av ev wi mn tp tc sc nf fd me mp xn mt wh tq 0 an ig on tw kt p1 l1 (by omega) q1kt q2kt q3kt) mc_Mod_endOf mi_Mod_endOf me_Mod_endOf wd_1536 hP hD hS hA [0, 2, 3] rfl (by decide) 0 rfl rfl rfl rfl rfl (by decide) rfl hl.1 rfl (Nat.le_of_ble_eq_true rfl) (by decide) d_Mod_readTypes_7) (fun r1 hr1 => ?_)
  have hB1 := hr1
  subst hB1
  refine lv_istore_n hx hb d_Mod_readTypes_10 rfl hl (by decide) rfl (fun ls hl => ?_)
  have hl : lv_has ls 4 [(2, .int (nI (p1 + l1))), (0, .ref h0), (1, .int (nI kt))] := hl
  refine lv_aload_n hx hb d_Mod_readTypes_11 rfl (lv_at hl 1 rfl) ?_
  refine va_get (D := g.1) (ci := 10) (v := .ref (q 16)) (C := R_Mod) (T := F_Mod) (N := 61) hx hb hts in_Mod hown hK hP 0 rfl rfl 16 (by decide) (hts _ wd_1266) (fun _ h9 => h9) rfl d_Mod_readTypes_12 ?_
  refine lv_iload_n hx hb d_Mod_readTypes_15 rfl (lv_at hl 2 rfl) ?_
  refine va_iald hx hb hK hP 2 0 rfl rfl (vp_in_nI (by omega) (by decide)) d_Mod_readTypes_16 ?_
  refine tw_ri (e2 := nI p1) (by rw [nI_clamp (by omega)]; exact q1kt) ?_
  refine lv_iconst (v := 1) hx hb d_Mod_readTypes_17 (by decide) ?_
  refine lv_iadd hx hb d_Mod_readTypes_18 ?_
  refine tw_ri (e2 := nI (p1 + 1)) (nI_add p1 1) ?_
  refine lv_istore_n hx hb d_Mod_readTypes_19 rfl hl (by decide) rfl (fun ls hl => ?_)
  have hl : lv_has ls 4 [(3, .int (nI (p1 + 1))), (2, .int (nI (p1 + l1))), (0, .ref h0), (1, .int (nI kt))] := hl
  have loop20 : ∀ (kq : Nat) (k : Nat) (ag9 : Nat) (ak9 : Nat → Int32) (ls : Array Slot) (H : Heap) (locs : List Loc) , p1 + l1 - k = kq → (hMX : MTX bs (p1 + l1) k) → (hak : ag9 ≤ k) → (hkk : ∀ j, j < ag9 → KND (ak9 j)) → lv_has ls 4 [(3, .int (nI k)), (2, .int (nI (p1 + l1))), (0, .ref h0), (1, .int (nI kt))] → va_P g.1 classes [(h0, .inr (10, mob q rf n mm mb fa fp av ev wi mn tp tc sc nf fd me mp xn mt wh tq ag9 an ig)), ((q 2), aI g 600 bs), ((q 16), aI g 620 on), ((q 17), aI g 620 tw), ((q 50), aI g 600 ak9)] H → va_D A [(h0, .inr (10, mob q rf n mm mb fa fp av ev wi mn tp tc sc nf fd me mp xn mt wh tq ag9 an ig)), ((q 2), aI g 600 bs), ((q 16), aI g 620 on), ((q 17), aI g 620 tw), ((q 50), aI g 600 ak9)] → va_S A s.heap H locs → W p l e ({ frames := 4, cells := 0, slots := 0, locals := 94 }) s m [.ref h0, .int (nI kt)].toArray below meth c H locs 0 0 (MQ below (tw_Qv g (fun (u : Nat × Int32 × (Nat → Int32)) => (u.1 ≤ 600) ∧ (∀ j, j < u.1 → KND (u.2.2 j)) ∧ (KND u.2.1)) (fun u : Nat × Int32 × (Nat → Int32) => [(h0, .inr (10, mob q rf n mm mb fa fp av ev wi mn tp tc sc nf fd me mp xn mt wh tq u.1 u.2.1 ig)), ((q 2), aI g 600 bs), ((q 16), aI g 620 on), ((q 17), aI g 620 tw), ((q 50), aI g 600 u.2.2)]) A) [.ref h0, .int (nI kt)].toArray s 0 0 A) (F0 m 20 ls []) := by
    intro kq
    induction kq using Nat.strongRecOn with
    | _ kq ih =>
      intro k ag9 ak9 ls H locs hk hMX hak hkk hl hP hD hS
      obtain ⟨f9, hf9⟩ := hMX
      have hky := mtc_lt hf9
      refine lv_aload_n hx hb d_Mod_readTypes_20 rfl (lv_at hl 2 rfl) ?_
      refine va_get (D := g.1) (ci := 10) (v := .ref (q 2)) (C := R_Mod) (T := F_Mod) (N := 61) hx hb hts in_Mod hown hK hP 0 rfl rfl 2 (by decide) (hts _ wd_1252) (fun _ h9 => h9) rfl d_Mod_readTypes_21 ?_
      refine lv_iload_n hx hb d_Mod_readTypes_24 rfl (lv_at hl 0 rfl) ?_
      refine va_iald hx hb hK hP 1 0 rfl rfl (vp_in_nI (by omega) (by decide)) d_Mod_readTypes_25 ?_
      refine tw_ri (e2 := bs k) (by rw [nI_clamp (by omega)]) ?_
      refine lv_bipush (v := 41) hx hb d_Mod_readTypes_26 (by decide) ?_
      refine lv_icmp_eq (tgt := 65) hx hb d_Mod_readTypes_28 (by decide) (fun h28 => ?_) (fun h28 => ?_)
      · have hke := mtc_end hf9 h28
        refine lv_aload_n hx hb d_Mod_readTypes_65 rfl (lv_at hl 2 rfl) ?_
        refine lv_aload_n hx hb d_Mod_readTypes_66 rfl (lv_at hl 2 rfl) ?_
        refine lv_iload_n hx hb d_Mod_readTypes_67 rfl (lv_at hl 0 rfl) ?_
        refine lv_iconst (v := 1) hx hb d_Mod_readTypes_68 (by decide) ?_
        refine lv_iadd hx hb d_Mod_readTypes_69 ?_
        refine tw_ri (e2 := nI (k + 1)) (nI_add k 1) ?_
        refine tw_si (tw_runV (ws := [(h0, .inr (10, mob q rf n mm mb fa fp av ev wi mn tp tc sc nf fd me mp xn mt wh tq ag9 an ig)), ((q 2), aI g 600 bs), ((q 16), aI g 620 on), ((q 17), aI g 620 tw), ((q 50), aI g 600 ak9)]) (wc := [(h0, .inr (10, mob q rf n mm mb fa fp av ev wi mn tp tc sc nf fd me mp xn mt wh tq ag9 an ig)), ((q 2), aI g 600 bs)]) (As := [.int (nI (k + 1))]) (rest := [.ref h0]) E hB hK hZ (g_Mod_kindAt l g H.size h0 q rf n mm mb fa fp av ev wi mn tp tc sc nf fd me mp xn mt wh tq ag9 an ig bs (k + 1) (by omega)) mc_Mod_kindAt mi_Mod_kindAt me_Mod_kindAt wd_1632 hP hD hS hA [0, 1] rfl (by decide) 0 rfl rfl rfl rfl rfl (by decide) rfl hl.1 rfl (Nat.le_of_ble_eq_true rfl) (by decide) d_Mod_readTypes_70) (fun r2 hr2 => ?_)
        have hB2 := hr2
        refine va_put (D := g.1) (ci := 10) (v := .int r2) (ty := .int) (C := R_Mod) (T := F_Mod) (N := 61) hx hb hts in_Mod t_Mod t_Mod_ok n_Mod hown hK hP hD hS 0 rfl rfl 51 (by decide) (hts _ wd_1301) (fun _ h9 => h9) rfl (t_Mod_ok 51 (by decide)) rfl rfl (Nat.le_of_ble_eq_true rfl) d_Mod_readTypes_73 (fun H locs hP hD hS => ?_)
        have hP : va_P g.1 classes [(h0, .inr (10, mob q rf n mm mb fa fp av ev wi mn tp tc sc nf fd me mp xn mt wh tq ag9 r2 ig)), ((q 2), aI g 600 bs), ((q 16), aI g 620 on), ((q 17), aI g 620 tw), ((q 50), aI g 600 ak9)] H := hP
        have hD : va_D A [(h0, .inr (10, mob q rf n mm mb fa fp av ev wi mn tp tc sc nf fd me mp xn mt wh tq ag9 r2 ig)), ((q 2), aI g 600 bs), ((q 16), aI g 620 on), ((q 17), aI g 620 tw), ((q 50), aI g 600 ak9)] := hD
        exact tw_vret E hS (ag9, r2, ak9) (⟨(by first | omega | (dsimp only <;> omega)), hkk, hB2⟩) hP hD d_Mod_readTypes_76
      · obtain ⟨rr, hrt, hr1, hr2, hrm⟩ := mtc_next hf9 h28
        refine lv_aload_n hx hb d_Mod_readTypes_31 rfl (lv_at hl 2 rfl) ?_
        refine va_get (D := g.1) (ci := 10) (v := .ref (q 50)) (C := R_Mod) (T := F_Mod) (N := 61) hx hb hts in_Mod hown hK hP 0 rfl rfl 50 (by decide) (hts _ wd_1300) (fun _ h9 => h9) rfl d_Mod_readTypes_32 ?_
        refine lv_aload_n hx hb d_Mod_readTypes_35 rfl (lv_at hl 2 rfl) ?_
        refine va_get (D := g.1) (ci := 10) (v := .int (nI ag9)) (C := R_Mod) (T := F_Mod) (N := 61) hx hb hts in_Mod hown hK hP 0 rfl rfl 49 (by decide) (hts _ wd_1299) (fun _ h9 => h9) rfl d_Mod_readTypes_36 ?_
        refine lv_aload_n hx hb d_Mod_readTypes_39 rfl (lv_at hl 2 rfl) ?_
        refine lv_iload_n hx hb d_Mod_readTypes_40 rfl (lv_at hl 0 rfl) ?_
        refine tw_si (tw_runV (ws := [(h0, .inr (10, mob q rf n mm mb fa fp av ev wi mn tp tc sc nf fd me mp xn mt wh tq ag9 an ig)), ((q 2), aI g 600 bs), ((q 16), aI g 620 on), ((q 17), aI g 620 tw), ((q 50), aI g 600 ak9)]) (wc := [(h0, .inr (10, mob q rf n mm mb fa fp av ev wi mn tp tc sc nf fd me mp xn mt wh tq ag9 an ig)), ((q 2), aI g 600 bs)]) (As := [.int (nI k)]) (rest := [.int (nI ag9), .ref (q 50)]) E hB hK hZ (g_Mod_kindAt l g H.size h0 q rf n mm mb fa fp av ev wi mn tp tc sc nf fd me mp xn mt wh tq ag9 an ig bs k (by omega)) mc_Mod_kindAt mi_Mod_kindAt me_Mod_kindAt wd_1632 hP hD hS hA [0, 1] rfl (by decide) 0 rfl rfl rfl rfl rfl (by decide) rfl hl.1 rfl (Nat.le_of_ble_eq_true rfl) (by decide) d_Mod_readTypes_41) (fun r3 hr3 => ?_)
        have hB3 := hr3
        refine va_iast hx hb hK hP hD hS 4 0 rfl rfl (vp_in_nI (by omega) (by decide)) d_Mod_readTypes_44 (fun H locs hP hD hS => ?_)
        have hP : va_P g.1 classes [(h0, .inr (10, mob q rf n mm mb fa fp av ev wi mn tp tc sc nf fd me mp xn mt wh tq ag9 an ig)), ((q 2), aI g 600 bs), ((q 16), aI g 620 on), ((q 17), aI g 620 tw), ((q 50), aI g 600 (upd ak9 (nI ag9).toNatClampNeg r3))] H := hP
        have hD : va_D A [(h0, .inr (10, mob q rf n mm mb fa fp av ev wi mn tp tc sc nf fd me mp xn mt wh tq ag9 an ig)), ((q 2), aI g 600 bs), ((q 16), aI g 620 on), ((q 17), aI g 620 tw), ((q 50), aI g 600 (upd ak9 (nI ag9).toNatClampNeg r3))] := hD
        have e9 : upd ak9 (nI ag9).toNatClampNeg r3 = upd ak9 ag9 r3 := by rw [nI_clamp (by omega)]
        rw [e9] at hP hD
        refine lv_aload_n hx hb d_Mod_readTypes_45 rfl (lv_at hl 2 rfl) ?_
        refine lv_dup hx hb d_Mod_readTypes_46 rfl ?_
        refine va_get (D := g.1) (ci := 10) (v := .int (nI ag9)) (C := R_Mod) (T := F_Mod) (N := 61) hx hb hts in_Mod hown hK hP 0 rfl rfl 49 (by decide) (hts _ wd_1299) (fun _ h9 => h9) rfl d_Mod_readTypes_47 ?_
        refine lv_iconst (v := 1) hx hb d_Mod_readTypes_50 (by decide) ?_
        refine lv_iadd hx hb d_Mod_readTypes_51 ?_
        refine tw_ri (e2 := nI (ag9 + 1)) (nI_add ag9 1) ?_
        refine va_put (D := g.1) (ci := 10) (v := .int (nI (ag9 + 1))) (ty := .int) (C := R_Mod) (T := F_Mod) (N := 61) hx hb hts in_Mod t_Mod t_Mod_ok n_Mod hown hK hP hD hS 0 rfl rfl 49 (by decide) (hts _ wd_1299) (fun _ h9 => h9) rfl (t_Mod_ok 49 (by decide)) rfl rfl (Nat.le_of_ble_eq_true rfl) d_Mod_readTypes_52 (fun H locs hP hD hS => ?_)
        have hP : va_P g.1 classes [(h0, .inr (10, mob q rf n mm mb fa fp av ev wi mn tp tc sc nf fd me mp xn mt wh tq (ag9 + 1) an ig)), ((q 2), aI g 600 bs), ((q 16), aI g 620 on), ((q 17), aI g 620 tw), ((q 50), aI g 600 (upd ak9 ag9 r3))] H := hP
        have hD : va_D A [(h0, .inr (10, mob q rf n mm mb fa fp av ev wi mn tp tc sc nf fd me mp xn mt wh tq (ag9 + 1) an ig)), ((q 2), aI g 600 bs), ((q 16), aI g 620 on), ((q 17), aI g 620 tw), ((q 50), aI g 600 (upd ak9 ag9 r3))] := hD
        refine lv_aload_n hx hb d_Mod_readTypes_55 rfl (lv_at hl 2 rfl) ?_
        refine lv_iload_n hx hb d_Mod_readTypes_56 rfl (lv_at hl 0 rfl) ?_
        refine lv_iload_n hx hb d_Mod_readTypes_57 rfl (lv_at hl 1 rfl) ?_
        refine tw_si (tw_runV (ws := [(h0, .inr (10, mob q rf n mm mb fa fp av ev wi mn tp tc sc nf fd me mp xn mt wh tq (ag9 + 1) an ig)), ((q 2), aI g 600 bs), ((q 16), aI g 620 on), ((q 17), aI g 620 tw), ((q 50), aI g 600 (upd ak9 ag9 r3))]) (wc := [(h0, .inr (10, mob q rf n mm mb fa fp av ev wi mn tp tc sc nf fd me mp xn mt wh tq (ag9 + 1) an ig)), ((q 2), aI g 600 bs)]) (As := [.int (nI k), .int (nI (p1 + l1))]) (rest := []) E hB hK hZ (g_Mod_typeEnd l g H.size h0 q rf n mm mb fa fp av ev wi mn tp tc sc nf fd me mp xn mt wh tq (ag9 + 1) an ig bs k (p1 + l1) (by omega) (by omega)) mc_Mod_typeEnd mi_Mod_typeEnd me_Mod_typeEnd wd_1559 hP hD hS hA [0, 1] rfl (by decide) 0 rfl rfl rfl rfl rfl (by decide) rfl hl.1 rfl (Nat.le_of_ble_eq_true rfl) (by decide) d_Mod_readTypes_58) (fun r4 hr4 => ?_)
        have hB4 := hr4
        have hrr : r4 = nI rr := hB4.trans hrt
        subst hrr
        refine lv_istore_n hx hb d_Mod_readTypes_61 rfl hl (by decide) rfl (fun ls hl => ?_)
        have hl : lv_has ls 4 [(3, .int (nI rr)), (2, .int (nI (p1 + l1))), (0, .ref h0), (1, .int (nI kt))] := hl
        refine lv_goto (tgt := 20) hx hb d_Mod_readTypes_62 (by decide) ?_
        have hP : va_P g.1 classes [(h0, .inr (10, mob q rf n mm mb fa fp av ev wi mn tp tc sc nf fd me mp xn mt wh tq (ag9 + 1) an ig)), ((q 2), aI g 600 bs), ((q 16), aI g 620 on), ((q 17), aI g 620 tw), ((q 50), aI g 600 (upd ak9 ag9 r3))] H := hP.sub [0, 1, 2, 3, 4] rfl
        have hD : va_D A [(h0, .inr (10, mob q rf n mm mb fa fp av ev wi mn tp tc sc nf fd me mp xn mt wh tq (ag9 + 1) an ig)), ((q 2), aI g 600 bs), ((q 16), aI g 620 on), ((q 17), aI g 620 tw), ((q 50), aI g 600 (upd ak9 ag9 r3))] := hD.sub [0, 1, 2, 3, 4] (by decide) rfl
        exact ih _ (by omega) rr (ag9 + 1) (upd ak9 ag9 r3) ls _ _ rfl hrm (by omega) (kn_put hkk hB3) (lv_sub hl [0, 1, 2, 3] rfl) hP hD hS
  exact loop20 _ (p1 + 1) 0 ak ls _ _ rfl hMT.2 (Nat.zero_le _) (fun j h => absurd h (Nat.not_lt_zero j)) (hl) hP hD hS
