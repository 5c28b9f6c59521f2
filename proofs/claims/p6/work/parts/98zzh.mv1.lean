section
set_option maxHeartbeats 4000000 in
set_option maxRecDepth 100000 in
theorem g_Mod_take (l : Launch) (g : tw_G) (sz : Nat) (h0 : Nat) (q : Nat → Nat) (rf : Int32) (n : Nat) (mm : Int32) (mb : Int32) (av : Nat) (ev : Nat) (wi : Int32) (mn : Nat) (tp : Int32) (tc : Int32) (sc : Int32) (nf : Nat) (fd : Nat) (me : Nat) (mp : Int32) (xn : Nat) (mt : Nat) (wh : Nat) (ag : Nat) (an : Int32) (ig : Int32) (nw : Nat → Int32) (fa : Int32) (fp : Int32) (tq : Nat) (kd1 : Int32) (hNW : NOW nw) (htq : tq ≤ 64) : Met l y_Mod_take [.code y_Mod_take b_Mod_take 2 none] ({ frames := 1, cells := 0, slots := 0, locals := 22 }) (tw_P g [.ref h0, .int kd1] [(h0, .inr (10, mob q rf n mm mb fa fp av ev wi mn tp tc sc nf fd me mp xn mt wh tq ag an ig)), ((q 47), aI g 128 nw)] sz) (tw_Qv g (fun (u : Int32 × Int32 × Nat) => (u.1 = 0 → fa = 0) ∧ (u.2.2 ≤ 64) ∧ (u.2.2 ≤ tq)) (fun u : Int32 × Int32 × Nat => [(h0, .inr (10, mob q rf n mm mb u.1 u.2.1 av ev wi mn tp tc sc nf fd me mp xn mt wh u.2.2 ag an ig)), ((q 47), aI g 128 nw)]) (va_A [(h0, .inr (10, mob q rf n mm mb fa fp av ev wi mn tp tc sc nf fd me mp xn mt wh tq ag an ig)), ((q 47), aI g 128 nw)] sz)) 0 0 (va_A [(h0, .inr (10, mob q rf n mm mb fa fp av ev wi mn tp tc sc nf fd me mp xn mt wh tq ag an ig)), ((q 47), aI g 128 nw)] sz) := by
  refine tw_metW (l := l) (g := g) (y := y_Mod_take) (cc := b_Mod_take) (maxL := 2) (ret := none) (rm := { frames := 1, cells := 0, slots := 0, locals := 22 }) (mc := 0) (ms := 0) (av := [.ref h0, .int kd1]) (ws := [(h0, .inr (10, mob q rf n mm mb fa fp av ev wi mn tp tc sc nf fd me mp xn mt wh tq ag an ig)), ((q 47), aI g 128 nw)]) (sz := sz) (Qc := fun A => (tw_Qv g (fun (u : Int32 × Int32 × Nat) => (u.1 = 0 → fa = 0) ∧ (u.2.2 ≤ 64) ∧ (u.2.2 ≤ tq)) (fun u : Int32 × Int32 × Nat => [(h0, .inr (10, mob q rf n mm mb u.1 u.2.1 av ev wi mn tp tc sc nf fd me mp xn mt wh u.2.2 ag an ig)), ((q 47), aI g 128 nw)]) A)) (by decide) (Nat.le_of_ble_eq_true rfl) ?_
  intro p e s m below meth c ls H A E hB hK hZ hP hD hS hA hl
  obtain ⟨hx, hb, hml, hr, hown, hts, hlocks, hin⟩ := id E
  have hl : lv_has ls 2 [(0, .ref h0), (1, .int kd1)] := hl
  refine lv_aload_n hx hb d_Mod_take_0 rfl (lv_at hl 0 rfl) ?_
  refine va_get (D := g.1) (ci := 10) (v := .int fa) (C := R_Mod) (T := F_Mod) (N := 61) hx hb hts in_Mod hown hK hP 0 rfl rfl 8 (by decide) (hts _ wd_1258) (fun _ h9 => h9) rfl d_Mod_take_1 ?_
  refine lv_if_eq (tgt := 8) hx hb d_Mod_take_4 (by decide) (fun h4 => ?_) (fun h4 => ?_)
  · refine lv_iload_n hx hb d_Mod_take_8 rfl (lv_at hl 1 rfl) ?_
    refine lv_bipush (v := 9) hx hb d_Mod_take_9 (by decide) ?_
    refine lv_icmp_lt (tgt := 27) hx hb d_Mod_take_11 (by decide) (fun h11 => ?_) (fun h11 => ?_)
    · refine lv_aload_n hx hb d_Mod_take_27 rfl (lv_at hl 0 rfl) ?_
      refine va_get (D := g.1) (ci := 10) (v := .int (nI tq)) (C := R_Mod) (T := F_Mod) (N := 61) hx hb hts in_Mod hown hK hP 0 rfl rfl 46 (by decide) (hts _ wd_1296) (fun _ h9 => h9) rfl d_Mod_take_28 ?_
      refine lv_if_ne (tgt := 47) hx hb d_Mod_take_31 (by decide) (fun h31 => ?_) (fun h31 => ?_)
      · have h31 := tn_ne (b := 0) h31
        refine lv_aload_n hx hb d_Mod_take_47 rfl (lv_at hl 0 rfl) ?_
        refine va_get (D := g.1) (ci := 10) (v := .ref (q 47)) (C := R_Mod) (T := F_Mod) (N := 61) hx hb hts in_Mod hown hK hP 0 rfl rfl 47 (by decide) (hts _ wd_1297) (fun _ h9 => h9) rfl d_Mod_take_48 ?_
        refine lv_bipush (v := 64) hx hb d_Mod_take_51 (by decide) ?_
        refine lv_aload_n hx hb d_Mod_take_53 rfl (lv_at hl 0 rfl) ?_
        refine va_get (D := g.1) (ci := 10) (v := .int (nI tq)) (C := R_Mod) (T := F_Mod) (N := 61) hx hb hts in_Mod hown hK hP 0 rfl rfl 46 (by decide) (hts _ wd_1296) (fun _ h9 => h9) rfl d_Mod_take_54 ?_
        refine lv_iadd hx hb d_Mod_take_57 ?_
        refine tw_ri (e2 := nI (64 + tq)) (nI_add 64 tq) ?_
        refine lv_iconst (v := 1) hx hb d_Mod_take_58 (by decide) ?_
        refine lv_isub hx hb d_Mod_take_59 ?_
        refine tw_ri (e2 := nI (64 + tq - 1)) (pk_sub (b := 1) (by omega)) ?_
        refine va_iald hx hb hK hP 1 0 rfl rfl (vp_in_nI (by omega) (by decide)) d_Mod_take_60 ?_
        refine tw_ri (e2 := nw (64 + tq - 1)) (by rw [nI_clamp (by omega)]) ?_
        refine lv_iload_n hx hb d_Mod_take_61 rfl (lv_at hl 1 rfl) ?_
        refine lv_iconst (v := 2) hx hb d_Mod_take_62 (by decide) ?_
        refine lv_icmp_ne (tgt := 70) hx hb d_Mod_take_63 (by decide) (fun h63 => ?_) (fun h63 => ?_)
        · refine lv_iload_n hx hb d_Mod_take_70 rfl (lv_at hl 1 rfl) ?_
          refine lv_icmp_eq (tgt := 87) hx hb d_Mod_take_71 (by decide) (fun h71 => ?_) (fun h71 => ?_)
          · refine lv_aload_n hx hb d_Mod_take_87 rfl (lv_at hl 0 rfl) ?_
            refine lv_iload_n hx hb d_Mod_take_88 rfl (lv_at hl 1 rfl) ?_
            refine lv_iconst (v := 2) hx hb d_Mod_take_89 (by decide) ?_
            refine lv_icmp_ne (tgt := 102) hx hb d_Mod_take_90 (by decide) (fun h90 => ?_) (fun h90 => ?_)
            · refine lv_aload_n hx hb d_Mod_take_102 rfl (lv_at hl 0 rfl) ?_
              refine va_get (D := g.1) (ci := 10) (v := .int (nI tq)) (C := R_Mod) (T := F_Mod) (N := 61) hx hb hts in_Mod hown hK hP 0 rfl rfl 46 (by decide) (hts _ wd_1296) (fun _ h9 => h9) rfl d_Mod_take_103 ?_
              refine lv_iconst (v := 1) hx hb d_Mod_take_106 (by decide) ?_
              refine lv_isub hx hb d_Mod_take_107 ?_
              refine tw_ri (e2 := nI (tq - 1)) (pk_sub (b := 1) (by omega)) ?_
              refine va_put (D := g.1) (ci := 10) (v := .int (nI (tq - 1))) (ty := .int) (C := R_Mod) (T := F_Mod) (N := 61) hx hb hts in_Mod t_Mod t_Mod_ok n_Mod hown hK hP hD hS 0 rfl rfl 46 (by decide) (hts _ wd_1296) (fun _ h9 => h9) rfl (t_Mod_ok 46 (by decide)) rfl rfl (Nat.le_of_ble_eq_true rfl) d_Mod_take_108 (fun H locs hP hD hS => ?_)
              have hP : va_P g.1 classes [(h0, .inr (10, mob q rf n mm mb fa fp av ev wi mn tp tc sc nf fd me mp xn mt wh (tq - 1) ag an ig)), ((q 47), aI g 128 nw)] H := hP
              have hD : va_D A [(h0, .inr (10, mob q rf n mm mb fa fp av ev wi mn tp tc sc nf fd me mp xn mt wh (tq - 1) ag an ig)), ((q 47), aI g 128 nw)] := hD
              exact tw_vret E hS (fa, fp, tq - 1) (⟨(fun h => h), (by first | omega | (dsimp only <;> omega)), (by first | omega | (dsimp only <;> omega))⟩) hP hD d_Mod_take_111
            · exact absurd h90 h63
          · refine lv_aload_n hx hb d_Mod_take_74 rfl (lv_at hl 0 rfl) ?_
            refine lv_bipush (v := 23) hx hb d_Mod_take_75 (by decide) ?_
            refine lv_aload_n hx hb d_Mod_take_77 rfl (lv_at hl 0 rfl) ?_
            refine va_get (D := g.1) (ci := 10) (v := .int (nI wh)) (C := R_Mod) (T := F_Mod) (N := 61) hx hb hts in_Mod hown hK hP 0 rfl rfl 45 (by decide) (hts _ wd_1295) (fun _ h9 => h9) rfl d_Mod_take_78 ?_
            refine tw_wv (wr := [((q 47), aI g 128 nw)]) (tw_runV (ws := [(h0, .inr (10, mob q rf n mm mb fa fp av ev wi mn tp tc sc nf fd me mp xn mt wh tq ag an ig)), ((q 47), aI g 128 nw)]) (wc := [(h0, .inr (10, mob q rf n mm mb fa fp av ev wi mn tp tc sc nf fd me mp xn mt wh tq ag an ig))]) (As := [.int 23, .int (nI wh)]) (rest := []) E hB hK hZ (g_Mod_fail l g H.size h0 q rf n mm mb av ev wi mn tp tc sc nf fd me mp xn mt wh tq ag an ig fa fp 23 (nI wh) (by decide)) mc_Mod_fail mi_Mod_fail me_Mod_fail wd_1478 hP hD hS hA [0] rfl (by decide) 0 rfl rfl rfl rfl rfl (by decide) rfl hl.1 rfl (Nat.le_of_ble_eq_true rfl) (by decide) d_Mod_take_81) hP hD hS hA [0] [1] rfl rfl (by decide) (by decide) (fun u2 H locs hr1 hP hD hS => ?_)
            try dsimp only at hr1
            have hP : va_P g.1 classes [((q 47), aI g 128 nw), (h0, .inr (10, mob q rf n mm mb u2.1 u2.2 av ev wi mn tp tc sc nf fd me mp xn mt wh tq ag an ig))] H := hP
            have hD : va_D A [((q 47), aI g 128 nw), (h0, .inr (10, mob q rf n mm mb u2.1 u2.2 av ev wi mn tp tc sc nf fd me mp xn mt wh tq ag an ig))] := hD
            have hP : va_P g.1 classes [(h0, .inr (10, mob q rf n mm mb u2.1 u2.2 av ev wi mn tp tc sc nf fd me mp xn mt wh tq ag an ig)), ((q 47), aI g 128 nw)] H := hP.sub [1, 0] rfl
            have hD : va_D A [(h0, .inr (10, mob q rf n mm mb u2.1 u2.2 av ev wi mn tp tc sc nf fd me mp xn mt wh tq ag an ig)), ((q 47), aI g 128 nw)] := hD.sub [1, 0] (by decide) rfl
            have hp2_0 := hr1
            refine lv_goto (tgt := 111) hx hb d_Mod_take_84 (by decide) ?_
            exact tw_vret E hS (u2.1, u2.2, tq) (⟨(fun h => absurd h hp2_0), (by first | omega | (dsimp only <;> omega)), (by first | omega | (dsimp only <;> omega))⟩) hP hD d_Mod_take_111
        · refine lv_iconst (v := 3) hx hb d_Mod_take_66 (by decide) ?_
          refine lv_goto (tgt := 71) hx hb d_Mod_take_67 (by decide) ?_
          refine lv_icmp_eq (tgt := 87) hx hb d_Mod_take_71 (by decide) (fun h71 => ?_) (fun h71 => ?_)
          · have htw := nw_two hNW h31 h71
            refine lv_aload_n hx hb d_Mod_take_87 rfl (lv_at hl 0 rfl) ?_
            refine lv_iload_n hx hb d_Mod_take_88 rfl (lv_at hl 1 rfl) ?_
            refine lv_iconst (v := 2) hx hb d_Mod_take_89 (by decide) ?_
            refine lv_icmp_ne (tgt := 102) hx hb d_Mod_take_90 (by decide) (fun h90 => ?_) (fun h90 => ?_)
            · exact absurd h63 h90
            · refine lv_aload_n hx hb d_Mod_take_93 rfl (lv_at hl 0 rfl) ?_
              refine va_get (D := g.1) (ci := 10) (v := .int (nI tq)) (C := R_Mod) (T := F_Mod) (N := 61) hx hb hts in_Mod hown hK hP 0 rfl rfl 46 (by decide) (hts _ wd_1296) (fun _ h9 => h9) rfl d_Mod_take_94 ?_
              refine lv_iconst (v := 2) hx hb d_Mod_take_97 (by decide) ?_
              refine lv_isub hx hb d_Mod_take_98 ?_
              refine tw_ri (e2 := nI (tq - 2)) (pk_sub (b := 2) (by omega)) ?_
              refine lv_goto (tgt := 108) hx hb d_Mod_take_99 (by decide) ?_
              refine va_put (D := g.1) (ci := 10) (v := .int (nI (tq - 2))) (ty := .int) (C := R_Mod) (T := F_Mod) (N := 61) hx hb hts in_Mod t_Mod t_Mod_ok n_Mod hown hK hP hD hS 0 rfl rfl 46 (by decide) (hts _ wd_1296) (fun _ h9 => h9) rfl (t_Mod_ok 46 (by decide)) rfl rfl (Nat.le_of_ble_eq_true rfl) d_Mod_take_108 (fun H locs hP hD hS => ?_)
              have hP : va_P g.1 classes [(h0, .inr (10, mob q rf n mm mb fa fp av ev wi mn tp tc sc nf fd me mp xn mt wh (tq - 2) ag an ig)), ((q 47), aI g 128 nw)] H := hP
              have hD : va_D A [(h0, .inr (10, mob q rf n mm mb fa fp av ev wi mn tp tc sc nf fd me mp xn mt wh (tq - 2) ag an ig)), ((q 47), aI g 128 nw)] := hD
              exact tw_vret E hS (fa, fp, tq - 2) (⟨(fun h => h), (by first | omega | (dsimp only <;> omega)), (by first | omega | (dsimp only <;> omega))⟩) hP hD d_Mod_take_111
          · refine lv_aload_n hx hb d_Mod_take_74 rfl (lv_at hl 0 rfl) ?_
            refine lv_bipush (v := 23) hx hb d_Mod_take_75 (by decide) ?_
            refine lv_aload_n hx hb d_Mod_take_77 rfl (lv_at hl 0 rfl) ?_
            refine va_get (D := g.1) (ci := 10) (v := .int (nI wh)) (C := R_Mod) (T := F_Mod) (N := 61) hx hb hts in_Mod hown hK hP 0 rfl rfl 45 (by decide) (hts _ wd_1295) (fun _ h9 => h9) rfl d_Mod_take_78 ?_
            refine tw_wv (wr := [((q 47), aI g 128 nw)]) (tw_runV (ws := [(h0, .inr (10, mob q rf n mm mb fa fp av ev wi mn tp tc sc nf fd me mp xn mt wh tq ag an ig)), ((q 47), aI g 128 nw)]) (wc := [(h0, .inr (10, mob q rf n mm mb fa fp av ev wi mn tp tc sc nf fd me mp xn mt wh tq ag an ig))]) (As := [.int 23, .int (nI wh)]) (rest := []) E hB hK hZ (g_Mod_fail l g H.size h0 q rf n mm mb av ev wi mn tp tc sc nf fd me mp xn mt wh tq ag an ig fa fp 23 (nI wh) (by decide)) mc_Mod_fail mi_Mod_fail me_Mod_fail wd_1478 hP hD hS hA [0] rfl (by decide) 0 rfl rfl rfl rfl rfl (by decide) rfl hl.1 rfl (Nat.le_of_ble_eq_true rfl) (by decide) d_Mod_take_81) hP hD hS hA [0] [1] rfl rfl (by decide) (by decide) (fun u4 H locs hr3 hP hD hS => ?_)
            try dsimp only at hr3
            have hP : va_P g.1 classes [((q 47), aI g 128 nw), (h0, .inr (10, mob q rf n mm mb u4.1 u4.2 av ev wi mn tp tc sc nf fd me mp xn mt wh tq ag an ig))] H := hP
            have hD : va_D A [((q 47), aI g 128 nw), (h0, .inr (10, mob q rf n mm mb u4.1 u4.2 av ev wi mn tp tc sc nf fd me mp xn mt wh tq ag an ig))] := hD
            have hP : va_P g.1 classes [(h0, .inr (10, mob q rf n mm mb u4.1 u4.2 av ev wi mn tp tc sc nf fd me mp xn mt wh tq ag an ig)), ((q 47), aI g 128 nw)] H := hP.sub [1, 0] rfl
            have hD : va_D A [(h0, .inr (10, mob q rf n mm mb u4.1 u4.2 av ev wi mn tp tc sc nf fd me mp xn mt wh tq ag an ig)), ((q 47), aI g 128 nw)] := hD.sub [1, 0] (by decide) rfl
            have hp4_0 := hr3
            refine lv_goto (tgt := 111) hx hb d_Mod_take_84 (by decide) ?_
            exact tw_vret E hS (u4.1, u4.2, tq) (⟨(fun h => absurd h hp4_0), (by first | omega | (dsimp only <;> omega)), (by first | omega | (dsimp only <;> omega))⟩) hP hD d_Mod_take_111
      · refine lv_aload_n hx hb d_Mod_take_34 rfl (lv_at hl 0 rfl) ?_
        refine lv_bipush (v := 22) hx hb d_Mod_take_35 (by decide) ?_
        refine lv_aload_n hx hb d_Mod_take_37 rfl (lv_at hl 0 rfl) ?_
        refine va_get (D := g.1) (ci := 10) (v := .int (nI wh)) (C := R_Mod) (T := F_Mod) (N := 61) hx hb hts in_Mod hown hK hP 0 rfl rfl 45 (by decide) (hts _ wd_1295) (fun _ h9 => h9) rfl d_Mod_take_38 ?_
        refine tw_wv (wr := [((q 47), aI g 128 nw)]) (tw_runV (ws := [(h0, .inr (10, mob q rf n mm mb fa fp av ev wi mn tp tc sc nf fd me mp xn mt wh tq ag an ig)), ((q 47), aI g 128 nw)]) (wc := [(h0, .inr (10, mob q rf n mm mb fa fp av ev wi mn tp tc sc nf fd me mp xn mt wh tq ag an ig))]) (As := [.int 22, .int (nI wh)]) (rest := []) E hB hK hZ (g_Mod_fail l g H.size h0 q rf n mm mb av ev wi mn tp tc sc nf fd me mp xn mt wh tq ag an ig fa fp 22 (nI wh) (by decide)) mc_Mod_fail mi_Mod_fail me_Mod_fail wd_1478 hP hD hS hA [0] rfl (by decide) 0 rfl rfl rfl rfl rfl (by decide) rfl hl.1 rfl (Nat.le_of_ble_eq_true rfl) (by decide) d_Mod_take_41) hP hD hS hA [0] [1] rfl rfl (by decide) (by decide) (fun u6 H locs hr5 hP hD hS => ?_)
        try dsimp only at hr5
        have hP : va_P g.1 classes [((q 47), aI g 128 nw), (h0, .inr (10, mob q rf n mm mb u6.1 u6.2 av ev wi mn tp tc sc nf fd me mp xn mt wh tq ag an ig))] H := hP
        have hD : va_D A [((q 47), aI g 128 nw), (h0, .inr (10, mob q rf n mm mb u6.1 u6.2 av ev wi mn tp tc sc nf fd me mp xn mt wh tq ag an ig))] := hD
        have hP : va_P g.1 classes [(h0, .inr (10, mob q rf n mm mb u6.1 u6.2 av ev wi mn tp tc sc nf fd me mp xn mt wh tq ag an ig)), ((q 47), aI g 128 nw)] H := hP.sub [1, 0] rfl
        have hD : va_D A [(h0, .inr (10, mob q rf n mm mb u6.1 u6.2 av ev wi mn tp tc sc nf fd me mp xn mt wh tq ag an ig)), ((q 47), aI g 128 nw)] := hD.sub [1, 0] (by decide) rfl
        have hp6_0 := hr5
        refine lv_goto (tgt := 111) hx hb d_Mod_take_44 (by decide) ?_
        exact tw_vret E hS (u6.1, u6.2, tq) (⟨(fun h => absurd h hp6_0), (by first | omega | (dsimp only <;> omega)), (by first | omega | (dsimp only <;> omega))⟩) hP hD d_Mod_take_111
    · refine lv_aload_n hx hb d_Mod_take_14 rfl (lv_at hl 0 rfl) ?_
      refine lv_bipush (v := 23) hx hb d_Mod_take_15 (by decide) ?_
      refine lv_aload_n hx hb d_Mod_take_17 rfl (lv_at hl 0 rfl) ?_
      refine va_get (D := g.1) (ci := 10) (v := .int (nI wh)) (C := R_Mod) (T := F_Mod) (N := 61) hx hb hts in_Mod hown hK hP 0 rfl rfl 45 (by decide) (hts _ wd_1295) (fun _ h9 => h9) rfl d_Mod_take_18 ?_
      refine tw_wv (wr := [((q 47), aI g 128 nw)]) (tw_runV (ws := [(h0, .inr (10, mob q rf n mm mb fa fp av ev wi mn tp tc sc nf fd me mp xn mt wh tq ag an ig)), ((q 47), aI g 128 nw)]) (wc := [(h0, .inr (10, mob q rf n mm mb fa fp av ev wi mn tp tc sc nf fd me mp xn mt wh tq ag an ig))]) (As := [.int 23, .int (nI wh)]) (rest := []) E hB hK hZ (g_Mod_fail l g H.size h0 q rf n mm mb av ev wi mn tp tc sc nf fd me mp xn mt wh tq ag an ig fa fp 23 (nI wh) (by decide)) mc_Mod_fail mi_Mod_fail me_Mod_fail wd_1478 hP hD hS hA [0] rfl (by decide) 0 rfl rfl rfl rfl rfl (by decide) rfl hl.1 rfl (Nat.le_of_ble_eq_true rfl) (by decide) d_Mod_take_21) hP hD hS hA [0] [1] rfl rfl (by decide) (by decide) (fun u8 H locs hr7 hP hD hS => ?_)
      try dsimp only at hr7
      have hP : va_P g.1 classes [((q 47), aI g 128 nw), (h0, .inr (10, mob q rf n mm mb u8.1 u8.2 av ev wi mn tp tc sc nf fd me mp xn mt wh tq ag an ig))] H := hP
      have hD : va_D A [((q 47), aI g 128 nw), (h0, .inr (10, mob q rf n mm mb u8.1 u8.2 av ev wi mn tp tc sc nf fd me mp xn mt wh tq ag an ig))] := hD
      have hP : va_P g.1 classes [(h0, .inr (10, mob q rf n mm mb u8.1 u8.2 av ev wi mn tp tc sc nf fd me mp xn mt wh tq ag an ig)), ((q 47), aI g 128 nw)] H := hP.sub [1, 0] rfl
      have hD : va_D A [(h0, .inr (10, mob q rf n mm mb u8.1 u8.2 av ev wi mn tp tc sc nf fd me mp xn mt wh tq ag an ig)), ((q 47), aI g 128 nw)] := hD.sub [1, 0] (by decide) rfl
      have hp8_0 := hr7
      refine lv_goto (tgt := 111) hx hb d_Mod_take_24 (by decide) ?_
      exact tw_vret E hS (u8.1, u8.2, tq) (⟨(fun h => absurd h hp8_0), (by first | omega | (dsimp only <;> omega)), (by first | omega | (dsimp only <;> omega))⟩) hP hD d_Mod_take_111
  · exact tw_vret E hS (fa, fp, tq) (⟨(fun h => h), (by first | omega | (dsimp only <;> omega)), (by first | omega | (dsimp only <;> omega))⟩) hP hD d_Mod_take_7
set_option maxHeartbeats 4000000 in
set_option maxRecDepth 100000 in
theorem g_Mod_takeSingle (l : Launch) (g : tw_G) (sz : Nat) (h0 : Nat) (q : Nat → Nat) (rf : Int32) (n : Nat) (mm : Int32) (mb : Int32) (av : Nat) (ev : Nat) (wi : Int32) (mn : Nat) (tp : Int32) (tc : Int32) (sc : Int32) (nf : Nat) (fd : Nat) (me : Nat) (mp : Int32) (xn : Nat) (mt : Nat) (wh : Nat) (ag : Nat) (an : Int32) (ig : Int32) (nw : Nat → Int32) (fa : Int32) (fp : Int32) (tq : Nat) (hNW : NOW nw) (htq : tq ≤ 64) : Met l y_Mod_takeSingle [.code y_Mod_takeSingle b_Mod_takeSingle 2 (some .int)] ({ frames := 1, cells := 0, slots := 0, locals := 22 }) (tw_P g [.ref h0] [(h0, .inr (10, mob q rf n mm mb fa fp av ev wi mn tp tc sc nf fd me mp xn mt wh tq ag an ig)), ((q 47), aI g 128 nw)] sz) (tw_Qi g (fun (r : Int32) (u : Int32 × Int32 × Nat) => (u.1 = 0 → fa = 0) ∧ (u.2.2 ≤ 64) ∧ (u.2.2 ≤ tq) ∧ (u.1 = 0 → ¬ r = 3)) (fun u : Int32 × Int32 × Nat => [(h0, .inr (10, mob q rf n mm mb u.1 u.2.1 av ev wi mn tp tc sc nf fd me mp xn mt wh u.2.2 ag an ig)), ((q 47), aI g 128 nw)]) (va_A [(h0, .inr (10, mob q rf n mm mb fa fp av ev wi mn tp tc sc nf fd me mp xn mt wh tq ag an ig)), ((q 47), aI g 128 nw)] sz)) 0 0 (va_A [(h0, .inr (10, mob q rf n mm mb fa fp av ev wi mn tp tc sc nf fd me mp xn mt wh tq ag an ig)), ((q 47), aI g 128 nw)] sz) := by
  refine tw_metW (l := l) (g := g) (y := y_Mod_takeSingle) (cc := b_Mod_takeSingle) (maxL := 2) (ret := (some .int)) (rm := { frames := 1, cells := 0, slots := 0, locals := 22 }) (mc := 0) (ms := 0) (av := [.ref h0]) (ws := [(h0, .inr (10, mob q rf n mm mb fa fp av ev wi mn tp tc sc nf fd me mp xn mt wh tq ag an ig)), ((q 47), aI g 128 nw)]) (sz := sz) (Qc := fun A => (tw_Qi g (fun (r : Int32) (u : Int32 × Int32 × Nat) => (u.1 = 0 → fa = 0) ∧ (u.2.2 ≤ 64) ∧ (u.2.2 ≤ tq) ∧ (u.1 = 0 → ¬ r = 3)) (fun u : Int32 × Int32 × Nat => [(h0, .inr (10, mob q rf n mm mb u.1 u.2.1 av ev wi mn tp tc sc nf fd me mp xn mt wh u.2.2 ag an ig)), ((q 47), aI g 128 nw)]) A)) (by decide) (Nat.le_of_ble_eq_true rfl) ?_
  intro p e s m below meth c ls H A E hB hK hZ hP hD hS hA hl
  obtain ⟨hx, hb, hml, hr, hown, hts, hlocks, hin⟩ := id E
  have hl : lv_has ls 2 [(0, .ref h0)] := hl
  refine lv_aload_n hx hb d_Mod_takeSingle_0 rfl (lv_at hl 0 rfl) ?_
  refine va_get (D := g.1) (ci := 10) (v := .int fa) (C := R_Mod) (T := F_Mod) (N := 61) hx hb hts in_Mod hown hK hP 0 rfl rfl 8 (by decide) (hts _ wd_1258) (fun _ h9 => h9) rfl d_Mod_takeSingle_1 ?_
  refine lv_if_ne (tgt := 24) hx hb d_Mod_takeSingle_4 (by decide) (fun h4 => ?_) (fun h4 => ?_)
  · refine lv_aload_n hx hb d_Mod_takeSingle_24 rfl (lv_at hl 0 rfl) ?_
    refine va_get (D := g.1) (ci := 10) (v := .int fa) (C := R_Mod) (T := F_Mod) (N := 61) hx hb hts in_Mod hown hK hP 0 rfl rfl 8 (by decide) (hts _ wd_1258) (fun _ h9 => h9) rfl d_Mod_takeSingle_25 ?_
    refine lv_if_ne (tgt := 48) hx hb d_Mod_takeSingle_28 (by decide) (fun h28 => ?_) (fun h28 => ?_)
    · refine lv_iconst (v := 0) hx hb d_Mod_takeSingle_48 (by decide) ?_
      refine lv_istore_n hx hb d_Mod_takeSingle_49 rfl hl (by decide) rfl (fun ls hl => ?_)
      have hl : lv_has ls 2 [(1, .int 0), (0, .ref h0)] := hl
      refine lv_aload_n hx hb d_Mod_takeSingle_50 rfl (lv_at hl 1 rfl) ?_
      refine va_get (D := g.1) (ci := 10) (v := .int fa) (C := R_Mod) (T := F_Mod) (N := 61) hx hb hts in_Mod hown hK hP 0 rfl rfl 8 (by decide) (hts _ wd_1258) (fun _ h9 => h9) rfl d_Mod_takeSingle_51 ?_
      refine lv_if_ne (tgt := 72) hx hb d_Mod_takeSingle_54 (by decide) (fun h54 => ?_) (fun h54 => ?_)
      · refine lv_aload_n hx hb d_Mod_takeSingle_72 rfl (lv_at hl 1 rfl) ?_
        refine lv_aload_n hx hb d_Mod_takeSingle_73 rfl (lv_at hl 1 rfl) ?_
        refine va_get (D := g.1) (ci := 10) (v := .int fa) (C := R_Mod) (T := F_Mod) (N := 61) hx hb hts in_Mod hown hK hP 0 rfl rfl 8 (by decide) (hts _ wd_1258) (fun _ h9 => h9) rfl d_Mod_takeSingle_74 ?_
        refine lv_if_ne (tgt := 89) hx hb d_Mod_takeSingle_77 (by decide) (fun h77 => ?_) (fun h77 => ?_)
        · refine lv_aload_n hx hb d_Mod_takeSingle_89 rfl (lv_at hl 1 rfl) ?_
          refine va_get (D := g.1) (ci := 10) (v := .int (nI tq)) (C := R_Mod) (T := F_Mod) (N := 61) hx hb hts in_Mod hown hK hP 0 rfl rfl 46 (by decide) (hts _ wd_1296) (fun _ h9 => h9) rfl d_Mod_takeSingle_90 ?_
          refine va_put (D := g.1) (ci := 10) (v := .int (nI tq)) (ty := .int) (C := R_Mod) (T := F_Mod) (N := 61) hx hb hts in_Mod t_Mod t_Mod_ok n_Mod hown hK hP hD hS 0 rfl rfl 46 (by decide) (hts _ wd_1296) (fun _ h9 => h9) rfl (t_Mod_ok 46 (by decide)) rfl rfl (Nat.le_of_ble_eq_true rfl) d_Mod_takeSingle_93 (fun H locs hP hD hS => ?_)
          have hP : va_P g.1 classes [(h0, .inr (10, mob q rf n mm mb fa fp av ev wi mn tp tc sc nf fd me mp xn mt wh tq ag an ig)), ((q 47), aI g 128 nw)] H := hP
          have hD : va_D A [(h0, .inr (10, mob q rf n mm mb fa fp av ev wi mn tp tc sc nf fd me mp xn mt wh tq ag an ig)), ((q 47), aI g 128 nw)] := hD
          refine lv_iload_n hx hb d_Mod_takeSingle_96 rfl (lv_at hl 0 rfl) ?_
          exact tw_iret E hS (fa, fp, tq) (⟨(fun h => h), (by first | omega | (dsimp only <;> omega)), (by first | omega | (dsimp only <;> omega)), (fun h => absurd h h77)⟩) hP hD d_Mod_takeSingle_97
        · exact absurd h77 h54
      · exact absurd h54 h28
    · exact absurd h28 h4
  · refine lv_aload_n hx hb d_Mod_takeSingle_7 rfl (lv_at hl 0 rfl) ?_
    refine va_get (D := g.1) (ci := 10) (v := .int (nI tq)) (C := R_Mod) (T := F_Mod) (N := 61) hx hb hts in_Mod hown hK hP 0 rfl rfl 46 (by decide) (hts _ wd_1296) (fun _ h9 => h9) rfl d_Mod_takeSingle_8 ?_
    refine lv_if_ne (tgt := 24) hx hb d_Mod_takeSingle_11 (by decide) (fun h11 => ?_) (fun h11 => ?_)
    · have h11 := tn_ne (b := 0) h11
      refine lv_aload_n hx hb d_Mod_takeSingle_24 rfl (lv_at hl 0 rfl) ?_
      refine va_get (D := g.1) (ci := 10) (v := .int fa) (C := R_Mod) (T := F_Mod) (N := 61) hx hb hts in_Mod hown hK hP 0 rfl rfl 8 (by decide) (hts _ wd_1258) (fun _ h9 => h9) rfl d_Mod_takeSingle_25 ?_
      refine lv_if_ne (tgt := 48) hx hb d_Mod_takeSingle_28 (by decide) (fun h28 => ?_) (fun h28 => ?_)
      · exact absurd h4 h28
      · refine lv_aload_n hx hb d_Mod_takeSingle_31 rfl (lv_at hl 0 rfl) ?_
        refine va_get (D := g.1) (ci := 10) (v := .ref (q 47)) (C := R_Mod) (T := F_Mod) (N := 61) hx hb hts in_Mod hown hK hP 0 rfl rfl 47 (by decide) (hts _ wd_1297) (fun _ h9 => h9) rfl d_Mod_takeSingle_32 ?_
        refine lv_bipush (v := 64) hx hb d_Mod_takeSingle_35 (by decide) ?_
        refine lv_aload_n hx hb d_Mod_takeSingle_37 rfl (lv_at hl 0 rfl) ?_
        refine va_get (D := g.1) (ci := 10) (v := .int (nI tq)) (C := R_Mod) (T := F_Mod) (N := 61) hx hb hts in_Mod hown hK hP 0 rfl rfl 46 (by decide) (hts _ wd_1296) (fun _ h9 => h9) rfl d_Mod_takeSingle_38 ?_
        refine lv_iadd hx hb d_Mod_takeSingle_41 ?_
        refine tw_ri (e2 := nI (64 + tq)) (nI_add 64 tq) ?_
        refine lv_iconst (v := 1) hx hb d_Mod_takeSingle_42 (by decide) ?_
        refine lv_isub hx hb d_Mod_takeSingle_43 ?_
        refine tw_ri (e2 := nI (64 + tq - 1)) (pk_sub (b := 1) (by omega)) ?_
        refine va_iald hx hb hK hP 1 0 rfl rfl (vp_in_nI (by omega) (by decide)) d_Mod_takeSingle_44 ?_
        refine tw_ri (e2 := nw (64 + tq - 1)) (by rw [nI_clamp (by omega)]) ?_
        refine lv_goto (tgt := 49) hx hb d_Mod_takeSingle_45 (by decide) ?_
        refine lv_istore_n hx hb d_Mod_takeSingle_49 rfl hl (by decide) rfl (fun ls hl => ?_)
        have hl : lv_has ls 2 [(1, .int (nw (64 + tq - 1))), (0, .ref h0)] := hl
        refine lv_aload_n hx hb d_Mod_takeSingle_50 rfl (lv_at hl 1 rfl) ?_
        refine va_get (D := g.1) (ci := 10) (v := .int fa) (C := R_Mod) (T := F_Mod) (N := 61) hx hb hts in_Mod hown hK hP 0 rfl rfl 8 (by decide) (hts _ wd_1258) (fun _ h9 => h9) rfl d_Mod_takeSingle_51 ?_
        refine lv_if_ne (tgt := 72) hx hb d_Mod_takeSingle_54 (by decide) (fun h54 => ?_) (fun h54 => ?_)
        · exact absurd h28 h54
        · refine lv_iload_n hx hb d_Mod_takeSingle_57 rfl (lv_at hl 0 rfl) ?_
          refine lv_iconst (v := 3) hx hb d_Mod_takeSingle_58 (by decide) ?_
          refine lv_icmp_ne (tgt := 72) hx hb d_Mod_takeSingle_59 (by decide) (fun h59 => ?_) (fun h59 => ?_)
          · refine lv_aload_n hx hb d_Mod_takeSingle_72 rfl (lv_at hl 1 rfl) ?_
            refine lv_aload_n hx hb d_Mod_takeSingle_73 rfl (lv_at hl 1 rfl) ?_
            refine va_get (D := g.1) (ci := 10) (v := .int fa) (C := R_Mod) (T := F_Mod) (N := 61) hx hb hts in_Mod hown hK hP 0 rfl rfl 8 (by decide) (hts _ wd_1258) (fun _ h9 => h9) rfl d_Mod_takeSingle_74 ?_
            refine lv_if_ne (tgt := 89) hx hb d_Mod_takeSingle_77 (by decide) (fun h77 => ?_) (fun h77 => ?_)
            · exact absurd h54 h77
            · refine lv_aload_n hx hb d_Mod_takeSingle_80 rfl (lv_at hl 1 rfl) ?_
              refine va_get (D := g.1) (ci := 10) (v := .int (nI tq)) (C := R_Mod) (T := F_Mod) (N := 61) hx hb hts in_Mod hown hK hP 0 rfl rfl 46 (by decide) (hts _ wd_1296) (fun _ h9 => h9) rfl d_Mod_takeSingle_81 ?_
              refine lv_iconst (v := 1) hx hb d_Mod_takeSingle_84 (by decide) ?_
              refine lv_isub hx hb d_Mod_takeSingle_85 ?_
              refine tw_ri (e2 := nI (tq - 1)) (pk_sub (b := 1) (by omega)) ?_
              refine lv_goto (tgt := 93) hx hb d_Mod_takeSingle_86 (by decide) ?_
              refine va_put (D := g.1) (ci := 10) (v := .int (nI (tq - 1))) (ty := .int) (C := R_Mod) (T := F_Mod) (N := 61) hx hb hts in_Mod t_Mod t_Mod_ok n_Mod hown hK hP hD hS 0 rfl rfl 46 (by decide) (hts _ wd_1296) (fun _ h9 => h9) rfl (t_Mod_ok 46 (by decide)) rfl rfl (Nat.le_of_ble_eq_true rfl) d_Mod_takeSingle_93 (fun H locs hP hD hS => ?_)
              have hP : va_P g.1 classes [(h0, .inr (10, mob q rf n mm mb fa fp av ev wi mn tp tc sc nf fd me mp xn mt wh (tq - 1) ag an ig)), ((q 47), aI g 128 nw)] H := hP
              have hD : va_D A [(h0, .inr (10, mob q rf n mm mb fa fp av ev wi mn tp tc sc nf fd me mp xn mt wh (tq - 1) ag an ig)), ((q 47), aI g 128 nw)] := hD
              refine lv_iload_n hx hb d_Mod_takeSingle_96 rfl (lv_at hl 0 rfl) ?_
              exact tw_iret E hS (fa, fp, tq - 1) (⟨(fun h => h), (by first | omega | (dsimp only <;> omega)), (by first | omega | (dsimp only <;> omega)), (fun _ => by exact h59)⟩) hP hD d_Mod_takeSingle_97
          · refine lv_aload_n hx hb d_Mod_takeSingle_62 rfl (lv_at hl 1 rfl) ?_
            refine lv_bipush (v := 23) hx hb d_Mod_takeSingle_63 (by decide) ?_
            refine lv_aload_n hx hb d_Mod_takeSingle_65 rfl (lv_at hl 1 rfl) ?_
            refine va_get (D := g.1) (ci := 10) (v := .int (nI wh)) (C := R_Mod) (T := F_Mod) (N := 61) hx hb hts in_Mod hown hK hP 0 rfl rfl 45 (by decide) (hts _ wd_1295) (fun _ h9 => h9) rfl d_Mod_takeSingle_66 ?_
            refine tw_wv (wr := [((q 47), aI g 128 nw)]) (tw_runV (ws := [(h0, .inr (10, mob q rf n mm mb fa fp av ev wi mn tp tc sc nf fd me mp xn mt wh tq ag an ig)), ((q 47), aI g 128 nw)]) (wc := [(h0, .inr (10, mob q rf n mm mb fa fp av ev wi mn tp tc sc nf fd me mp xn mt wh tq ag an ig))]) (As := [.int 23, .int (nI wh)]) (rest := []) E hB hK hZ (g_Mod_fail l g H.size h0 q rf n mm mb av ev wi mn tp tc sc nf fd me mp xn mt wh tq ag an ig fa fp 23 (nI wh) (by decide)) mc_Mod_fail mi_Mod_fail me_Mod_fail wd_1478 hP hD hS hA [0] rfl (by decide) 0 rfl rfl rfl rfl rfl (by decide) rfl hl.1 rfl (Nat.le_of_ble_eq_true rfl) (by decide) d_Mod_takeSingle_69) hP hD hS hA [0] [1] rfl rfl (by decide) (by decide) (fun u2 H locs hr1 hP hD hS => ?_)
            try dsimp only at hr1
            have hP : va_P g.1 classes [((q 47), aI g 128 nw), (h0, .inr (10, mob q rf n mm mb u2.1 u2.2 av ev wi mn tp tc sc nf fd me mp xn mt wh tq ag an ig))] H := hP
            have hD : va_D A [((q 47), aI g 128 nw), (h0, .inr (10, mob q rf n mm mb u2.1 u2.2 av ev wi mn tp tc sc nf fd me mp xn mt wh tq ag an ig))] := hD
            have hP : va_P g.1 classes [(h0, .inr (10, mob q rf n mm mb u2.1 u2.2 av ev wi mn tp tc sc nf fd me mp xn mt wh tq ag an ig)), ((q 47), aI g 128 nw)] H := hP.sub [1, 0] rfl
            have hD : va_D A [(h0, .inr (10, mob q rf n mm mb u2.1 u2.2 av ev wi mn tp tc sc nf fd me mp xn mt wh tq ag an ig)), ((q 47), aI g 128 nw)] := hD.sub [1, 0] (by decide) rfl
            have hp2_0 := hr1
            refine lv_aload_n hx hb d_Mod_takeSingle_72 rfl (lv_at hl 1 rfl) ?_
            refine lv_aload_n hx hb d_Mod_takeSingle_73 rfl (lv_at hl 1 rfl) ?_
            refine va_get (D := g.1) (ci := 10) (v := .int u2.1) (C := R_Mod) (T := F_Mod) (N := 61) hx hb hts in_Mod hown hK hP 0 rfl rfl 8 (by decide) (hts _ wd_1258) (fun _ h9 => h9) rfl d_Mod_takeSingle_74 ?_
            refine lv_if_ne (tgt := 89) hx hb d_Mod_takeSingle_77 (by decide) (fun h77 => ?_) (fun h77 => ?_)
            · refine lv_aload_n hx hb d_Mod_takeSingle_89 rfl (lv_at hl 1 rfl) ?_
              refine va_get (D := g.1) (ci := 10) (v := .int (nI tq)) (C := R_Mod) (T := F_Mod) (N := 61) hx hb hts in_Mod hown hK hP 0 rfl rfl 46 (by decide) (hts _ wd_1296) (fun _ h9 => h9) rfl d_Mod_takeSingle_90 ?_
              refine va_put (D := g.1) (ci := 10) (v := .int (nI tq)) (ty := .int) (C := R_Mod) (T := F_Mod) (N := 61) hx hb hts in_Mod t_Mod t_Mod_ok n_Mod hown hK hP hD hS 0 rfl rfl 46 (by decide) (hts _ wd_1296) (fun _ h9 => h9) rfl (t_Mod_ok 46 (by decide)) rfl rfl (Nat.le_of_ble_eq_true rfl) d_Mod_takeSingle_93 (fun H locs hP hD hS => ?_)
              have hP : va_P g.1 classes [(h0, .inr (10, mob q rf n mm mb u2.1 u2.2 av ev wi mn tp tc sc nf fd me mp xn mt wh tq ag an ig)), ((q 47), aI g 128 nw)] H := hP
              have hD : va_D A [(h0, .inr (10, mob q rf n mm mb u2.1 u2.2 av ev wi mn tp tc sc nf fd me mp xn mt wh tq ag an ig)), ((q 47), aI g 128 nw)] := hD
              refine lv_iload_n hx hb d_Mod_takeSingle_96 rfl (lv_at hl 0 rfl) ?_
              exact tw_iret E hS (u2.1, u2.2, tq) (⟨(fun h => absurd h h77), (by first | omega | (dsimp only <;> omega)), (by first | omega | (dsimp only <;> omega)), (fun h => absurd h h77)⟩) hP hD d_Mod_takeSingle_97
            · exact absurd h77 hp2_0
    · refine lv_aload_n hx hb d_Mod_takeSingle_14 rfl (lv_at hl 0 rfl) ?_
      refine lv_bipush (v := 22) hx hb d_Mod_takeSingle_15 (by decide) ?_
      refine lv_aload_n hx hb d_Mod_takeSingle_17 rfl (lv_at hl 0 rfl) ?_
      refine va_get (D := g.1) (ci := 10) (v := .int (nI wh)) (C := R_Mod) (T := F_Mod) (N := 61) hx hb hts in_Mod hown hK hP 0 rfl rfl 45 (by decide) (hts _ wd_1295) (fun _ h9 => h9) rfl d_Mod_takeSingle_18 ?_
      refine tw_wv (wr := [((q 47), aI g 128 nw)]) (tw_runV (ws := [(h0, .inr (10, mob q rf n mm mb fa fp av ev wi mn tp tc sc nf fd me mp xn mt wh tq ag an ig)), ((q 47), aI g 128 nw)]) (wc := [(h0, .inr (10, mob q rf n mm mb fa fp av ev wi mn tp tc sc nf fd me mp xn mt wh tq ag an ig))]) (As := [.int 22, .int (nI wh)]) (rest := []) E hB hK hZ (g_Mod_fail l g H.size h0 q rf n mm mb av ev wi mn tp tc sc nf fd me mp xn mt wh tq ag an ig fa fp 22 (nI wh) (by decide)) mc_Mod_fail mi_Mod_fail me_Mod_fail wd_1478 hP hD hS hA [0] rfl (by decide) 0 rfl rfl rfl rfl rfl (by decide) rfl hl.1 rfl (Nat.le_of_ble_eq_true rfl) (by decide) d_Mod_takeSingle_21) hP hD hS hA [0] [1] rfl rfl (by decide) (by decide) (fun u4 H locs hr3 hP hD hS => ?_)
      try dsimp only at hr3
      have hP : va_P g.1 classes [((q 47), aI g 128 nw), (h0, .inr (10, mob q rf n mm mb u4.1 u4.2 av ev wi mn tp tc sc nf fd me mp xn mt wh tq ag an ig))] H := hP
      have hD : va_D A [((q 47), aI g 128 nw), (h0, .inr (10, mob q rf n mm mb u4.1 u4.2 av ev wi mn tp tc sc nf fd me mp xn mt wh tq ag an ig))] := hD
      have hP : va_P g.1 classes [(h0, .inr (10, mob q rf n mm mb u4.1 u4.2 av ev wi mn tp tc sc nf fd me mp xn mt wh tq ag an ig)), ((q 47), aI g 128 nw)] H := hP.sub [1, 0] rfl
      have hD : va_D A [(h0, .inr (10, mob q rf n mm mb u4.1 u4.2 av ev wi mn tp tc sc nf fd me mp xn mt wh tq ag an ig)), ((q 47), aI g 128 nw)] := hD.sub [1, 0] (by decide) rfl
      have hp4_0 := hr3
      refine lv_aload_n hx hb d_Mod_takeSingle_24 rfl (lv_at hl 0 rfl) ?_
      refine va_get (D := g.1) (ci := 10) (v := .int u4.1) (C := R_Mod) (T := F_Mod) (N := 61) hx hb hts in_Mod hown hK hP 0 rfl rfl 8 (by decide) (hts _ wd_1258) (fun _ h9 => h9) rfl d_Mod_takeSingle_25 ?_
      refine lv_if_ne (tgt := 48) hx hb d_Mod_takeSingle_28 (by decide) (fun h28 => ?_) (fun h28 => ?_)
      · refine lv_iconst (v := 0) hx hb d_Mod_takeSingle_48 (by decide) ?_
        refine lv_istore_n hx hb d_Mod_takeSingle_49 rfl hl (by decide) rfl (fun ls hl => ?_)
        have hl : lv_has ls 2 [(1, .int 0), (0, .ref h0)] := hl
        refine lv_aload_n hx hb d_Mod_takeSingle_50 rfl (lv_at hl 1 rfl) ?_
        refine va_get (D := g.1) (ci := 10) (v := .int u4.1) (C := R_Mod) (T := F_Mod) (N := 61) hx hb hts in_Mod hown hK hP 0 rfl rfl 8 (by decide) (hts _ wd_1258) (fun _ h9 => h9) rfl d_Mod_takeSingle_51 ?_
        refine lv_if_ne (tgt := 72) hx hb d_Mod_takeSingle_54 (by decide) (fun h54 => ?_) (fun h54 => ?_)
        · refine lv_aload_n hx hb d_Mod_takeSingle_72 rfl (lv_at hl 1 rfl) ?_
          refine lv_aload_n hx hb d_Mod_takeSingle_73 rfl (lv_at hl 1 rfl) ?_
          refine va_get (D := g.1) (ci := 10) (v := .int u4.1) (C := R_Mod) (T := F_Mod) (N := 61) hx hb hts in_Mod hown hK hP 0 rfl rfl 8 (by decide) (hts _ wd_1258) (fun _ h9 => h9) rfl d_Mod_takeSingle_74 ?_
          refine lv_if_ne (tgt := 89) hx hb d_Mod_takeSingle_77 (by decide) (fun h77 => ?_) (fun h77 => ?_)
          · refine lv_aload_n hx hb d_Mod_takeSingle_89 rfl (lv_at hl 1 rfl) ?_
            refine va_get (D := g.1) (ci := 10) (v := .int (nI tq)) (C := R_Mod) (T := F_Mod) (N := 61) hx hb hts in_Mod hown hK hP 0 rfl rfl 46 (by decide) (hts _ wd_1296) (fun _ h9 => h9) rfl d_Mod_takeSingle_90 ?_
            refine va_put (D := g.1) (ci := 10) (v := .int (nI tq)) (ty := .int) (C := R_Mod) (T := F_Mod) (N := 61) hx hb hts in_Mod t_Mod t_Mod_ok n_Mod hown hK hP hD hS 0 rfl rfl 46 (by decide) (hts _ wd_1296) (fun _ h9 => h9) rfl (t_Mod_ok 46 (by decide)) rfl rfl (Nat.le_of_ble_eq_true rfl) d_Mod_takeSingle_93 (fun H locs hP hD hS => ?_)
            have hP : va_P g.1 classes [(h0, .inr (10, mob q rf n mm mb u4.1 u4.2 av ev wi mn tp tc sc nf fd me mp xn mt wh tq ag an ig)), ((q 47), aI g 128 nw)] H := hP
            have hD : va_D A [(h0, .inr (10, mob q rf n mm mb u4.1 u4.2 av ev wi mn tp tc sc nf fd me mp xn mt wh tq ag an ig)), ((q 47), aI g 128 nw)] := hD
            refine lv_iload_n hx hb d_Mod_takeSingle_96 rfl (lv_at hl 0 rfl) ?_
            exact tw_iret E hS (u4.1, u4.2, tq) (⟨(fun h => absurd h h77), (by first | omega | (dsimp only <;> omega)), (by first | omega | (dsimp only <;> omega)), (fun h => absurd h h77)⟩) hP hD d_Mod_takeSingle_97
          · exact absurd h77 h54
        · exact absurd h54 h28
      · exact absurd h28 hp4_0
set_option maxHeartbeats 4000000 in
set_option maxRecDepth 100000 in
theorem g_Mod_give (l : Launch) (g : tw_G) (sz : Nat) (h0 : Nat) (q : Nat → Nat) (rf : Int32) (n : Nat) (mm : Int32) (mb : Int32) (av : Nat) (ev : Nat) (wi : Int32) (mn : Nat) (tp : Int32) (tc : Int32) (sc : Int32) (nf : Nat) (fd : Nat) (me : Nat) (mp : Int32) (xn : Nat) (mt : Nat) (wh : Nat) (ag : Nat) (an : Int32) (ig : Int32) (sk : Nat → Int32) (fa : Int32) (fp : Int32) (tq : Nat) (nw : Nat → Int32) (kd1 : Int32) (s1 : Nat) (hNW : NOW nw) (htq : tq ≤ 64) (hmt : mt < 160) (hsk : sk mt = nI s1) (hs64 : s1 ≤ 64) (hk3 : fa = 0 → ¬ kd1 = 3) : Met l y_Mod_give [.code y_Mod_give b_Mod_give 3 none] ({ frames := 1, cells := 0, slots := 0, locals := 22 }) (tw_P g [.ref h0, .int kd1] [(h0, .inr (10, mob q rf n mm mb fa fp av ev wi mn tp tc sc nf fd me mp xn mt wh tq ag an ig)), ((q 32), aI g 160 sk), ((q 47), aI g 128 nw)] sz) (tw_Qv g (fun (u : Int32 × Int32 × Nat × (Nat → Int32)) => (u.1 = 0 → fa = 0) ∧ (u.2.2.1 ≤ 64) ∧ (NOW u.2.2.2)) (fun u : Int32 × Int32 × Nat × (Nat → Int32) => [(h0, .inr (10, mob q rf n mm mb u.1 u.2.1 av ev wi mn tp tc sc nf fd me mp xn mt wh u.2.2.1 ag an ig)), ((q 32), aI g 160 sk), ((q 47), aI g 128 u.2.2.2)]) (va_A [(h0, .inr (10, mob q rf n mm mb fa fp av ev wi mn tp tc sc nf fd me mp xn mt wh tq ag an ig)), ((q 32), aI g 160 sk), ((q 47), aI g 128 nw)] sz)) 0 0 (va_A [(h0, .inr (10, mob q rf n mm mb fa fp av ev wi mn tp tc sc nf fd me mp xn mt wh tq ag an ig)), ((q 32), aI g 160 sk), ((q 47), aI g 128 nw)] sz) := by
  refine tw_metW (l := l) (g := g) (y := y_Mod_give) (cc := b_Mod_give) (maxL := 3) (ret := none) (rm := { frames := 1, cells := 0, slots := 0, locals := 22 }) (mc := 0) (ms := 0) (av := [.ref h0, .int kd1]) (ws := [(h0, .inr (10, mob q rf n mm mb fa fp av ev wi mn tp tc sc nf fd me mp xn mt wh tq ag an ig)), ((q 32), aI g 160 sk), ((q 47), aI g 128 nw)]) (sz := sz) (Qc := fun A => (tw_Qv g (fun (u : Int32 × Int32 × Nat × (Nat → Int32)) => (u.1 = 0 → fa = 0) ∧ (u.2.2.1 ≤ 64) ∧ (NOW u.2.2.2)) (fun u : Int32 × Int32 × Nat × (Nat → Int32) => [(h0, .inr (10, mob q rf n mm mb u.1 u.2.1 av ev wi mn tp tc sc nf fd me mp xn mt wh u.2.2.1 ag an ig)), ((q 32), aI g 160 sk), ((q 47), aI g 128 u.2.2.2)]) A)) (by decide) (Nat.le_of_ble_eq_true rfl) ?_
  intro p e s m below meth c ls H A E hB hK hZ hP hD hS hA hl
  obtain ⟨hx, hb, hml, hr, hown, hts, hlocks, hin⟩ := id E
  have hl : lv_has ls 3 [(0, .ref h0), (1, .int kd1)] := hl
  refine lv_aload_n hx hb d_Mod_give_0 rfl (lv_at hl 0 rfl) ?_
  refine va_get (D := g.1) (ci := 10) (v := .int fa) (C := R_Mod) (T := F_Mod) (N := 61) hx hb hts in_Mod hown hK hP 0 rfl rfl 8 (by decide) (hts _ wd_1258) (fun _ h9 => h9) rfl d_Mod_give_1 ?_
  refine lv_if_eq (tgt := 8) hx hb d_Mod_give_4 (by decide) (fun h4 => ?_) (fun h4 => ?_)
  · refine lv_iload_n hx hb d_Mod_give_8 rfl (lv_at hl 1 rfl) ?_
    refine lv_iconst (v := 2) hx hb d_Mod_give_9 (by decide) ?_
    refine lv_icmp_ne (tgt := 17) hx hb d_Mod_give_10 (by decide) (fun h10 => ?_) (fun h10 => ?_)
    · refine lv_iconst (v := 1) hx hb d_Mod_give_17 (by decide) ?_
      refine lv_istore_n hx hb d_Mod_give_18 rfl hl (by decide) rfl (fun ls hl => ?_)
      have hl : lv_has ls 3 [(2, .int 1), (0, .ref h0), (1, .int kd1)] := hl
      refine lv_iload_n hx hb d_Mod_give_19 rfl (lv_at hl 2 rfl) ?_
      refine lv_bipush (v := 9) hx hb d_Mod_give_20 (by decide) ?_
      refine lv_icmp_lt (tgt := 38) hx hb d_Mod_give_22 (by decide) (fun h22 => ?_) (fun h22 => ?_)
      · refine lv_aload_n hx hb d_Mod_give_38 rfl (lv_at hl 1 rfl) ?_
        refine va_get (D := g.1) (ci := 10) (v := .int (nI tq)) (C := R_Mod) (T := F_Mod) (N := 61) hx hb hts in_Mod hown hK hP 0 rfl rfl 46 (by decide) (hts _ wd_1296) (fun _ h9 => h9) rfl d_Mod_give_39 ?_
        refine lv_iload_n hx hb d_Mod_give_42 rfl (lv_at hl 0 rfl) ?_
        refine lv_iadd hx hb d_Mod_give_43 ?_
        refine tw_ri (e2 := nI (tq + 1)) (nI_add tq 1) ?_
        refine lv_aload_n hx hb d_Mod_give_44 rfl (lv_at hl 1 rfl) ?_
        refine va_get (D := g.1) (ci := 10) (v := .ref (q 32)) (C := R_Mod) (T := F_Mod) (N := 61) hx hb hts in_Mod hown hK hP 0 rfl rfl 32 (by decide) (hts _ wd_1282) (fun _ h9 => h9) rfl d_Mod_give_45 ?_
        refine lv_aload_n hx hb d_Mod_give_48 rfl (lv_at hl 1 rfl) ?_
        refine va_get (D := g.1) (ci := 10) (v := .int (nI mt)) (C := R_Mod) (T := F_Mod) (N := 61) hx hb hts in_Mod hown hK hP 0 rfl rfl 44 (by decide) (hts _ wd_1294) (fun _ h9 => h9) rfl d_Mod_give_49 ?_
        refine va_iald hx hb hK hP 1 0 rfl rfl (vp_in_nI (by omega) (by decide)) d_Mod_give_52 ?_
        refine tw_ri (e2 := nI s1) (by rw [nI_clamp (by omega)]; exact hsk) ?_
        refine lv_icmp_le (tgt := 69) hx hb d_Mod_give_53 (by decide) (fun h53 => ?_) (fun h53 => ?_)
        · have h53 := tn_le h53 (by omega) (by omega)
          refine lv_aload_n hx hb d_Mod_give_69 rfl (lv_at hl 1 rfl) ?_
          refine va_get (D := g.1) (ci := 10) (v := .ref (q 47)) (C := R_Mod) (T := F_Mod) (N := 61) hx hb hts in_Mod hown hK hP 0 rfl rfl 47 (by decide) (hts _ wd_1297) (fun _ h9 => h9) rfl d_Mod_give_70 ?_
          refine lv_bipush (v := 64) hx hb d_Mod_give_73 (by decide) ?_
          refine lv_aload_n hx hb d_Mod_give_75 rfl (lv_at hl 1 rfl) ?_
          refine va_get (D := g.1) (ci := 10) (v := .int (nI tq)) (C := R_Mod) (T := F_Mod) (N := 61) hx hb hts in_Mod hown hK hP 0 rfl rfl 46 (by decide) (hts _ wd_1296) (fun _ h9 => h9) rfl d_Mod_give_76 ?_
          refine lv_iadd hx hb d_Mod_give_79 ?_
          refine tw_ri (e2 := nI (64 + tq)) (nI_add 64 tq) ?_
          refine lv_iload_n hx hb d_Mod_give_80 rfl (lv_at hl 2 rfl) ?_
          refine va_iast hx hb hK hP hD hS 2 0 rfl rfl (vp_in_nI (by omega) (by decide)) d_Mod_give_81 (fun H locs hP hD hS => ?_)
          have hP : va_P g.1 classes [(h0, .inr (10, mob q rf n mm mb fa fp av ev wi mn tp tc sc nf fd me mp xn mt wh tq ag an ig)), ((q 32), aI g 160 sk), ((q 47), aI g 128 (upd nw (nI (64 + tq)).toNatClampNeg kd1))] H := hP
          have hD : va_D A [(h0, .inr (10, mob q rf n mm mb fa fp av ev wi mn tp tc sc nf fd me mp xn mt wh tq ag an ig)), ((q 32), aI g 160 sk), ((q 47), aI g 128 (upd nw (nI (64 + tq)).toNatClampNeg kd1))] := hD
          have e9 : upd nw (nI (64 + tq)).toNatClampNeg kd1 = upd nw (64 + tq) kd1 := by rw [nI_clamp (by omega)]
          rw [e9] at hP hD
          refine lv_iload_n hx hb d_Mod_give_82 rfl (lv_at hl 2 rfl) ?_
          refine lv_iconst (v := 2) hx hb d_Mod_give_83 (by decide) ?_
          refine lv_icmp_ne (tgt := 102) hx hb d_Mod_give_84 (by decide) (fun h84 => ?_) (fun h84 => ?_)
          · refine lv_aload_n hx hb d_Mod_give_102 rfl (lv_at hl 1 rfl) ?_
            refine lv_aload_n hx hb d_Mod_give_103 rfl (lv_at hl 1 rfl) ?_
            refine va_get (D := g.1) (ci := 10) (v := .int (nI tq)) (C := R_Mod) (T := F_Mod) (N := 61) hx hb hts in_Mod hown hK hP 0 rfl rfl 46 (by decide) (hts _ wd_1296) (fun _ h9 => h9) rfl d_Mod_give_104 ?_
            refine lv_iload_n hx hb d_Mod_give_107 rfl (lv_at hl 0 rfl) ?_
            refine lv_iadd hx hb d_Mod_give_108 ?_
            refine tw_ri (e2 := nI (tq + 1)) (nI_add tq 1) ?_
            refine va_put (D := g.1) (ci := 10) (v := .int (nI (tq + 1))) (ty := .int) (C := R_Mod) (T := F_Mod) (N := 61) hx hb hts in_Mod t_Mod t_Mod_ok n_Mod hown hK hP hD hS 0 rfl rfl 46 (by decide) (hts _ wd_1296) (fun _ h9 => h9) rfl (t_Mod_ok 46 (by decide)) rfl rfl (Nat.le_of_ble_eq_true rfl) d_Mod_give_109 (fun H locs hP hD hS => ?_)
            have hP : va_P g.1 classes [(h0, .inr (10, mob q rf n mm mb fa fp av ev wi mn tp tc sc nf fd me mp xn mt wh (tq + 1) ag an ig)), ((q 32), aI g 160 sk), ((q 47), aI g 128 (upd nw (64 + tq) kd1))] H := hP
            have hD : va_D A [(h0, .inr (10, mob q rf n mm mb fa fp av ev wi mn tp tc sc nf fd me mp xn mt wh (tq + 1) ag an ig)), ((q 32), aI g 160 sk), ((q 47), aI g 128 (upd nw (64 + tq) kd1))] := hD
            exact tw_vret E hS (fa, fp, tq + 1, upd nw (64 + tq) kd1) (⟨(fun h => h), (by first | omega | (dsimp only <;> omega)), (hNW.put (hk3 h4))⟩) hP hD d_Mod_give_112
          · exact absurd h84 h10
        · refine lv_aload_n hx hb d_Mod_give_56 rfl (lv_at hl 1 rfl) ?_
          refine lv_bipush (v := 22) hx hb d_Mod_give_57 (by decide) ?_
          refine lv_aload_n hx hb d_Mod_give_59 rfl (lv_at hl 1 rfl) ?_
          refine va_get (D := g.1) (ci := 10) (v := .int (nI wh)) (C := R_Mod) (T := F_Mod) (N := 61) hx hb hts in_Mod hown hK hP 0 rfl rfl 45 (by decide) (hts _ wd_1295) (fun _ h9 => h9) rfl d_Mod_give_60 ?_
          refine tw_wv (wr := [((q 32), aI g 160 sk), ((q 47), aI g 128 nw)]) (tw_runV (ws := [(h0, .inr (10, mob q rf n mm mb fa fp av ev wi mn tp tc sc nf fd me mp xn mt wh tq ag an ig)), ((q 32), aI g 160 sk), ((q 47), aI g 128 nw)]) (wc := [(h0, .inr (10, mob q rf n mm mb fa fp av ev wi mn tp tc sc nf fd me mp xn mt wh tq ag an ig))]) (As := [.int 22, .int (nI wh)]) (rest := []) E hB hK hZ (g_Mod_fail l g H.size h0 q rf n mm mb av ev wi mn tp tc sc nf fd me mp xn mt wh tq ag an ig fa fp 22 (nI wh) (by decide)) mc_Mod_fail mi_Mod_fail me_Mod_fail wd_1478 hP hD hS hA [0] rfl (by decide) 0 rfl rfl rfl rfl rfl (by decide) rfl hl.1 rfl (Nat.le_of_ble_eq_true rfl) (by decide) d_Mod_give_63) hP hD hS hA [0] [1, 2] rfl rfl (by decide) (by decide) (fun u2 H locs hr1 hP hD hS => ?_)
          try dsimp only at hr1
          have hP : va_P g.1 classes [((q 32), aI g 160 sk), ((q 47), aI g 128 nw), (h0, .inr (10, mob q rf n mm mb u2.1 u2.2 av ev wi mn tp tc sc nf fd me mp xn mt wh tq ag an ig))] H := hP
          have hD : va_D A [((q 32), aI g 160 sk), ((q 47), aI g 128 nw), (h0, .inr (10, mob q rf n mm mb u2.1 u2.2 av ev wi mn tp tc sc nf fd me mp xn mt wh tq ag an ig))] := hD
          have hP : va_P g.1 classes [(h0, .inr (10, mob q rf n mm mb u2.1 u2.2 av ev wi mn tp tc sc nf fd me mp xn mt wh tq ag an ig)), ((q 32), aI g 160 sk), ((q 47), aI g 128 nw)] H := hP.sub [2, 0, 1] rfl
          have hD : va_D A [(h0, .inr (10, mob q rf n mm mb u2.1 u2.2 av ev wi mn tp tc sc nf fd me mp xn mt wh tq ag an ig)), ((q 32), aI g 160 sk), ((q 47), aI g 128 nw)] := hD.sub [2, 0, 1] (by decide) rfl
          have hp2_0 := hr1
          refine lv_goto (tgt := 112) hx hb d_Mod_give_66 (by decide) ?_
          exact tw_vret E hS (u2.1, u2.2, tq, nw) (⟨(fun h => absurd h hp2_0), (by first | omega | (dsimp only <;> omega)), hNW⟩) hP hD d_Mod_give_112
      · refine lv_aload_n hx hb d_Mod_give_25 rfl (lv_at hl 1 rfl) ?_
        refine lv_bipush (v := 23) hx hb d_Mod_give_26 (by decide) ?_
        refine lv_aload_n hx hb d_Mod_give_28 rfl (lv_at hl 1 rfl) ?_
        refine va_get (D := g.1) (ci := 10) (v := .int (nI wh)) (C := R_Mod) (T := F_Mod) (N := 61) hx hb hts in_Mod hown hK hP 0 rfl rfl 45 (by decide) (hts _ wd_1295) (fun _ h9 => h9) rfl d_Mod_give_29 ?_
        refine tw_wv (wr := [((q 32), aI g 160 sk), ((q 47), aI g 128 nw)]) (tw_runV (ws := [(h0, .inr (10, mob q rf n mm mb fa fp av ev wi mn tp tc sc nf fd me mp xn mt wh tq ag an ig)), ((q 32), aI g 160 sk), ((q 47), aI g 128 nw)]) (wc := [(h0, .inr (10, mob q rf n mm mb fa fp av ev wi mn tp tc sc nf fd me mp xn mt wh tq ag an ig))]) (As := [.int 23, .int (nI wh)]) (rest := []) E hB hK hZ (g_Mod_fail l g H.size h0 q rf n mm mb av ev wi mn tp tc sc nf fd me mp xn mt wh tq ag an ig fa fp 23 (nI wh) (by decide)) mc_Mod_fail mi_Mod_fail me_Mod_fail wd_1478 hP hD hS hA [0] rfl (by decide) 0 rfl rfl rfl rfl rfl (by decide) rfl hl.1 rfl (Nat.le_of_ble_eq_true rfl) (by decide) d_Mod_give_32) hP hD hS hA [0] [1, 2] rfl rfl (by decide) (by decide) (fun u4 H locs hr3 hP hD hS => ?_)
        try dsimp only at hr3
        have hP : va_P g.1 classes [((q 32), aI g 160 sk), ((q 47), aI g 128 nw), (h0, .inr (10, mob q rf n mm mb u4.1 u4.2 av ev wi mn tp tc sc nf fd me mp xn mt wh tq ag an ig))] H := hP
        have hD : va_D A [((q 32), aI g 160 sk), ((q 47), aI g 128 nw), (h0, .inr (10, mob q rf n mm mb u4.1 u4.2 av ev wi mn tp tc sc nf fd me mp xn mt wh tq ag an ig))] := hD
        have hP : va_P g.1 classes [(h0, .inr (10, mob q rf n mm mb u4.1 u4.2 av ev wi mn tp tc sc nf fd me mp xn mt wh tq ag an ig)), ((q 32), aI g 160 sk), ((q 47), aI g 128 nw)] H := hP.sub [2, 0, 1] rfl
        have hD : va_D A [(h0, .inr (10, mob q rf n mm mb u4.1 u4.2 av ev wi mn tp tc sc nf fd me mp xn mt wh tq ag an ig)), ((q 32), aI g 160 sk), ((q 47), aI g 128 nw)] := hD.sub [2, 0, 1] (by decide) rfl
        have hp4_0 := hr3
        refine lv_goto (tgt := 112) hx hb d_Mod_give_35 (by decide) ?_
        exact tw_vret E hS (u4.1, u4.2, tq, nw) (⟨(fun h => absurd h hp4_0), (by first | omega | (dsimp only <;> omega)), hNW⟩) hP hD d_Mod_give_112
    · refine lv_iconst (v := 2) hx hb d_Mod_give_13 (by decide) ?_
      refine lv_goto (tgt := 18) hx hb d_Mod_give_14 (by decide) ?_
      refine lv_istore_n hx hb d_Mod_give_18 rfl hl (by decide) rfl (fun ls hl => ?_)
      have hl : lv_has ls 3 [(2, .int 2), (0, .ref h0), (1, .int kd1)] := hl
      refine lv_iload_n hx hb d_Mod_give_19 rfl (lv_at hl 2 rfl) ?_
      refine lv_bipush (v := 9) hx hb d_Mod_give_20 (by decide) ?_
      refine lv_icmp_lt (tgt := 38) hx hb d_Mod_give_22 (by decide) (fun h22 => ?_) (fun h22 => ?_)
      · refine lv_aload_n hx hb d_Mod_give_38 rfl (lv_at hl 1 rfl) ?_
        refine va_get (D := g.1) (ci := 10) (v := .int (nI tq)) (C := R_Mod) (T := F_Mod) (N := 61) hx hb hts in_Mod hown hK hP 0 rfl rfl 46 (by decide) (hts _ wd_1296) (fun _ h9 => h9) rfl d_Mod_give_39 ?_
        refine lv_iload_n hx hb d_Mod_give_42 rfl (lv_at hl 0 rfl) ?_
        refine lv_iadd hx hb d_Mod_give_43 ?_
        refine tw_ri (e2 := nI (tq + 2)) (nI_add tq 2) ?_
        refine lv_aload_n hx hb d_Mod_give_44 rfl (lv_at hl 1 rfl) ?_
        refine va_get (D := g.1) (ci := 10) (v := .ref (q 32)) (C := R_Mod) (T := F_Mod) (N := 61) hx hb hts in_Mod hown hK hP 0 rfl rfl 32 (by decide) (hts _ wd_1282) (fun _ h9 => h9) rfl d_Mod_give_45 ?_
        refine lv_aload_n hx hb d_Mod_give_48 rfl (lv_at hl 1 rfl) ?_
        refine va_get (D := g.1) (ci := 10) (v := .int (nI mt)) (C := R_Mod) (T := F_Mod) (N := 61) hx hb hts in_Mod hown hK hP 0 rfl rfl 44 (by decide) (hts _ wd_1294) (fun _ h9 => h9) rfl d_Mod_give_49 ?_
        refine va_iald hx hb hK hP 1 0 rfl rfl (vp_in_nI (by omega) (by decide)) d_Mod_give_52 ?_
        refine tw_ri (e2 := nI s1) (by rw [nI_clamp (by omega)]; exact hsk) ?_
        refine lv_icmp_le (tgt := 69) hx hb d_Mod_give_53 (by decide) (fun h53 => ?_) (fun h53 => ?_)
        · have h53 := tn_le h53 (by omega) (by omega)
          refine lv_aload_n hx hb d_Mod_give_69 rfl (lv_at hl 1 rfl) ?_
          refine va_get (D := g.1) (ci := 10) (v := .ref (q 47)) (C := R_Mod) (T := F_Mod) (N := 61) hx hb hts in_Mod hown hK hP 0 rfl rfl 47 (by decide) (hts _ wd_1297) (fun _ h9 => h9) rfl d_Mod_give_70 ?_
          refine lv_bipush (v := 64) hx hb d_Mod_give_73 (by decide) ?_
          refine lv_aload_n hx hb d_Mod_give_75 rfl (lv_at hl 1 rfl) ?_
          refine va_get (D := g.1) (ci := 10) (v := .int (nI tq)) (C := R_Mod) (T := F_Mod) (N := 61) hx hb hts in_Mod hown hK hP 0 rfl rfl 46 (by decide) (hts _ wd_1296) (fun _ h9 => h9) rfl d_Mod_give_76 ?_
          refine lv_iadd hx hb d_Mod_give_79 ?_
          refine tw_ri (e2 := nI (64 + tq)) (nI_add 64 tq) ?_
          refine lv_iload_n hx hb d_Mod_give_80 rfl (lv_at hl 2 rfl) ?_
          refine va_iast hx hb hK hP hD hS 2 0 rfl rfl (vp_in_nI (by omega) (by decide)) d_Mod_give_81 (fun H locs hP hD hS => ?_)
          have hP : va_P g.1 classes [(h0, .inr (10, mob q rf n mm mb fa fp av ev wi mn tp tc sc nf fd me mp xn mt wh tq ag an ig)), ((q 32), aI g 160 sk), ((q 47), aI g 128 (upd nw (nI (64 + tq)).toNatClampNeg kd1))] H := hP
          have hD : va_D A [(h0, .inr (10, mob q rf n mm mb fa fp av ev wi mn tp tc sc nf fd me mp xn mt wh tq ag an ig)), ((q 32), aI g 160 sk), ((q 47), aI g 128 (upd nw (nI (64 + tq)).toNatClampNeg kd1))] := hD
          have e9 : upd nw (nI (64 + tq)).toNatClampNeg kd1 = upd nw (64 + tq) kd1 := by rw [nI_clamp (by omega)]
          rw [e9] at hP hD
          refine lv_iload_n hx hb d_Mod_give_82 rfl (lv_at hl 2 rfl) ?_
          refine lv_iconst (v := 2) hx hb d_Mod_give_83 (by decide) ?_
          refine lv_icmp_ne (tgt := 102) hx hb d_Mod_give_84 (by decide) (fun h84 => ?_) (fun h84 => ?_)
          · exact absurd h10 h84
          · refine lv_aload_n hx hb d_Mod_give_87 rfl (lv_at hl 1 rfl) ?_
            refine va_get (D := g.1) (ci := 10) (v := .ref (q 47)) (C := R_Mod) (T := F_Mod) (N := 61) hx hb hts in_Mod hown hK hP 0 rfl rfl 47 (by decide) (hts _ wd_1297) (fun _ h9 => h9) rfl d_Mod_give_88 ?_
            refine lv_bipush (v := 64) hx hb d_Mod_give_91 (by decide) ?_
            refine lv_aload_n hx hb d_Mod_give_93 rfl (lv_at hl 1 rfl) ?_
            refine va_get (D := g.1) (ci := 10) (v := .int (nI tq)) (C := R_Mod) (T := F_Mod) (N := 61) hx hb hts in_Mod hown hK hP 0 rfl rfl 46 (by decide) (hts _ wd_1296) (fun _ h9 => h9) rfl d_Mod_give_94 ?_
            refine lv_iadd hx hb d_Mod_give_97 ?_
            refine tw_ri (e2 := nI (64 + tq)) (nI_add 64 tq) ?_
            refine lv_iconst (v := 1) hx hb d_Mod_give_98 (by decide) ?_
            refine lv_iadd hx hb d_Mod_give_99 ?_
            refine tw_ri (e2 := nI (64 + tq + 1)) (nI_add _ 1) ?_
            refine lv_iconst (v := 3) hx hb d_Mod_give_100 (by decide) ?_
            refine va_iast hx hb hK hP hD hS 2 0 rfl rfl (vp_in_nI (by omega) (by decide)) d_Mod_give_101 (fun H locs hP hD hS => ?_)
            have hP : va_P g.1 classes [(h0, .inr (10, mob q rf n mm mb fa fp av ev wi mn tp tc sc nf fd me mp xn mt wh tq ag an ig)), ((q 32), aI g 160 sk), ((q 47), aI g 128 (upd (upd nw (64 + tq) kd1) (nI (64 + tq + 1)).toNatClampNeg 3))] H := hP
            have hD : va_D A [(h0, .inr (10, mob q rf n mm mb fa fp av ev wi mn tp tc sc nf fd me mp xn mt wh tq ag an ig)), ((q 32), aI g 160 sk), ((q 47), aI g 128 (upd (upd nw (64 + tq) kd1) (nI (64 + tq + 1)).toNatClampNeg 3))] := hD
            have e9 : upd (upd nw (64 + tq) kd1) (nI (64 + tq + 1)).toNatClampNeg 3 = upd (upd nw (64 + tq) kd1) (64 + tq + 1) 3 := by rw [nI_clamp (by omega)]
            rw [e9] at hP hD
            refine lv_aload_n hx hb d_Mod_give_102 rfl (lv_at hl 1 rfl) ?_
            refine lv_aload_n hx hb d_Mod_give_103 rfl (lv_at hl 1 rfl) ?_
            refine va_get (D := g.1) (ci := 10) (v := .int (nI tq)) (C := R_Mod) (T := F_Mod) (N := 61) hx hb hts in_Mod hown hK hP 0 rfl rfl 46 (by decide) (hts _ wd_1296) (fun _ h9 => h9) rfl d_Mod_give_104 ?_
            refine lv_iload_n hx hb d_Mod_give_107 rfl (lv_at hl 0 rfl) ?_
            refine lv_iadd hx hb d_Mod_give_108 ?_
            refine tw_ri (e2 := nI (tq + 2)) (nI_add tq 2) ?_
            refine va_put (D := g.1) (ci := 10) (v := .int (nI (tq + 2))) (ty := .int) (C := R_Mod) (T := F_Mod) (N := 61) hx hb hts in_Mod t_Mod t_Mod_ok n_Mod hown hK hP hD hS 0 rfl rfl 46 (by decide) (hts _ wd_1296) (fun _ h9 => h9) rfl (t_Mod_ok 46 (by decide)) rfl rfl (Nat.le_of_ble_eq_true rfl) d_Mod_give_109 (fun H locs hP hD hS => ?_)
            have hP : va_P g.1 classes [(h0, .inr (10, mob q rf n mm mb fa fp av ev wi mn tp tc sc nf fd me mp xn mt wh (tq + 2) ag an ig)), ((q 32), aI g 160 sk), ((q 47), aI g 128 (upd (upd nw (64 + tq) kd1) (64 + tq + 1) 3))] H := hP
            have hD : va_D A [(h0, .inr (10, mob q rf n mm mb fa fp av ev wi mn tp tc sc nf fd me mp xn mt wh (tq + 2) ag an ig)), ((q 32), aI g 160 sk), ((q 47), aI g 128 (upd (upd nw (64 + tq) kd1) (64 + tq + 1) 3))] := hD
            exact tw_vret E hS (fa, fp, tq + 2, upd (upd nw (64 + tq) kd1) (64 + tq + 1) 3) (⟨(fun h => h), (by first | omega | (dsimp only <;> omega)), ((hNW.put (hk3 h4)).put2 (by omega) (by omega))⟩) hP hD d_Mod_give_112
        · refine lv_aload_n hx hb d_Mod_give_56 rfl (lv_at hl 1 rfl) ?_
          refine lv_bipush (v := 22) hx hb d_Mod_give_57 (by decide) ?_
          refine lv_aload_n hx hb d_Mod_give_59 rfl (lv_at hl 1 rfl) ?_
          refine va_get (D := g.1) (ci := 10) (v := .int (nI wh)) (C := R_Mod) (T := F_Mod) (N := 61) hx hb hts in_Mod hown hK hP 0 rfl rfl 45 (by decide) (hts _ wd_1295) (fun _ h9 => h9) rfl d_Mod_give_60 ?_
          refine tw_wv (wr := [((q 32), aI g 160 sk), ((q 47), aI g 128 nw)]) (tw_runV (ws := [(h0, .inr (10, mob q rf n mm mb fa fp av ev wi mn tp tc sc nf fd me mp xn mt wh tq ag an ig)), ((q 32), aI g 160 sk), ((q 47), aI g 128 nw)]) (wc := [(h0, .inr (10, mob q rf n mm mb fa fp av ev wi mn tp tc sc nf fd me mp xn mt wh tq ag an ig))]) (As := [.int 22, .int (nI wh)]) (rest := []) E hB hK hZ (g_Mod_fail l g H.size h0 q rf n mm mb av ev wi mn tp tc sc nf fd me mp xn mt wh tq ag an ig fa fp 22 (nI wh) (by decide)) mc_Mod_fail mi_Mod_fail me_Mod_fail wd_1478 hP hD hS hA [0] rfl (by decide) 0 rfl rfl rfl rfl rfl (by decide) rfl hl.1 rfl (Nat.le_of_ble_eq_true rfl) (by decide) d_Mod_give_63) hP hD hS hA [0] [1, 2] rfl rfl (by decide) (by decide) (fun u6 H locs hr5 hP hD hS => ?_)
          try dsimp only at hr5
          have hP : va_P g.1 classes [((q 32), aI g 160 sk), ((q 47), aI g 128 nw), (h0, .inr (10, mob q rf n mm mb u6.1 u6.2 av ev wi mn tp tc sc nf fd me mp xn mt wh tq ag an ig))] H := hP
          have hD : va_D A [((q 32), aI g 160 sk), ((q 47), aI g 128 nw), (h0, .inr (10, mob q rf n mm mb u6.1 u6.2 av ev wi mn tp tc sc nf fd me mp xn mt wh tq ag an ig))] := hD
          have hP : va_P g.1 classes [(h0, .inr (10, mob q rf n mm mb u6.1 u6.2 av ev wi mn tp tc sc nf fd me mp xn mt wh tq ag an ig)), ((q 32), aI g 160 sk), ((q 47), aI g 128 nw)] H := hP.sub [2, 0, 1] rfl
          have hD : va_D A [(h0, .inr (10, mob q rf n mm mb u6.1 u6.2 av ev wi mn tp tc sc nf fd me mp xn mt wh tq ag an ig)), ((q 32), aI g 160 sk), ((q 47), aI g 128 nw)] := hD.sub [2, 0, 1] (by decide) rfl
          have hp6_0 := hr5
          refine lv_goto (tgt := 112) hx hb d_Mod_give_66 (by decide) ?_
          exact tw_vret E hS (u6.1, u6.2, tq, nw) (⟨(fun h => absurd h hp6_0), (by first | omega | (dsimp only <;> omega)), hNW⟩) hP hD d_Mod_give_112
      · refine lv_aload_n hx hb d_Mod_give_25 rfl (lv_at hl 1 rfl) ?_
        refine lv_bipush (v := 23) hx hb d_Mod_give_26 (by decide) ?_
        refine lv_aload_n hx hb d_Mod_give_28 rfl (lv_at hl 1 rfl) ?_
        refine va_get (D := g.1) (ci := 10) (v := .int (nI wh)) (C := R_Mod) (T := F_Mod) (N := 61) hx hb hts in_Mod hown hK hP 0 rfl rfl 45 (by decide) (hts _ wd_1295) (fun _ h9 => h9) rfl d_Mod_give_29 ?_
        refine tw_wv (wr := [((q 32), aI g 160 sk), ((q 47), aI g 128 nw)]) (tw_runV (ws := [(h0, .inr (10, mob q rf n mm mb fa fp av ev wi mn tp tc sc nf fd me mp xn mt wh tq ag an ig)), ((q 32), aI g 160 sk), ((q 47), aI g 128 nw)]) (wc := [(h0, .inr (10, mob q rf n mm mb fa fp av ev wi mn tp tc sc nf fd me mp xn mt wh tq ag an ig))]) (As := [.int 23, .int (nI wh)]) (rest := []) E hB hK hZ (g_Mod_fail l g H.size h0 q rf n mm mb av ev wi mn tp tc sc nf fd me mp xn mt wh tq ag an ig fa fp 23 (nI wh) (by decide)) mc_Mod_fail mi_Mod_fail me_Mod_fail wd_1478 hP hD hS hA [0] rfl (by decide) 0 rfl rfl rfl rfl rfl (by decide) rfl hl.1 rfl (Nat.le_of_ble_eq_true rfl) (by decide) d_Mod_give_32) hP hD hS hA [0] [1, 2] rfl rfl (by decide) (by decide) (fun u8 H locs hr7 hP hD hS => ?_)
        try dsimp only at hr7
        have hP : va_P g.1 classes [((q 32), aI g 160 sk), ((q 47), aI g 128 nw), (h0, .inr (10, mob q rf n mm mb u8.1 u8.2 av ev wi mn tp tc sc nf fd me mp xn mt wh tq ag an ig))] H := hP
        have hD : va_D A [((q 32), aI g 160 sk), ((q 47), aI g 128 nw), (h0, .inr (10, mob q rf n mm mb u8.1 u8.2 av ev wi mn tp tc sc nf fd me mp xn mt wh tq ag an ig))] := hD
        have hP : va_P g.1 classes [(h0, .inr (10, mob q rf n mm mb u8.1 u8.2 av ev wi mn tp tc sc nf fd me mp xn mt wh tq ag an ig)), ((q 32), aI g 160 sk), ((q 47), aI g 128 nw)] H := hP.sub [2, 0, 1] rfl
        have hD : va_D A [(h0, .inr (10, mob q rf n mm mb u8.1 u8.2 av ev wi mn tp tc sc nf fd me mp xn mt wh tq ag an ig)), ((q 32), aI g 160 sk), ((q 47), aI g 128 nw)] := hD.sub [2, 0, 1] (by decide) rfl
        have hp8_0 := hr7
        refine lv_goto (tgt := 112) hx hb d_Mod_give_35 (by decide) ?_
        exact tw_vret E hS (u8.1, u8.2, tq, nw) (⟨(fun h => absurd h hp8_0), (by first | omega | (dsimp only <;> omega)), hNW⟩) hP hD d_Mod_give_112
  · exact tw_vret E hS (fa, fp, tq, nw) (⟨(fun h => h), (by first | omega | (dsimp only <;> omega)), hNW⟩) hP hD d_Mod_give_7
set_option maxHeartbeats 4000000 in
set_option maxRecDepth 100000 in
theorem g_Mod_needLocal (l : Launch) (g : tw_G) (sz : Nat) (h0 : Nat) (q : Nat → Nat) (rf : Int32) (n : Nat) (mm : Int32) (mb : Int32) (av : Nat) (ev : Nat) (wi : Int32) (mn : Nat) (tp : Int32) (tc : Int32) (sc : Int32) (nf : Nat) (fd : Nat) (me : Nat) (mp : Int32) (xn : Nat) (mt : Nat) (wh : Nat) (tq : Nat) (ag : Nat) (an : Int32) (ig : Int32) (lo : Nat → Int32) (fa : Int32) (fp : Int32) (lc : Nat) (kd1 : Int32) (o1 : Nat) (hmt : mt < 160) (hlo : lo mt = nI o1) (ho64 : o1 ≤ 64) (hlc : lc < 65536) : Met l y_Mod_needLocal [.code y_Mod_needLocal b_Mod_needLocal 3 none] ({ frames := 1, cells := 0, slots := 0, locals := 22 }) (tw_P g [.ref h0, .int (nI lc), .int kd1] [(h0, .inr (10, mob q rf n mm mb fa fp av ev wi mn tp tc sc nf fd me mp xn mt wh tq ag an ig)), ((q 33), aI g 160 lo)] sz) (tw_Qv g (fun (u : Int32 × Int32) => (u.1 = 0 → fa = 0) ∧ (u.1 = 0 → lc < o1) ∧ (u.1 = 0 → kd1 = 2 → lc + 1 < o1)) (fun u : Int32 × Int32 => [(h0, .inr (10, mob q rf n mm mb u.1 u.2 av ev wi mn tp tc sc nf fd me mp xn mt wh tq ag an ig)), ((q 33), aI g 160 lo)]) (va_A [(h0, .inr (10, mob q rf n mm mb fa fp av ev wi mn tp tc sc nf fd me mp xn mt wh tq ag an ig)), ((q 33), aI g 160 lo)] sz)) 0 0 (va_A [(h0, .inr (10, mob q rf n mm mb fa fp av ev wi mn tp tc sc nf fd me mp xn mt wh tq ag an ig)), ((q 33), aI g 160 lo)] sz) := by
  refine tw_metW (l := l) (g := g) (y := y_Mod_needLocal) (cc := b_Mod_needLocal) (maxL := 3) (ret := none) (rm := { frames := 1, cells := 0, slots := 0, locals := 22 }) (mc := 0) (ms := 0) (av := [.ref h0, .int (nI lc), .int kd1]) (ws := [(h0, .inr (10, mob q rf n mm mb fa fp av ev wi mn tp tc sc nf fd me mp xn mt wh tq ag an ig)), ((q 33), aI g 160 lo)]) (sz := sz) (Qc := fun A => (tw_Qv g (fun (u : Int32 × Int32) => (u.1 = 0 → fa = 0) ∧ (u.1 = 0 → lc < o1) ∧ (u.1 = 0 → kd1 = 2 → lc + 1 < o1)) (fun u : Int32 × Int32 => [(h0, .inr (10, mob q rf n mm mb u.1 u.2 av ev wi mn tp tc sc nf fd me mp xn mt wh tq ag an ig)), ((q 33), aI g 160 lo)]) A)) (by decide) (Nat.le_of_ble_eq_true rfl) ?_
  intro p e s m below meth c ls H A E hB hK hZ hP hD hS hA hl
  obtain ⟨hx, hb, hml, hr, hown, hts, hlocks, hin⟩ := id E
  have hl : lv_has ls 3 [(0, .ref h0), (1, .int (nI lc)), (2, .int kd1)] := hl
  refine lv_iload_n hx hb d_Mod_needLocal_0 rfl (lv_at hl 1 rfl) ?_
  refine lv_aload_n hx hb d_Mod_needLocal_1 rfl (lv_at hl 0 rfl) ?_
  refine va_get (D := g.1) (ci := 10) (v := .ref (q 33)) (C := R_Mod) (T := F_Mod) (N := 61) hx hb hts in_Mod hown hK hP 0 rfl rfl 33 (by decide) (hts _ wd_1283) (fun _ h9 => h9) rfl d_Mod_needLocal_2 ?_
  refine lv_aload_n hx hb d_Mod_needLocal_5 rfl (lv_at hl 0 rfl) ?_
  refine va_get (D := g.1) (ci := 10) (v := .int (nI mt)) (C := R_Mod) (T := F_Mod) (N := 61) hx hb hts in_Mod hown hK hP 0 rfl rfl 44 (by decide) (hts _ wd_1294) (fun _ h9 => h9) rfl d_Mod_needLocal_6 ?_
  refine va_iald hx hb hK hP 1 0 rfl rfl (vp_in_nI (by omega) (by decide)) d_Mod_needLocal_9 ?_
  refine tw_ri (e2 := nI o1) (by rw [nI_clamp (by omega)]; exact hlo) ?_
  refine lv_icmp_ge (tgt := 33) hx hb d_Mod_needLocal_10 (by decide) (fun h10 => ?_) (fun h10 => ?_)
  · have h10 := tn_le h10 (by omega) (by omega)
    refine lv_aload_n hx hb d_Mod_needLocal_33 rfl (lv_at hl 0 rfl) ?_
    refine lv_bipush (v := 21) hx hb d_Mod_needLocal_34 (by decide) ?_
    refine lv_aload_n hx hb d_Mod_needLocal_36 rfl (lv_at hl 0 rfl) ?_
    refine va_get (D := g.1) (ci := 10) (v := .int (nI wh)) (C := R_Mod) (T := F_Mod) (N := 61) hx hb hts in_Mod hown hK hP 0 rfl rfl 45 (by decide) (hts _ wd_1295) (fun _ h9 => h9) rfl d_Mod_needLocal_37 ?_
    refine tw_wv (wr := [((q 33), aI g 160 lo)]) (tw_runV (ws := [(h0, .inr (10, mob q rf n mm mb fa fp av ev wi mn tp tc sc nf fd me mp xn mt wh tq ag an ig)), ((q 33), aI g 160 lo)]) (wc := [(h0, .inr (10, mob q rf n mm mb fa fp av ev wi mn tp tc sc nf fd me mp xn mt wh tq ag an ig))]) (As := [.int 21, .int (nI wh)]) (rest := []) E hB hK hZ (g_Mod_fail l g H.size h0 q rf n mm mb av ev wi mn tp tc sc nf fd me mp xn mt wh tq ag an ig fa fp 21 (nI wh) (by decide)) mc_Mod_fail mi_Mod_fail me_Mod_fail wd_1478 hP hD hS hA [0] rfl (by decide) 0 rfl rfl rfl rfl rfl (by decide) rfl hl.1 rfl (Nat.le_of_ble_eq_true rfl) (by decide) d_Mod_needLocal_40) hP hD hS hA [0] [1] rfl rfl (by decide) (by decide) (fun u2 H locs hr1 hP hD hS => ?_)
    try dsimp only at hr1
    have hP : va_P g.1 classes [((q 33), aI g 160 lo), (h0, .inr (10, mob q rf n mm mb u2.1 u2.2 av ev wi mn tp tc sc nf fd me mp xn mt wh tq ag an ig))] H := hP
    have hD : va_D A [((q 33), aI g 160 lo), (h0, .inr (10, mob q rf n mm mb u2.1 u2.2 av ev wi mn tp tc sc nf fd me mp xn mt wh tq ag an ig))] := hD
    have hP : va_P g.1 classes [(h0, .inr (10, mob q rf n mm mb u2.1 u2.2 av ev wi mn tp tc sc nf fd me mp xn mt wh tq ag an ig)), ((q 33), aI g 160 lo)] H := hP.sub [1, 0] rfl
    have hD : va_D A [(h0, .inr (10, mob q rf n mm mb u2.1 u2.2 av ev wi mn tp tc sc nf fd me mp xn mt wh tq ag an ig)), ((q 33), aI g 160 lo)] := hD.sub [1, 0] (by decide) rfl
    have hp2_0 := hr1
    exact tw_vret E hS (u2.1, u2.2) (⟨(fun h => absurd h hp2_0), (fun h => absurd h hp2_0), (fun h => absurd h hp2_0)⟩) hP hD d_Mod_needLocal_43
  · have h10 := tn_nle h10 (by omega) (by omega)
    refine lv_iload_n hx hb d_Mod_needLocal_13 rfl (lv_at hl 2 rfl) ?_
    refine lv_iconst (v := 2) hx hb d_Mod_needLocal_14 (by decide) ?_
    refine lv_icmp_ne (tgt := 43) hx hb d_Mod_needLocal_15 (by decide) (fun h15 => ?_) (fun h15 => ?_)
    · exact tw_vret E hS (fa, fp) (⟨(fun h => h), (fun hz => by first | omega | (dsimp only <;> omega)), (fun _ h2 => absurd h2 h15)⟩) hP hD d_Mod_needLocal_43
    · refine lv_iload_n hx hb d_Mod_needLocal_18 rfl (lv_at hl 1 rfl) ?_
      refine lv_iconst (v := 1) hx hb d_Mod_needLocal_19 (by decide) ?_
      refine lv_iadd hx hb d_Mod_needLocal_20 ?_
      refine tw_ri (e2 := nI (lc + 1)) (nI_add lc 1) ?_
      refine lv_aload_n hx hb d_Mod_needLocal_21 rfl (lv_at hl 0 rfl) ?_
      refine va_get (D := g.1) (ci := 10) (v := .ref (q 33)) (C := R_Mod) (T := F_Mod) (N := 61) hx hb hts in_Mod hown hK hP 0 rfl rfl 33 (by decide) (hts _ wd_1283) (fun _ h9 => h9) rfl d_Mod_needLocal_22 ?_
      refine lv_aload_n hx hb d_Mod_needLocal_25 rfl (lv_at hl 0 rfl) ?_
      refine va_get (D := g.1) (ci := 10) (v := .int (nI mt)) (C := R_Mod) (T := F_Mod) (N := 61) hx hb hts in_Mod hown hK hP 0 rfl rfl 44 (by decide) (hts _ wd_1294) (fun _ h9 => h9) rfl d_Mod_needLocal_26 ?_
      refine va_iald hx hb hK hP 1 0 rfl rfl (vp_in_nI (by omega) (by decide)) d_Mod_needLocal_29 ?_
      refine tw_ri (e2 := nI o1) (by rw [nI_clamp (by omega)]; exact hlo) ?_
      refine lv_icmp_lt (tgt := 43) hx hb d_Mod_needLocal_30 (by decide) (fun h30 => ?_) (fun h30 => ?_)
      · have h30 := tn_lt h30 (by omega) (by omega)
        exact tw_vret E hS (fa, fp) (⟨(fun h => h), (fun hz => by first | omega | (dsimp only <;> omega)), (fun hz => by intro _; first | omega | (dsimp only <;> omega))⟩) hP hD d_Mod_needLocal_43
      · refine lv_aload_n hx hb d_Mod_needLocal_33 rfl (lv_at hl 0 rfl) ?_
        refine lv_bipush (v := 21) hx hb d_Mod_needLocal_34 (by decide) ?_
        refine lv_aload_n hx hb d_Mod_needLocal_36 rfl (lv_at hl 0 rfl) ?_
        refine va_get (D := g.1) (ci := 10) (v := .int (nI wh)) (C := R_Mod) (T := F_Mod) (N := 61) hx hb hts in_Mod hown hK hP 0 rfl rfl 45 (by decide) (hts _ wd_1295) (fun _ h9 => h9) rfl d_Mod_needLocal_37 ?_
        refine tw_wv (wr := [((q 33), aI g 160 lo)]) (tw_runV (ws := [(h0, .inr (10, mob q rf n mm mb fa fp av ev wi mn tp tc sc nf fd me mp xn mt wh tq ag an ig)), ((q 33), aI g 160 lo)]) (wc := [(h0, .inr (10, mob q rf n mm mb fa fp av ev wi mn tp tc sc nf fd me mp xn mt wh tq ag an ig))]) (As := [.int 21, .int (nI wh)]) (rest := []) E hB hK hZ (g_Mod_fail l g H.size h0 q rf n mm mb av ev wi mn tp tc sc nf fd me mp xn mt wh tq ag an ig fa fp 21 (nI wh) (by decide)) mc_Mod_fail mi_Mod_fail me_Mod_fail wd_1478 hP hD hS hA [0] rfl (by decide) 0 rfl rfl rfl rfl rfl (by decide) rfl hl.1 rfl (Nat.le_of_ble_eq_true rfl) (by decide) d_Mod_needLocal_40) hP hD hS hA [0] [1] rfl rfl (by decide) (by decide) (fun u4 H locs hr3 hP hD hS => ?_)
        try dsimp only at hr3
        have hP : va_P g.1 classes [((q 33), aI g 160 lo), (h0, .inr (10, mob q rf n mm mb u4.1 u4.2 av ev wi mn tp tc sc nf fd me mp xn mt wh tq ag an ig))] H := hP
        have hD : va_D A [((q 33), aI g 160 lo), (h0, .inr (10, mob q rf n mm mb u4.1 u4.2 av ev wi mn tp tc sc nf fd me mp xn mt wh tq ag an ig))] := hD
        have hP : va_P g.1 classes [(h0, .inr (10, mob q rf n mm mb u4.1 u4.2 av ev wi mn tp tc sc nf fd me mp xn mt wh tq ag an ig)), ((q 33), aI g 160 lo)] H := hP.sub [1, 0] rfl
        have hD : va_D A [(h0, .inr (10, mob q rf n mm mb u4.1 u4.2 av ev wi mn tp tc sc nf fd me mp xn mt wh tq ag an ig)), ((q 33), aI g 160 lo)] := hD.sub [1, 0] (by decide) rfl
        have hp4_0 := hr3
        exact tw_vret E hS (u4.1, u4.2) (⟨(fun h => absurd h hp4_0), (fun h => absurd h hp4_0), (fun h => absurd h hp4_0)⟩) hP hD d_Mod_needLocal_43
set_option maxHeartbeats 4000000 in
set_option maxRecDepth 100000 in
theorem g_Mod_fetch (l : Launch) (g : tw_G) (sz : Nat) (h0 : Nat) (q : Nat → Nat) (rf : Int32) (n : Nat) (mm : Int32) (mb : Int32) (av : Nat) (ev : Nat) (wi : Int32) (mn : Nat) (tp : Int32) (tc : Int32) (sc : Int32) (nf : Nat) (fd : Nat) (me : Nat) (mp : Int32) (xn : Nat) (mt : Nat) (wh : Nat) (ag : Nat) (an : Int32) (ig : Int32) (sk : Nat → Int32) (lo : Nat → Int32) (fa : Int32) (fp : Int32) (tq : Nat) (nw : Nat → Int32) (lc : Nat) (kd1 : Int32) (s1 o1 : Nat) (hNW : NOW nw) (htq : tq ≤ 64) (hmt : mt < 160) (hsk : sk mt = nI s1) (hs64 : s1 ≤ 64) (hlo : lo mt = nI o1) (ho64 : o1 ≤ 64) (hlc : lc < 65536) (hkn : ¬ kd1 = 3) : Met l y_Mod_fetch [.code y_Mod_fetch b_Mod_fetch 3 none] ({ frames := 2, cells := 0, slots := 0, locals := 44 }) (tw_P g [.ref h0, .int (nI lc), .int kd1] [(h0, .inr (10, mob q rf n mm mb fa fp av ev wi mn tp tc sc nf fd me mp xn mt wh tq ag an ig)), ((q 32), aI g 160 sk), ((q 33), aI g 160 lo), ((q 47), aI g 128 nw)] sz) (tw_Qv g (fun (u : Int32 × Int32 × Nat × (Nat → Int32)) => (u.1 = 0 → fa = 0) ∧ (u.2.2.1 ≤ 64) ∧ (NOW u.2.2.2)) (fun u : Int32 × Int32 × Nat × (Nat → Int32) => [(h0, .inr (10, mob q rf n mm mb u.1 u.2.1 av ev wi mn tp tc sc nf fd me mp xn mt wh u.2.2.1 ag an ig)), ((q 32), aI g 160 sk), ((q 33), aI g 160 lo), ((q 47), aI g 128 u.2.2.2)]) (va_A [(h0, .inr (10, mob q rf n mm mb fa fp av ev wi mn tp tc sc nf fd me mp xn mt wh tq ag an ig)), ((q 32), aI g 160 sk), ((q 33), aI g 160 lo), ((q 47), aI g 128 nw)] sz)) 0 0 (va_A [(h0, .inr (10, mob q rf n mm mb fa fp av ev wi mn tp tc sc nf fd me mp xn mt wh tq ag an ig)), ((q 32), aI g 160 sk), ((q 33), aI g 160 lo), ((q 47), aI g 128 nw)] sz) := by
  refine tw_metW (l := l) (g := g) (y := y_Mod_fetch) (cc := b_Mod_fetch) (maxL := 3) (ret := none) (rm := { frames := 2, cells := 0, slots := 0, locals := 44 }) (mc := 0) (ms := 0) (av := [.ref h0, .int (nI lc), .int kd1]) (ws := [(h0, .inr (10, mob q rf n mm mb fa fp av ev wi mn tp tc sc nf fd me mp xn mt wh tq ag an ig)), ((q 32), aI g 160 sk), ((q 33), aI g 160 lo), ((q 47), aI g 128 nw)]) (sz := sz) (Qc := fun A => (tw_Qv g (fun (u : Int32 × Int32 × Nat × (Nat → Int32)) => (u.1 = 0 → fa = 0) ∧ (u.2.2.1 ≤ 64) ∧ (NOW u.2.2.2)) (fun u : Int32 × Int32 × Nat × (Nat → Int32) => [(h0, .inr (10, mob q rf n mm mb u.1 u.2.1 av ev wi mn tp tc sc nf fd me mp xn mt wh u.2.2.1 ag an ig)), ((q 32), aI g 160 sk), ((q 33), aI g 160 lo), ((q 47), aI g 128 u.2.2.2)]) A)) (by decide) (Nat.le_of_ble_eq_true rfl) ?_
  intro p e s m below meth c ls H A E hB hK hZ hP hD hS hA hl
  obtain ⟨hx, hb, hml, hr, hown, hts, hlocks, hin⟩ := id E
  have hl : lv_has ls 3 [(0, .ref h0), (1, .int (nI lc)), (2, .int kd1)] := hl
  refine lv_aload_n hx hb d_Mod_fetch_0 rfl (lv_at hl 0 rfl) ?_
  refine lv_iload_n hx hb d_Mod_fetch_1 rfl (lv_at hl 1 rfl) ?_
  refine lv_iload_n hx hb d_Mod_fetch_2 rfl (lv_at hl 2 rfl) ?_
  refine tw_wv (wr := [((q 32), aI g 160 sk), ((q 47), aI g 128 nw)]) (tw_runV (ws := [(h0, .inr (10, mob q rf n mm mb fa fp av ev wi mn tp tc sc nf fd me mp xn mt wh tq ag an ig)), ((q 32), aI g 160 sk), ((q 33), aI g 160 lo), ((q 47), aI g 128 nw)]) (wc := [(h0, .inr (10, mob q rf n mm mb fa fp av ev wi mn tp tc sc nf fd me mp xn mt wh tq ag an ig)), ((q 33), aI g 160 lo)]) (As := [.int (nI lc), .int kd1]) (rest := []) E hB hK hZ (g_Mod_needLocal l g H.size h0 q rf n mm mb av ev wi mn tp tc sc nf fd me mp xn mt wh tq ag an ig lo fa fp lc kd1 o1 (by omega) hlo (by omega) (by omega)) mc_Mod_needLocal mi_Mod_needLocal me_Mod_needLocal wd_1660 hP hD hS hA [0, 2] rfl (by decide) 0 rfl rfl rfl rfl rfl (by decide) rfl hl.1 rfl (Nat.le_of_ble_eq_true rfl) (by decide) d_Mod_fetch_3) hP hD hS hA [0, 2] [1, 3] rfl rfl (by decide) (by decide) (fun u2 H locs hr1 hP hD hS => ?_)
  try dsimp only at hr1
  have hP : va_P g.1 classes [((q 32), aI g 160 sk), ((q 47), aI g 128 nw), (h0, .inr (10, mob q rf n mm mb u2.1 u2.2 av ev wi mn tp tc sc nf fd me mp xn mt wh tq ag an ig)), ((q 33), aI g 160 lo)] H := hP
  have hD : va_D A [((q 32), aI g 160 sk), ((q 47), aI g 128 nw), (h0, .inr (10, mob q rf n mm mb u2.1 u2.2 av ev wi mn tp tc sc nf fd me mp xn mt wh tq ag an ig)), ((q 33), aI g 160 lo)] := hD
  have hP : va_P g.1 classes [(h0, .inr (10, mob q rf n mm mb u2.1 u2.2 av ev wi mn tp tc sc nf fd me mp xn mt wh tq ag an ig)), ((q 32), aI g 160 sk), ((q 33), aI g 160 lo), ((q 47), aI g 128 nw)] H := hP.sub [2, 0, 3, 1] rfl
  have hD : va_D A [(h0, .inr (10, mob q rf n mm mb u2.1 u2.2 av ev wi mn tp tc sc nf fd me mp xn mt wh tq ag an ig)), ((q 32), aI g 160 sk), ((q 33), aI g 160 lo), ((q 47), aI g 128 nw)] := hD.sub [2, 0, 3, 1] (by decide) rfl
  obtain ⟨hp2_0, hp2_1, hp2_2⟩ := hr1
  refine lv_aload_n hx hb d_Mod_fetch_6 rfl (lv_at hl 0 rfl) ?_
  refine va_get (D := g.1) (ci := 10) (v := .int u2.1) (C := R_Mod) (T := F_Mod) (N := 61) hx hb hts in_Mod hown hK hP 0 rfl rfl 8 (by decide) (hts _ wd_1258) (fun _ h9 => h9) rfl d_Mod_fetch_7 ?_
  refine lv_if_ne (tgt := 33) hx hb d_Mod_fetch_10 (by decide) (fun h10 => ?_) (fun h10 => ?_)
  · refine lv_aload_n hx hb d_Mod_fetch_33 rfl (lv_at hl 0 rfl) ?_
    refine lv_iload_n hx hb d_Mod_fetch_34 rfl (lv_at hl 2 rfl) ?_
    refine tw_wv (wr := [((q 33), aI g 160 lo)]) (tw_runV (ws := [(h0, .inr (10, mob q rf n mm mb u2.1 u2.2 av ev wi mn tp tc sc nf fd me mp xn mt wh tq ag an ig)), ((q 32), aI g 160 sk), ((q 33), aI g 160 lo), ((q 47), aI g 128 nw)]) (wc := [(h0, .inr (10, mob q rf n mm mb u2.1 u2.2 av ev wi mn tp tc sc nf fd me mp xn mt wh tq ag an ig)), ((q 32), aI g 160 sk), ((q 47), aI g 128 nw)]) (As := [.int kd1]) (rest := []) E hB hK hZ (g_Mod_give l g H.size h0 q rf n mm mb av ev wi mn tp tc sc nf fd me mp xn mt wh ag an ig sk u2.1 u2.2 tq nw kd1 s1 hNW (by omega) (by omega) hsk (by omega) (fun _ => hkn)) mc_Mod_give mi_Mod_give me_Mod_give wd_1648 hP hD hS hA [0, 1, 3] rfl (by decide) 0 rfl rfl rfl rfl rfl (by decide) rfl hl.1 rfl (Nat.le_of_ble_eq_true rfl) (by decide) d_Mod_fetch_35) hP hD hS hA [0, 1, 3] [2] rfl rfl (by decide) (by decide) (fun u4 H locs hr3 hP hD hS => ?_)
    try dsimp only at hr3
    have hP : va_P g.1 classes [((q 33), aI g 160 lo), (h0, .inr (10, mob q rf n mm mb u4.1 u4.2.1 av ev wi mn tp tc sc nf fd me mp xn mt wh u4.2.2.1 ag an ig)), ((q 32), aI g 160 sk), ((q 47), aI g 128 u4.2.2.2)] H := hP
    have hD : va_D A [((q 33), aI g 160 lo), (h0, .inr (10, mob q rf n mm mb u4.1 u4.2.1 av ev wi mn tp tc sc nf fd me mp xn mt wh u4.2.2.1 ag an ig)), ((q 32), aI g 160 sk), ((q 47), aI g 128 u4.2.2.2)] := hD
    have hP : va_P g.1 classes [(h0, .inr (10, mob q rf n mm mb u4.1 u4.2.1 av ev wi mn tp tc sc nf fd me mp xn mt wh u4.2.2.1 ag an ig)), ((q 32), aI g 160 sk), ((q 33), aI g 160 lo), ((q 47), aI g 128 u4.2.2.2)] H := hP.sub [1, 2, 0, 3] rfl
    have hD : va_D A [(h0, .inr (10, mob q rf n mm mb u4.1 u4.2.1 av ev wi mn tp tc sc nf fd me mp xn mt wh u4.2.2.1 ag an ig)), ((q 32), aI g 160 sk), ((q 33), aI g 160 lo), ((q 47), aI g 128 u4.2.2.2)] := hD.sub [1, 2, 0, 3] (by decide) rfl
    obtain ⟨hp4_0, hp4_1, hp4_2⟩ := hr3
    exact tw_vret E hS (u4.1, u4.2.1, u4.2.2.1, u4.2.2.2) (⟨(fun h => absurd h (fun h => h10 (hp4_0 h))), (by first | omega | (dsimp only <;> omega)), hp4_2⟩) hP hD d_Mod_fetch_38
  · have hz5 := hp2_0 h10
    have hz6 := hp2_1 h10
    have hz7 := hp2_2 h10
    refine lv_aload_n hx hb d_Mod_fetch_13 rfl (lv_at hl 0 rfl) ?_
    refine va_get (D := g.1) (ci := 10) (v := .ref (q 47)) (C := R_Mod) (T := F_Mod) (N := 61) hx hb hts in_Mod hown hK hP 0 rfl rfl 47 (by decide) (hts _ wd_1297) (fun _ h9 => h9) rfl d_Mod_fetch_14 ?_
    refine lv_iload_n hx hb d_Mod_fetch_17 rfl (lv_at hl 1 rfl) ?_
    refine va_iald hx hb hK hP 3 0 rfl rfl (vp_in_nI (by omega) (by decide)) d_Mod_fetch_18 ?_
    refine tw_ri (e2 := nw lc) (by rw [nI_clamp (by omega)]) ?_
    refine lv_iload_n hx hb d_Mod_fetch_19 rfl (lv_at hl 2 rfl) ?_
    refine lv_icmp_eq (tgt := 33) hx hb d_Mod_fetch_20 (by decide) (fun h20 => ?_) (fun h20 => ?_)
    · refine lv_aload_n hx hb d_Mod_fetch_33 rfl (lv_at hl 0 rfl) ?_
      refine lv_iload_n hx hb d_Mod_fetch_34 rfl (lv_at hl 2 rfl) ?_
      refine tw_wv (wr := [((q 33), aI g 160 lo)]) (tw_runV (ws := [(h0, .inr (10, mob q rf n mm mb u2.1 u2.2 av ev wi mn tp tc sc nf fd me mp xn mt wh tq ag an ig)), ((q 32), aI g 160 sk), ((q 33), aI g 160 lo), ((q 47), aI g 128 nw)]) (wc := [(h0, .inr (10, mob q rf n mm mb u2.1 u2.2 av ev wi mn tp tc sc nf fd me mp xn mt wh tq ag an ig)), ((q 32), aI g 160 sk), ((q 47), aI g 128 nw)]) (As := [.int kd1]) (rest := []) E hB hK hZ (g_Mod_give l g H.size h0 q rf n mm mb av ev wi mn tp tc sc nf fd me mp xn mt wh ag an ig sk u2.1 u2.2 tq nw kd1 s1 hNW (by omega) (by omega) hsk (by omega) (fun _ => hkn)) mc_Mod_give mi_Mod_give me_Mod_give wd_1648 hP hD hS hA [0, 1, 3] rfl (by decide) 0 rfl rfl rfl rfl rfl (by decide) rfl hl.1 rfl (Nat.le_of_ble_eq_true rfl) (by decide) d_Mod_fetch_35) hP hD hS hA [0, 1, 3] [2] rfl rfl (by decide) (by decide) (fun u9 H locs hr8 hP hD hS => ?_)
      try dsimp only at hr8
      have hP : va_P g.1 classes [((q 33), aI g 160 lo), (h0, .inr (10, mob q rf n mm mb u9.1 u9.2.1 av ev wi mn tp tc sc nf fd me mp xn mt wh u9.2.2.1 ag an ig)), ((q 32), aI g 160 sk), ((q 47), aI g 128 u9.2.2.2)] H := hP
      have hD : va_D A [((q 33), aI g 160 lo), (h0, .inr (10, mob q rf n mm mb u9.1 u9.2.1 av ev wi mn tp tc sc nf fd me mp xn mt wh u9.2.2.1 ag an ig)), ((q 32), aI g 160 sk), ((q 47), aI g 128 u9.2.2.2)] := hD
      have hP : va_P g.1 classes [(h0, .inr (10, mob q rf n mm mb u9.1 u9.2.1 av ev wi mn tp tc sc nf fd me mp xn mt wh u9.2.2.1 ag an ig)), ((q 32), aI g 160 sk), ((q 33), aI g 160 lo), ((q 47), aI g 128 u9.2.2.2)] H := hP.sub [1, 2, 0, 3] rfl
      have hD : va_D A [(h0, .inr (10, mob q rf n mm mb u9.1 u9.2.1 av ev wi mn tp tc sc nf fd me mp xn mt wh u9.2.2.1 ag an ig)), ((q 32), aI g 160 sk), ((q 33), aI g 160 lo), ((q 47), aI g 128 u9.2.2.2)] := hD.sub [1, 2, 0, 3] (by decide) rfl
      obtain ⟨hp9_0, hp9_1, hp9_2⟩ := hr8
      exact tw_vret E hS (u9.1, u9.2.1, u9.2.2.1, u9.2.2.2) (⟨(fun _ => hz5), (by first | omega | (dsimp only <;> omega)), hp9_2⟩) hP hD d_Mod_fetch_38
    · refine lv_aload_n hx hb d_Mod_fetch_23 rfl (lv_at hl 0 rfl) ?_
      refine lv_bipush (v := 23) hx hb d_Mod_fetch_24 (by decide) ?_
      refine lv_aload_n hx hb d_Mod_fetch_26 rfl (lv_at hl 0 rfl) ?_
      refine va_get (D := g.1) (ci := 10) (v := .int (nI wh)) (C := R_Mod) (T := F_Mod) (N := 61) hx hb hts in_Mod hown hK hP 0 rfl rfl 45 (by decide) (hts _ wd_1295) (fun _ h9 => h9) rfl d_Mod_fetch_27 ?_
      refine tw_wv (wr := [((q 32), aI g 160 sk), ((q 33), aI g 160 lo), ((q 47), aI g 128 nw)]) (tw_runV (ws := [(h0, .inr (10, mob q rf n mm mb u2.1 u2.2 av ev wi mn tp tc sc nf fd me mp xn mt wh tq ag an ig)), ((q 32), aI g 160 sk), ((q 33), aI g 160 lo), ((q 47), aI g 128 nw)]) (wc := [(h0, .inr (10, mob q rf n mm mb u2.1 u2.2 av ev wi mn tp tc sc nf fd me mp xn mt wh tq ag an ig))]) (As := [.int 23, .int (nI wh)]) (rest := []) E hB hK hZ (g_Mod_fail l g H.size h0 q rf n mm mb av ev wi mn tp tc sc nf fd me mp xn mt wh tq ag an ig u2.1 u2.2 23 (nI wh) (by decide)) mc_Mod_fail mi_Mod_fail me_Mod_fail wd_1478 hP hD hS hA [0] rfl (by decide) 0 rfl rfl rfl rfl rfl (by decide) rfl hl.1 rfl (Nat.le_of_ble_eq_true rfl) (by decide) d_Mod_fetch_30) hP hD hS hA [0] [1, 2, 3] rfl rfl (by decide) (by decide) (fun u11 H locs hr10 hP hD hS => ?_)
      try dsimp only at hr10
      have hP : va_P g.1 classes [((q 32), aI g 160 sk), ((q 33), aI g 160 lo), ((q 47), aI g 128 nw), (h0, .inr (10, mob q rf n mm mb u11.1 u11.2 av ev wi mn tp tc sc nf fd me mp xn mt wh tq ag an ig))] H := hP
      have hD : va_D A [((q 32), aI g 160 sk), ((q 33), aI g 160 lo), ((q 47), aI g 128 nw), (h0, .inr (10, mob q rf n mm mb u11.1 u11.2 av ev wi mn tp tc sc nf fd me mp xn mt wh tq ag an ig))] := hD
      have hP : va_P g.1 classes [(h0, .inr (10, mob q rf n mm mb u11.1 u11.2 av ev wi mn tp tc sc nf fd me mp xn mt wh tq ag an ig)), ((q 32), aI g 160 sk), ((q 33), aI g 160 lo), ((q 47), aI g 128 nw)] H := hP.sub [3, 0, 1, 2] rfl
      have hD : va_D A [(h0, .inr (10, mob q rf n mm mb u11.1 u11.2 av ev wi mn tp tc sc nf fd me mp xn mt wh tq ag an ig)), ((q 32), aI g 160 sk), ((q 33), aI g 160 lo), ((q 47), aI g 128 nw)] := hD.sub [3, 0, 1, 2] (by decide) rfl
      have hp11_0 := hr10
      refine lv_aload_n hx hb d_Mod_fetch_33 rfl (lv_at hl 0 rfl) ?_
      refine lv_iload_n hx hb d_Mod_fetch_34 rfl (lv_at hl 2 rfl) ?_
      refine tw_wv (wr := [((q 33), aI g 160 lo)]) (tw_runV (ws := [(h0, .inr (10, mob q rf n mm mb u11.1 u11.2 av ev wi mn tp tc sc nf fd me mp xn mt wh tq ag an ig)), ((q 32), aI g 160 sk), ((q 33), aI g 160 lo), ((q 47), aI g 128 nw)]) (wc := [(h0, .inr (10, mob q rf n mm mb u11.1 u11.2 av ev wi mn tp tc sc nf fd me mp xn mt wh tq ag an ig)), ((q 32), aI g 160 sk), ((q 47), aI g 128 nw)]) (As := [.int kd1]) (rest := []) E hB hK hZ (g_Mod_give l g H.size h0 q rf n mm mb av ev wi mn tp tc sc nf fd me mp xn mt wh ag an ig sk u11.1 u11.2 tq nw kd1 s1 hNW (by omega) (by omega) hsk (by omega) (fun _ => hkn)) mc_Mod_give mi_Mod_give me_Mod_give wd_1648 hP hD hS hA [0, 1, 3] rfl (by decide) 0 rfl rfl rfl rfl rfl (by decide) rfl hl.1 rfl (Nat.le_of_ble_eq_true rfl) (by decide) d_Mod_fetch_35) hP hD hS hA [0, 1, 3] [2] rfl rfl (by decide) (by decide) (fun u13 H locs hr12 hP hD hS => ?_)
      try dsimp only at hr12
      have hP : va_P g.1 classes [((q 33), aI g 160 lo), (h0, .inr (10, mob q rf n mm mb u13.1 u13.2.1 av ev wi mn tp tc sc nf fd me mp xn mt wh u13.2.2.1 ag an ig)), ((q 32), aI g 160 sk), ((q 47), aI g 128 u13.2.2.2)] H := hP
      have hD : va_D A [((q 33), aI g 160 lo), (h0, .inr (10, mob q rf n mm mb u13.1 u13.2.1 av ev wi mn tp tc sc nf fd me mp xn mt wh u13.2.2.1 ag an ig)), ((q 32), aI g 160 sk), ((q 47), aI g 128 u13.2.2.2)] := hD
      have hP : va_P g.1 classes [(h0, .inr (10, mob q rf n mm mb u13.1 u13.2.1 av ev wi mn tp tc sc nf fd me mp xn mt wh u13.2.2.1 ag an ig)), ((q 32), aI g 160 sk), ((q 33), aI g 160 lo), ((q 47), aI g 128 u13.2.2.2)] H := hP.sub [1, 2, 0, 3] rfl
      have hD : va_D A [(h0, .inr (10, mob q rf n mm mb u13.1 u13.2.1 av ev wi mn tp tc sc nf fd me mp xn mt wh u13.2.2.1 ag an ig)), ((q 32), aI g 160 sk), ((q 33), aI g 160 lo), ((q 47), aI g 128 u13.2.2.2)] := hD.sub [1, 2, 0, 3] (by decide) rfl
      obtain ⟨hp13_0, hp13_1, hp13_2⟩ := hr12
      exact tw_vret E hS (u13.1, u13.2.1, u13.2.2.1, u13.2.2.2) (⟨(fun h => absurd h (fun h => hp11_0 (hp13_0 h))), (by first | omega | (dsimp only <;> omega)), hp13_2⟩) hP hD d_Mod_fetch_38
set_option maxHeartbeats 4000000 in
set_option maxRecDepth 100000 in
theorem g_Mod_spoil (l : Launch) (g : tw_G) (sz : Nat) (h0 : Nat) (q : Nat → Nat) (rf : Int32) (n : Nat) (mm : Int32) (mb : Int32) (fa : Int32) (fp : Int32) (av : Nat) (ev : Nat) (wi : Int32) (mn : Nat) (tp : Int32) (tc : Int32) (sc : Int32) (nf : Nat) (fd : Nat) (me : Nat) (mp : Int32) (xn : Nat) (mt : Nat) (wh : Nat) (tq : Nat) (ag : Nat) (an : Int32) (ig : Int32) (nw : Nat → Int32) (lc : Nat) (hNW : NOW nw) (hl64 : lc < 64) : Met l y_Mod_spoil [.code y_Mod_spoil b_Mod_spoil 2 none] ({ frames := 0, cells := 0, slots := 0, locals := 0 }) (tw_P g [.ref h0, .int (nI lc)] [(h0, .inr (10, mob q rf n mm mb fa fp av ev wi mn tp tc sc nf fd me mp xn mt wh tq ag an ig)), ((q 47), aI g 128 nw)] sz) (tw_Qv g (fun (u : (Nat → Int32)) => (NOW u)) (fun u : (Nat → Int32) => [(h0, .inr (10, mob q rf n mm mb fa fp av ev wi mn tp tc sc nf fd me mp xn mt wh tq ag an ig)), ((q 47), aI g 128 u)]) (va_A [(h0, .inr (10, mob q rf n mm mb fa fp av ev wi mn tp tc sc nf fd me mp xn mt wh tq ag an ig)), ((q 47), aI g 128 nw)] sz)) 0 0 (va_A [(h0, .inr (10, mob q rf n mm mb fa fp av ev wi mn tp tc sc nf fd me mp xn mt wh tq ag an ig)), ((q 47), aI g 128 nw)] sz) := by
  refine tw_metW (l := l) (g := g) (y := y_Mod_spoil) (cc := b_Mod_spoil) (maxL := 2) (ret := none) (rm := { frames := 0, cells := 0, slots := 0, locals := 0 }) (mc := 0) (ms := 0) (av := [.ref h0, .int (nI lc)]) (ws := [(h0, .inr (10, mob q rf n mm mb fa fp av ev wi mn tp tc sc nf fd me mp xn mt wh tq ag an ig)), ((q 47), aI g 128 nw)]) (sz := sz) (Qc := fun A => (tw_Qv g (fun (u : (Nat → Int32)) => (NOW u)) (fun u : (Nat → Int32) => [(h0, .inr (10, mob q rf n mm mb fa fp av ev wi mn tp tc sc nf fd me mp xn mt wh tq ag an ig)), ((q 47), aI g 128 u)]) A)) (by decide) (Nat.le_of_ble_eq_true rfl) ?_
  intro p e s m below meth c ls H A E hB hK hZ hP hD hS hA hl
  obtain ⟨hx, hb, hml, hr, hown, hts, hlocks, hin⟩ := id E
  have hl : lv_has ls 2 [(0, .ref h0), (1, .int (nI lc))] := hl
  refine lv_aload_n hx hb d_Mod_spoil_0 rfl (lv_at hl 0 rfl) ?_
  refine va_get (D := g.1) (ci := 10) (v := .ref (q 47)) (C := R_Mod) (T := F_Mod) (N := 61) hx hb hts in_Mod hown hK hP 0 rfl rfl 47 (by decide) (hts _ wd_1297) (fun _ h9 => h9) rfl d_Mod_spoil_1 ?_
  refine lv_iload_n hx hb d_Mod_spoil_4 rfl (lv_at hl 1 rfl) ?_
  refine va_iald hx hb hK hP 1 0 rfl rfl (vp_in_nI (by omega) (by decide)) d_Mod_spoil_5 ?_
  refine tw_ri (e2 := nw lc) (by rw [nI_clamp (by omega)]) ?_
  refine lv_iconst (v := 2) hx hb d_Mod_spoil_6 (by decide) ?_
  refine lv_icmp_ne (tgt := 22) hx hb d_Mod_spoil_7 (by decide) (fun h7 => ?_) (fun h7 => ?_)
  · refine lv_aload_n hx hb d_Mod_spoil_22 rfl (lv_at hl 0 rfl) ?_
    refine va_get (D := g.1) (ci := 10) (v := .ref (q 47)) (C := R_Mod) (T := F_Mod) (N := 61) hx hb hts in_Mod hown hK hP 0 rfl rfl 47 (by decide) (hts _ wd_1297) (fun _ h9 => h9) rfl d_Mod_spoil_23 ?_
    refine lv_iload_n hx hb d_Mod_spoil_26 rfl (lv_at hl 1 rfl) ?_
    refine va_iald hx hb hK hP 1 0 rfl rfl (vp_in_nI (by omega) (by decide)) d_Mod_spoil_27 ?_
    refine tw_ri (e2 := nw lc) (by rw [nI_clamp (by omega)]) ?_
    refine lv_iconst (v := 3) hx hb d_Mod_spoil_28 (by decide) ?_
    refine lv_icmp_ne (tgt := 41) hx hb d_Mod_spoil_29 (by decide) (fun h29 => ?_) (fun h29 => ?_)
    · exact tw_vret E hS nw hNW hP hD d_Mod_spoil_41
    · have hl0 := nw_l0 hNW h29
      refine lv_aload_n hx hb d_Mod_spoil_32 rfl (lv_at hl 0 rfl) ?_
      refine va_get (D := g.1) (ci := 10) (v := .ref (q 47)) (C := R_Mod) (T := F_Mod) (N := 61) hx hb hts in_Mod hown hK hP 0 rfl rfl 47 (by decide) (hts _ wd_1297) (fun _ h9 => h9) rfl d_Mod_spoil_33 ?_
      refine lv_iload_n hx hb d_Mod_spoil_36 rfl (lv_at hl 1 rfl) ?_
      refine lv_iconst (v := 1) hx hb d_Mod_spoil_37 (by decide) ?_
      refine lv_isub hx hb d_Mod_spoil_38 ?_
      refine tw_ri (e2 := nI (lc - 1)) (pk_sub (b := 1) (by omega)) ?_
      refine lv_iconst (v := 0) hx hb d_Mod_spoil_39 (by decide) ?_
      refine va_iast hx hb hK hP hD hS 1 0 rfl rfl (vp_in_nI (by omega) (by decide)) d_Mod_spoil_40 (fun H locs hP hD hS => ?_)
      have hP : va_P g.1 classes [(h0, .inr (10, mob q rf n mm mb fa fp av ev wi mn tp tc sc nf fd me mp xn mt wh tq ag an ig)), ((q 47), aI g 128 (upd nw (nI (lc - 1)).toNatClampNeg 0))] H := hP
      have hD : va_D A [(h0, .inr (10, mob q rf n mm mb fa fp av ev wi mn tp tc sc nf fd me mp xn mt wh tq ag an ig)), ((q 47), aI g 128 (upd nw (nI (lc - 1)).toNatClampNeg 0))] := hD
      have e9 : upd nw (nI (lc - 1)).toNatClampNeg 0 = upd nw (lc - 1) 0 := by rw [nI_clamp (by omega)]
      rw [e9] at hP hD
      exact tw_vret E hS (upd nw (lc - 1) 0) (hNW.put (by decide)) hP hD d_Mod_spoil_41
  · refine lv_aload_n hx hb d_Mod_spoil_10 rfl (lv_at hl 0 rfl) ?_
    refine va_get (D := g.1) (ci := 10) (v := .ref (q 47)) (C := R_Mod) (T := F_Mod) (N := 61) hx hb hts in_Mod hown hK hP 0 rfl rfl 47 (by decide) (hts _ wd_1297) (fun _ h9 => h9) rfl d_Mod_spoil_11 ?_
    refine lv_iload_n hx hb d_Mod_spoil_14 rfl (lv_at hl 1 rfl) ?_
    refine lv_iconst (v := 1) hx hb d_Mod_spoil_15 (by decide) ?_
    refine lv_iadd hx hb d_Mod_spoil_16 ?_
    refine tw_ri (e2 := nI (lc + 1)) (nI_add lc 1) ?_
    refine lv_iconst (v := 0) hx hb d_Mod_spoil_17 (by decide) ?_
    refine va_iast hx hb hK hP hD hS 1 0 rfl rfl (vp_in_nI (by omega) (by decide)) d_Mod_spoil_18 (fun H locs hP hD hS => ?_)
    have hP : va_P g.1 classes [(h0, .inr (10, mob q rf n mm mb fa fp av ev wi mn tp tc sc nf fd me mp xn mt wh tq ag an ig)), ((q 47), aI g 128 (upd nw (nI (lc + 1)).toNatClampNeg 0))] H := hP
    have hD : va_D A [(h0, .inr (10, mob q rf n mm mb fa fp av ev wi mn tp tc sc nf fd me mp xn mt wh tq ag an ig)), ((q 47), aI g 128 (upd nw (nI (lc + 1)).toNatClampNeg 0))] := hD
    have e9 : upd nw (nI (lc + 1)).toNatClampNeg 0 = upd nw (lc + 1) 0 := by rw [nI_clamp (by omega)]
    rw [e9] at hP hD
    refine lv_goto (tgt := 41) hx hb d_Mod_spoil_19 (by decide) ?_
    exact tw_vret E hS (upd nw (lc + 1) 0) (hNW.put (by decide)) hP hD d_Mod_spoil_41
set_option maxHeartbeats 4000000 in
set_option maxRecDepth 100000 in
theorem g_Mod_store (l : Launch) (g : tw_G) (sz : Nat) (h0 : Nat) (q : Nat → Nat) (rf : Int32) (n : Nat) (mm : Int32) (mb : Int32) (av : Nat) (ev : Nat) (wi : Int32) (mn : Nat) (tp : Int32) (tc : Int32) (sc : Int32) (nf : Nat) (fd : Nat) (me : Nat) (mp : Int32) (xn : Nat) (mt : Nat) (wh : Nat) (ag : Nat) (an : Int32) (ig : Int32) (lo : Nat → Int32) (fa : Int32) (fp : Int32) (tq : Nat) (nw : Nat → Int32) (lc : Nat) (kd1 : Int32) (o1 : Nat) (hNW : NOW nw) (htq : tq ≤ 64) (hmt : mt < 160) (hlo : lo mt = nI o1) (ho64 : o1 ≤ 64) (hlc : lc < 65536) (hkn : ¬ kd1 = 3) : Met l y_Mod_store [.code y_Mod_store b_Mod_store 3 none] ({ frames := 2, cells := 0, slots := 0, locals := 44 }) (tw_P g [.ref h0, .int (nI lc), .int kd1] [(h0, .inr (10, mob q rf n mm mb fa fp av ev wi mn tp tc sc nf fd me mp xn mt wh tq ag an ig)), ((q 33), aI g 160 lo), ((q 47), aI g 128 nw)] sz) (tw_Qv g (fun (u : Int32 × Int32 × Nat × (Nat → Int32)) => (u.1 = 0 → fa = 0) ∧ (u.2.2.1 ≤ 64) ∧ (NOW u.2.2.2)) (fun u : Int32 × Int32 × Nat × (Nat → Int32) => [(h0, .inr (10, mob q rf n mm mb u.1 u.2.1 av ev wi mn tp tc sc nf fd me mp xn mt wh u.2.2.1 ag an ig)), ((q 33), aI g 160 lo), ((q 47), aI g 128 u.2.2.2)]) (va_A [(h0, .inr (10, mob q rf n mm mb fa fp av ev wi mn tp tc sc nf fd me mp xn mt wh tq ag an ig)), ((q 33), aI g 160 lo), ((q 47), aI g 128 nw)] sz)) 0 0 (va_A [(h0, .inr (10, mob q rf n mm mb fa fp av ev wi mn tp tc sc nf fd me mp xn mt wh tq ag an ig)), ((q 33), aI g 160 lo), ((q 47), aI g 128 nw)] sz) := by
  refine tw_metW (l := l) (g := g) (y := y_Mod_store) (cc := b_Mod_store) (maxL := 3) (ret := none) (rm := { frames := 2, cells := 0, slots := 0, locals := 44 }) (mc := 0) (ms := 0) (av := [.ref h0, .int (nI lc), .int kd1]) (ws := [(h0, .inr (10, mob q rf n mm mb fa fp av ev wi mn tp tc sc nf fd me mp xn mt wh tq ag an ig)), ((q 33), aI g 160 lo), ((q 47), aI g 128 nw)]) (sz := sz) (Qc := fun A => (tw_Qv g (fun (u : Int32 × Int32 × Nat × (Nat → Int32)) => (u.1 = 0 → fa = 0) ∧ (u.2.2.1 ≤ 64) ∧ (NOW u.2.2.2)) (fun u : Int32 × Int32 × Nat × (Nat → Int32) => [(h0, .inr (10, mob q rf n mm mb u.1 u.2.1 av ev wi mn tp tc sc nf fd me mp xn mt wh u.2.2.1 ag an ig)), ((q 33), aI g 160 lo), ((q 47), aI g 128 u.2.2.2)]) A)) (by decide) (Nat.le_of_ble_eq_true rfl) ?_
  intro p e s m below meth c ls H A E hB hK hZ hP hD hS hA hl
  obtain ⟨hx, hb, hml, hr, hown, hts, hlocks, hin⟩ := id E
  have hl : lv_has ls 3 [(0, .ref h0), (1, .int (nI lc)), (2, .int kd1)] := hl
  refine lv_aload_n hx hb d_Mod_store_0 rfl (lv_at hl 0 rfl) ?_
  refine lv_iload_n hx hb d_Mod_store_1 rfl (lv_at hl 1 rfl) ?_
  refine lv_iload_n hx hb d_Mod_store_2 rfl (lv_at hl 2 rfl) ?_
  refine tw_wv (wr := [((q 47), aI g 128 nw)]) (tw_runV (ws := [(h0, .inr (10, mob q rf n mm mb fa fp av ev wi mn tp tc sc nf fd me mp xn mt wh tq ag an ig)), ((q 33), aI g 160 lo), ((q 47), aI g 128 nw)]) (wc := [(h0, .inr (10, mob q rf n mm mb fa fp av ev wi mn tp tc sc nf fd me mp xn mt wh tq ag an ig)), ((q 33), aI g 160 lo)]) (As := [.int (nI lc), .int kd1]) (rest := []) E hB hK hZ (g_Mod_needLocal l g H.size h0 q rf n mm mb av ev wi mn tp tc sc nf fd me mp xn mt wh tq ag an ig lo fa fp lc kd1 o1 (by omega) hlo (by omega) (by omega)) mc_Mod_needLocal mi_Mod_needLocal me_Mod_needLocal wd_1660 hP hD hS hA [0, 1] rfl (by decide) 0 rfl rfl rfl rfl rfl (by decide) rfl hl.1 rfl (Nat.le_of_ble_eq_true rfl) (by decide) d_Mod_store_3) hP hD hS hA [0, 1] [2] rfl rfl (by decide) (by decide) (fun u2 H locs hr1 hP hD hS => ?_)
  try dsimp only at hr1
  have hP : va_P g.1 classes [((q 47), aI g 128 nw), (h0, .inr (10, mob q rf n mm mb u2.1 u2.2 av ev wi mn tp tc sc nf fd me mp xn mt wh tq ag an ig)), ((q 33), aI g 160 lo)] H := hP
  have hD : va_D A [((q 47), aI g 128 nw), (h0, .inr (10, mob q rf n mm mb u2.1 u2.2 av ev wi mn tp tc sc nf fd me mp xn mt wh tq ag an ig)), ((q 33), aI g 160 lo)] := hD
  have hP : va_P g.1 classes [(h0, .inr (10, mob q rf n mm mb u2.1 u2.2 av ev wi mn tp tc sc nf fd me mp xn mt wh tq ag an ig)), ((q 33), aI g 160 lo), ((q 47), aI g 128 nw)] H := hP.sub [1, 2, 0] rfl
  have hD : va_D A [(h0, .inr (10, mob q rf n mm mb u2.1 u2.2 av ev wi mn tp tc sc nf fd me mp xn mt wh tq ag an ig)), ((q 33), aI g 160 lo), ((q 47), aI g 128 nw)] := hD.sub [1, 2, 0] (by decide) rfl
  obtain ⟨hp2_0, hp2_1, hp2_2⟩ := hr1
  refine lv_aload_n hx hb d_Mod_store_6 rfl (lv_at hl 0 rfl) ?_
  refine lv_iload_n hx hb d_Mod_store_7 rfl (lv_at hl 2 rfl) ?_
  refine tw_wv (wr := [((q 33), aI g 160 lo)]) (tw_runV (ws := [(h0, .inr (10, mob q rf n mm mb u2.1 u2.2 av ev wi mn tp tc sc nf fd me mp xn mt wh tq ag an ig)), ((q 33), aI g 160 lo), ((q 47), aI g 128 nw)]) (wc := [(h0, .inr (10, mob q rf n mm mb u2.1 u2.2 av ev wi mn tp tc sc nf fd me mp xn mt wh tq ag an ig)), ((q 47), aI g 128 nw)]) (As := [.int kd1]) (rest := []) E hB hK hZ (g_Mod_take l g H.size h0 q rf n mm mb av ev wi mn tp tc sc nf fd me mp xn mt wh ag an ig nw u2.1 u2.2 tq kd1 hNW (by omega)) mc_Mod_take mi_Mod_take me_Mod_take wd_1668 hP hD hS hA [0, 2] rfl (by decide) 0 rfl rfl rfl rfl rfl (by decide) rfl hl.1 rfl (Nat.le_of_ble_eq_true rfl) (by decide) d_Mod_store_8) hP hD hS hA [0, 2] [1] rfl rfl (by decide) (by decide) (fun u4 H locs hr3 hP hD hS => ?_)
  try dsimp only at hr3
  have hP : va_P g.1 classes [((q 33), aI g 160 lo), (h0, .inr (10, mob q rf n mm mb u4.1 u4.2.1 av ev wi mn tp tc sc nf fd me mp xn mt wh u4.2.2 ag an ig)), ((q 47), aI g 128 nw)] H := hP
  have hD : va_D A [((q 33), aI g 160 lo), (h0, .inr (10, mob q rf n mm mb u4.1 u4.2.1 av ev wi mn tp tc sc nf fd me mp xn mt wh u4.2.2 ag an ig)), ((q 47), aI g 128 nw)] := hD
  have hP : va_P g.1 classes [(h0, .inr (10, mob q rf n mm mb u4.1 u4.2.1 av ev wi mn tp tc sc nf fd me mp xn mt wh u4.2.2 ag an ig)), ((q 33), aI g 160 lo), ((q 47), aI g 128 nw)] H := hP.sub [1, 0, 2] rfl
  have hD : va_D A [(h0, .inr (10, mob q rf n mm mb u4.1 u4.2.1 av ev wi mn tp tc sc nf fd me mp xn mt wh u4.2.2 ag an ig)), ((q 33), aI g 160 lo), ((q 47), aI g 128 nw)] := hD.sub [1, 0, 2] (by decide) rfl
  obtain ⟨hp4_0, hp4_1, hp4_2⟩ := hr3
  refine lv_aload_n hx hb d_Mod_store_11 rfl (lv_at hl 0 rfl) ?_
  refine va_get (D := g.1) (ci := 10) (v := .int u4.1) (C := R_Mod) (T := F_Mod) (N := 61) hx hb hts in_Mod hown hK hP 0 rfl rfl 8 (by decide) (hts _ wd_1258) (fun _ h9 => h9) rfl d_Mod_store_12 ?_
  refine lv_if_eq (tgt := 19) hx hb d_Mod_store_15 (by decide) (fun h15 => ?_) (fun h15 => ?_)
  · have hz5 := hp4_0 h15
    have hz6 := hp2_0 hz5
    have hz7 := hp2_1 hz5
    have hz8 := hp2_2 hz5
    refine lv_aload_n hx hb d_Mod_store_19 rfl (lv_at hl 0 rfl) ?_
    refine lv_iload_n hx hb d_Mod_store_20 rfl (lv_at hl 1 rfl) ?_
    refine tw_wv (wr := [((q 33), aI g 160 lo)]) (tw_runV (ws := [(h0, .inr (10, mob q rf n mm mb u4.1 u4.2.1 av ev wi mn tp tc sc nf fd me mp xn mt wh u4.2.2 ag an ig)), ((q 33), aI g 160 lo), ((q 47), aI g 128 nw)]) (wc := [(h0, .inr (10, mob q rf n mm mb u4.1 u4.2.1 av ev wi mn tp tc sc nf fd me mp xn mt wh u4.2.2 ag an ig)), ((q 47), aI g 128 nw)]) (As := [.int (nI lc)]) (rest := []) E hB hK hZ (g_Mod_spoil l g H.size h0 q rf n mm mb u4.1 u4.2.1 av ev wi mn tp tc sc nf fd me mp xn mt wh u4.2.2 ag an ig nw lc hNW (by omega)) mc_Mod_spoil mi_Mod_spoil me_Mod_spoil wd_1672 hP hD hS hA [0, 2] rfl (by decide) 0 rfl rfl rfl rfl rfl (by decide) rfl hl.1 rfl (Nat.le_of_ble_eq_true rfl) (by decide) d_Mod_store_21) hP hD hS hA [0, 2] [1] rfl rfl (by decide) (by decide) (fun u10 H locs hr9 hP hD hS => ?_)
    try dsimp only at hr9
    have hP : va_P g.1 classes [((q 33), aI g 160 lo), (h0, .inr (10, mob q rf n mm mb u4.1 u4.2.1 av ev wi mn tp tc sc nf fd me mp xn mt wh u4.2.2 ag an ig)), ((q 47), aI g 128 u10)] H := hP
    have hD : va_D A [((q 33), aI g 160 lo), (h0, .inr (10, mob q rf n mm mb u4.1 u4.2.1 av ev wi mn tp tc sc nf fd me mp xn mt wh u4.2.2 ag an ig)), ((q 47), aI g 128 u10)] := hD
    have hP : va_P g.1 classes [(h0, .inr (10, mob q rf n mm mb u4.1 u4.2.1 av ev wi mn tp tc sc nf fd me mp xn mt wh u4.2.2 ag an ig)), ((q 33), aI g 160 lo), ((q 47), aI g 128 u10)] H := hP.sub [1, 0, 2] rfl
    have hD : va_D A [(h0, .inr (10, mob q rf n mm mb u4.1 u4.2.1 av ev wi mn tp tc sc nf fd me mp xn mt wh u4.2.2 ag an ig)), ((q 33), aI g 160 lo), ((q 47), aI g 128 u10)] := hD.sub [1, 0, 2] (by decide) rfl
    have hp10_0 := hr9
    refine lv_aload_n hx hb d_Mod_store_24 rfl (lv_at hl 0 rfl) ?_
    refine va_get (D := g.1) (ci := 10) (v := .ref (q 47)) (C := R_Mod) (T := F_Mod) (N := 61) hx hb hts in_Mod hown hK hP 0 rfl rfl 47 (by decide) (hts _ wd_1297) (fun _ h9 => h9) rfl d_Mod_store_25 ?_
    refine lv_iload_n hx hb d_Mod_store_28 rfl (lv_at hl 1 rfl) ?_
    refine lv_iload_n hx hb d_Mod_store_29 rfl (lv_at hl 2 rfl) ?_
    refine va_iast hx hb hK hP hD hS 2 0 rfl rfl (vp_in_nI (by omega) (by decide)) d_Mod_store_30 (fun H locs hP hD hS => ?_)
    have hP : va_P g.1 classes [(h0, .inr (10, mob q rf n mm mb u4.1 u4.2.1 av ev wi mn tp tc sc nf fd me mp xn mt wh u4.2.2 ag an ig)), ((q 33), aI g 160 lo), ((q 47), aI g 128 (upd u10 (nI lc).toNatClampNeg kd1))] H := hP
    have hD : va_D A [(h0, .inr (10, mob q rf n mm mb u4.1 u4.2.1 av ev wi mn tp tc sc nf fd me mp xn mt wh u4.2.2 ag an ig)), ((q 33), aI g 160 lo), ((q 47), aI g 128 (upd u10 (nI lc).toNatClampNeg kd1))] := hD
    have e9 : upd u10 (nI lc).toNatClampNeg kd1 = upd u10 lc kd1 := by rw [nI_clamp (by omega)]
    rw [e9] at hP hD
    refine lv_iload_n hx hb d_Mod_store_31 rfl (lv_at hl 2 rfl) ?_
    refine lv_iconst (v := 2) hx hb d_Mod_store_32 (by decide) ?_
    refine lv_icmp_ne (tgt := 66) hx hb d_Mod_store_33 (by decide) (fun h33 => ?_) (fun h33 => ?_)
    · exact tw_vret E hS (u4.1, u4.2.1, u4.2.2, upd u10 lc kd1) (⟨(fun _ => hz6), (by first | omega | (dsimp only <;> omega)), (hp10_0.put hkn)⟩) hP hD d_Mod_store_66
    · have hl2 := hz8 h33
      refine lv_aload_n hx hb d_Mod_store_36 rfl (lv_at hl 0 rfl) ?_
      refine va_get (D := g.1) (ci := 10) (v := .ref (q 47)) (C := R_Mod) (T := F_Mod) (N := 61) hx hb hts in_Mod hown hK hP 0 rfl rfl 47 (by decide) (hts _ wd_1297) (fun _ h9 => h9) rfl d_Mod_store_37 ?_
      refine lv_iload_n hx hb d_Mod_store_40 rfl (lv_at hl 1 rfl) ?_
      refine lv_iconst (v := 1) hx hb d_Mod_store_41 (by decide) ?_
      refine lv_iadd hx hb d_Mod_store_42 ?_
      refine tw_ri (e2 := nI (lc + 1)) (nI_add lc 1) ?_
      refine va_iald hx hb hK hP 2 0 rfl rfl (vp_in_nI (by omega) (by decide)) d_Mod_store_43 ?_
      obtain ⟨x11, ex11⟩ : ∃ z : Int32, (upd u10 lc kd1) ((nI (lc + 1)).toNatClampNeg) = z := ⟨_, rfl⟩
      refine tw_ri (e2 := x11) ex11 ?_
      refine lv_iconst (v := 2) hx hb d_Mod_store_44 (by decide) ?_
      refine lv_icmp_ne (tgt := 57) hx hb d_Mod_store_45 (by decide) (fun h45 => ?_) (fun h45 => ?_)
      · refine lv_aload_n hx hb d_Mod_store_57 rfl (lv_at hl 0 rfl) ?_
        refine va_get (D := g.1) (ci := 10) (v := .ref (q 47)) (C := R_Mod) (T := F_Mod) (N := 61) hx hb hts in_Mod hown hK hP 0 rfl rfl 47 (by decide) (hts _ wd_1297) (fun _ h9 => h9) rfl d_Mod_store_58 ?_
        refine lv_iload_n hx hb d_Mod_store_61 rfl (lv_at hl 1 rfl) ?_
        refine lv_iconst (v := 1) hx hb d_Mod_store_62 (by decide) ?_
        refine lv_iadd hx hb d_Mod_store_63 ?_
        refine tw_ri (e2 := nI (lc + 1)) (nI_add lc 1) ?_
        refine lv_iconst (v := 3) hx hb d_Mod_store_64 (by decide) ?_
        refine va_iast hx hb hK hP hD hS 2 0 rfl rfl (vp_in_nI (by omega) (by decide)) d_Mod_store_65 (fun H locs hP hD hS => ?_)
        have hP : va_P g.1 classes [(h0, .inr (10, mob q rf n mm mb u4.1 u4.2.1 av ev wi mn tp tc sc nf fd me mp xn mt wh u4.2.2 ag an ig)), ((q 33), aI g 160 lo), ((q 47), aI g 128 (upd (upd u10 lc kd1) (nI (lc + 1)).toNatClampNeg 3))] H := hP
        have hD : va_D A [(h0, .inr (10, mob q rf n mm mb u4.1 u4.2.1 av ev wi mn tp tc sc nf fd me mp xn mt wh u4.2.2 ag an ig)), ((q 33), aI g 160 lo), ((q 47), aI g 128 (upd (upd u10 lc kd1) (nI (lc + 1)).toNatClampNeg 3))] := hD
        have e9 : upd (upd u10 lc kd1) (nI (lc + 1)).toNatClampNeg 3 = upd (upd u10 lc kd1) (lc + 1) 3 := by rw [nI_clamp (by omega)]
        rw [e9] at hP hD
        exact tw_vret E hS (u4.1, u4.2.1, u4.2.2, upd (upd u10 lc kd1) (lc + 1) 3) (⟨(fun _ => hz6), (by first | omega | (dsimp only <;> omega)), ((hp10_0.put hkn).put2 (by omega) (by omega))⟩) hP hD d_Mod_store_66
      · refine lv_aload_n hx hb d_Mod_store_48 rfl (lv_at hl 0 rfl) ?_
        refine va_get (D := g.1) (ci := 10) (v := .ref (q 47)) (C := R_Mod) (T := F_Mod) (N := 61) hx hb hts in_Mod hown hK hP 0 rfl rfl 47 (by decide) (hts _ wd_1297) (fun _ h9 => h9) rfl d_Mod_store_49 ?_
        refine lv_iload_n hx hb d_Mod_store_52 rfl (lv_at hl 1 rfl) ?_
        refine lv_iconst (v := 2) hx hb d_Mod_store_53 (by decide) ?_
        refine lv_iadd hx hb d_Mod_store_54 ?_
        refine tw_ri (e2 := nI (lc + 2)) (nI_add lc 2) ?_
        refine lv_iconst (v := 0) hx hb d_Mod_store_55 (by decide) ?_
        refine va_iast hx hb hK hP hD hS 2 0 rfl rfl (vp_in_nI (by omega) (by decide)) d_Mod_store_56 (fun H locs hP hD hS => ?_)
        have hP : va_P g.1 classes [(h0, .inr (10, mob q rf n mm mb u4.1 u4.2.1 av ev wi mn tp tc sc nf fd me mp xn mt wh u4.2.2 ag an ig)), ((q 33), aI g 160 lo), ((q 47), aI g 128 (upd (upd u10 lc kd1) (nI (lc + 2)).toNatClampNeg 0))] H := hP
        have hD : va_D A [(h0, .inr (10, mob q rf n mm mb u4.1 u4.2.1 av ev wi mn tp tc sc nf fd me mp xn mt wh u4.2.2 ag an ig)), ((q 33), aI g 160 lo), ((q 47), aI g 128 (upd (upd u10 lc kd1) (nI (lc + 2)).toNatClampNeg 0))] := hD
        have e9 : upd (upd u10 lc kd1) (nI (lc + 2)).toNatClampNeg 0 = upd (upd u10 lc kd1) (lc + 2) 0 := by rw [nI_clamp (by omega)]
        rw [e9] at hP hD
        refine lv_aload_n hx hb d_Mod_store_57 rfl (lv_at hl 0 rfl) ?_
        refine va_get (D := g.1) (ci := 10) (v := .ref (q 47)) (C := R_Mod) (T := F_Mod) (N := 61) hx hb hts in_Mod hown hK hP 0 rfl rfl 47 (by decide) (hts _ wd_1297) (fun _ h9 => h9) rfl d_Mod_store_58 ?_
        refine lv_iload_n hx hb d_Mod_store_61 rfl (lv_at hl 1 rfl) ?_
        refine lv_iconst (v := 1) hx hb d_Mod_store_62 (by decide) ?_
        refine lv_iadd hx hb d_Mod_store_63 ?_
        refine tw_ri (e2 := nI (lc + 1)) (nI_add lc 1) ?_
        refine lv_iconst (v := 3) hx hb d_Mod_store_64 (by decide) ?_
        refine va_iast hx hb hK hP hD hS 2 0 rfl rfl (vp_in_nI (by omega) (by decide)) d_Mod_store_65 (fun H locs hP hD hS => ?_)
        have hP : va_P g.1 classes [(h0, .inr (10, mob q rf n mm mb u4.1 u4.2.1 av ev wi mn tp tc sc nf fd me mp xn mt wh u4.2.2 ag an ig)), ((q 33), aI g 160 lo), ((q 47), aI g 128 (upd (upd (upd u10 lc kd1) (lc + 2) 0) (nI (lc + 1)).toNatClampNeg 3))] H := hP
        have hD : va_D A [(h0, .inr (10, mob q rf n mm mb u4.1 u4.2.1 av ev wi mn tp tc sc nf fd me mp xn mt wh u4.2.2 ag an ig)), ((q 33), aI g 160 lo), ((q 47), aI g 128 (upd (upd (upd u10 lc kd1) (lc + 2) 0) (nI (lc + 1)).toNatClampNeg 3))] := hD
        have e9 : upd (upd (upd u10 lc kd1) (lc + 2) 0) (nI (lc + 1)).toNatClampNeg 3 = upd (upd (upd u10 lc kd1) (lc + 2) 0) (lc + 1) 3 := by rw [nI_clamp (by omega)]
        rw [e9] at hP hD
        exact tw_vret E hS (u4.1, u4.2.1, u4.2.2, upd (upd (upd u10 lc kd1) (lc + 2) 0) (lc + 1) 3) (⟨(fun _ => hz6), (by first | omega | (dsimp only <;> omega)), (((hp10_0.put hkn).put (by decide)).put2 (by omega) (by omega))⟩) hP hD d_Mod_store_66
  · exact tw_vret E hS (u4.1, u4.2.1, u4.2.2, nw) (⟨(fun h => absurd h h15), (by first | omega | (dsimp only <;> omega)), hNW⟩) hP hD d_Mod_store_18
set_option maxHeartbeats 4000000 in
set_option maxRecDepth 100000 in
theorem g_Mod_refer (l : Launch) (g : tw_G) (sz : Nat) (h0 : Nat) (q : Nat → Nat) (rf : Int32) (n : Nat) (mm : Int32) (mb : Int32) (av : Nat) (ev : Nat) (wi : Int32) (mn : Nat) (tp : Int32) (tc : Int32) (sc : Int32) (nf : Nat) (fd : Nat) (me : Nat) (mp : Int32) (xn : Nat) (mt : Nat) (wh : Nat) (tq : Nat) (ag : Nat) (an : Int32) (ig : Int32) (fa : Int32) (fp : Int32) (z : Int32) : Met l y_Mod_refer [.code y_Mod_refer b_Mod_refer 2 none] ({ frames := 1, cells := 0, slots := 0, locals := 22 }) (tw_P g [.ref h0, .int z] [(h0, .inr (10, mob q rf n mm mb fa fp av ev wi mn tp tc sc nf fd me mp xn mt wh tq ag an ig))] sz) (tw_Qv g (fun (u : Int32 × Int32) => (u.1 = 0 → fa = 0) ∧ (u.1 = 0 → ¬ z = 0)) (fun u : Int32 × Int32 => [(h0, .inr (10, mob q rf n mm mb u.1 u.2 av ev wi mn tp tc sc nf fd me mp xn mt wh tq ag an ig))]) (va_A [(h0, .inr (10, mob q rf n mm mb fa fp av ev wi mn tp tc sc nf fd me mp xn mt wh tq ag an ig))] sz)) 0 0 (va_A [(h0, .inr (10, mob q rf n mm mb fa fp av ev wi mn tp tc sc nf fd me mp xn mt wh tq ag an ig))] sz) := by
  refine tw_metW (l := l) (g := g) (y := y_Mod_refer) (cc := b_Mod_refer) (maxL := 2) (ret := none) (rm := { frames := 1, cells := 0, slots := 0, locals := 22 }) (mc := 0) (ms := 0) (av := [.ref h0, .int z]) (ws := [(h0, .inr (10, mob q rf n mm mb fa fp av ev wi mn tp tc sc nf fd me mp xn mt wh tq ag an ig))]) (sz := sz) (Qc := fun A => (tw_Qv g (fun (u : Int32 × Int32) => (u.1 = 0 → fa = 0) ∧ (u.1 = 0 → ¬ z = 0)) (fun u : Int32 × Int32 => [(h0, .inr (10, mob q rf n mm mb u.1 u.2 av ev wi mn tp tc sc nf fd me mp xn mt wh tq ag an ig))]) A)) (by decide) (Nat.le_of_ble_eq_true rfl) ?_
  intro p e s m below meth c ls H A E hB hK hZ hP hD hS hA hl
  obtain ⟨hx, hb, hml, hr, hown, hts, hlocks, hin⟩ := id E
  have hl : lv_has ls 2 [(0, .ref h0), (1, .int z)] := hl
  refine lv_iload_n hx hb d_Mod_refer_0 rfl (lv_at hl 1 rfl) ?_
  refine lv_if_ne (tgt := 14) hx hb d_Mod_refer_1 (by decide) (fun h1 => ?_) (fun h1 => ?_)
  · exact tw_vret E hS (fa, fp) (⟨(fun h => h), (fun hz => by exact h1)⟩) hP hD d_Mod_refer_14
  · refine lv_aload_n hx hb d_Mod_refer_4 rfl (lv_at hl 0 rfl) ?_
    refine lv_bipush (v := 6) hx hb d_Mod_refer_5 (by decide) ?_
    refine lv_aload_n hx hb d_Mod_refer_7 rfl (lv_at hl 0 rfl) ?_
    refine va_get (D := g.1) (ci := 10) (v := .int (nI wh)) (C := R_Mod) (T := F_Mod) (N := 61) hx hb hts in_Mod hown hK hP 0 rfl rfl 45 (by decide) (hts _ wd_1295) (fun _ h9 => h9) rfl d_Mod_refer_8 ?_
    refine tw_wv (wr := []) (tw_runV (ws := [(h0, .inr (10, mob q rf n mm mb fa fp av ev wi mn tp tc sc nf fd me mp xn mt wh tq ag an ig))]) (wc := [(h0, .inr (10, mob q rf n mm mb fa fp av ev wi mn tp tc sc nf fd me mp xn mt wh tq ag an ig))]) (As := [.int 6, .int (nI wh)]) (rest := []) E hB hK hZ (g_Mod_fail l g H.size h0 q rf n mm mb av ev wi mn tp tc sc nf fd me mp xn mt wh tq ag an ig fa fp 6 (nI wh) (by decide)) mc_Mod_fail mi_Mod_fail me_Mod_fail wd_1478 hP hD hS hA [0] rfl (by decide) 0 rfl rfl rfl rfl rfl (by decide) rfl hl.1 rfl (Nat.le_of_ble_eq_true rfl) (by decide) d_Mod_refer_11) hP hD hS hA [0] [] rfl rfl (by decide) (by decide) (fun u2 H locs hr1 hP hD hS => ?_)
    try dsimp only at hr1
    have hP : va_P g.1 classes [(h0, .inr (10, mob q rf n mm mb u2.1 u2.2 av ev wi mn tp tc sc nf fd me mp xn mt wh tq ag an ig))] H := hP
    have hD : va_D A [(h0, .inr (10, mob q rf n mm mb u2.1 u2.2 av ev wi mn tp tc sc nf fd me mp xn mt wh tq ag an ig))] := hD
    have hP : va_P g.1 classes [(h0, .inr (10, mob q rf n mm mb u2.1 u2.2 av ev wi mn tp tc sc nf fd me mp xn mt wh tq ag an ig))] H := hP.sub [0] rfl
    have hD : va_D A [(h0, .inr (10, mob q rf n mm mb u2.1 u2.2 av ev wi mn tp tc sc nf fd me mp xn mt wh tq ag an ig))] := hD.sub [0] (by decide) rfl
    have hp2_0 := hr1
    exact tw_vret E hS (u2.1, u2.2) (⟨(fun h => absurd h hp2_0), (fun h => absurd h hp2_0)⟩) hP hD d_Mod_refer_14
set_option maxHeartbeats 4000000 in
set_option maxRecDepth 100000 in
theorem g_Mod_giveAnswer (l : Launch) (g : tw_G) (sz : Nat) (h0 : Nat) (q : Nat → Nat) (rf : Int32) (n : Nat) (mm : Int32) (mb : Int32) (av : Nat) (ev : Nat) (wi : Int32) (mn : Nat) (tp : Int32) (tc : Int32) (sc : Int32) (nf : Nat) (fd : Nat) (me : Nat) (mp : Int32) (xn : Nat) (mt : Nat) (wh : Nat) (ag : Nat) (an : Int32) (ig : Int32) (sk : Nat → Int32) (fa : Int32) (fp : Int32) (tq : Nat) (nw : Nat → Int32) (kd1 : Int32) (s1 : Nat) (hNW : NOW nw) (htq : tq ≤ 64) (hmt : mt < 160) (hsk : sk mt = nI s1) (hs64 : s1 ≤ 64) (hkn : ¬ kd1 = 3) : Met l y_Mod_giveAnswer [.code y_Mod_giveAnswer b_Mod_giveAnswer 2 none] ({ frames := 2, cells := 0, slots := 0, locals := 44 }) (tw_P g [.ref h0, .int kd1] [(h0, .inr (10, mob q rf n mm mb fa fp av ev wi mn tp tc sc nf fd me mp xn mt wh tq ag an ig)), ((q 32), aI g 160 sk), ((q 47), aI g 128 nw)] sz) (tw_Qv g (fun (u : Int32 × Int32 × Nat × (Nat → Int32)) => (u.1 = 0 → fa = 0) ∧ (u.2.2.1 ≤ 64) ∧ (NOW u.2.2.2)) (fun u : Int32 × Int32 × Nat × (Nat → Int32) => [(h0, .inr (10, mob q rf n mm mb u.1 u.2.1 av ev wi mn tp tc sc nf fd me mp xn mt wh u.2.2.1 ag an ig)), ((q 32), aI g 160 sk), ((q 47), aI g 128 u.2.2.2)]) (va_A [(h0, .inr (10, mob q rf n mm mb fa fp av ev wi mn tp tc sc nf fd me mp xn mt wh tq ag an ig)), ((q 32), aI g 160 sk), ((q 47), aI g 128 nw)] sz)) 0 0 (va_A [(h0, .inr (10, mob q rf n mm mb fa fp av ev wi mn tp tc sc nf fd me mp xn mt wh tq ag an ig)), ((q 32), aI g 160 sk), ((q 47), aI g 128 nw)] sz) := by
  refine tw_metW (l := l) (g := g) (y := y_Mod_giveAnswer) (cc := b_Mod_giveAnswer) (maxL := 2) (ret := none) (rm := { frames := 2, cells := 0, slots := 0, locals := 44 }) (mc := 0) (ms := 0) (av := [.ref h0, .int kd1]) (ws := [(h0, .inr (10, mob q rf n mm mb fa fp av ev wi mn tp tc sc nf fd me mp xn mt wh tq ag an ig)), ((q 32), aI g 160 sk), ((q 47), aI g 128 nw)]) (sz := sz) (Qc := fun A => (tw_Qv g (fun (u : Int32 × Int32 × Nat × (Nat → Int32)) => (u.1 = 0 → fa = 0) ∧ (u.2.2.1 ≤ 64) ∧ (NOW u.2.2.2)) (fun u : Int32 × Int32 × Nat × (Nat → Int32) => [(h0, .inr (10, mob q rf n mm mb u.1 u.2.1 av ev wi mn tp tc sc nf fd me mp xn mt wh u.2.2.1 ag an ig)), ((q 32), aI g 160 sk), ((q 47), aI g 128 u.2.2.2)]) A)) (by decide) (Nat.le_of_ble_eq_true rfl) ?_
  intro p e s m below meth c ls H A E hB hK hZ hP hD hS hA hl
  obtain ⟨hx, hb, hml, hr, hown, hts, hlocks, hin⟩ := id E
  have hl : lv_has ls 2 [(0, .ref h0), (1, .int kd1)] := hl
  refine lv_iload_n hx hb d_Mod_giveAnswer_0 rfl (lv_at hl 1 rfl) ?_
  refine lv_if_eq (tgt := 9) hx hb d_Mod_giveAnswer_1 (by decide) (fun h1 => ?_) (fun h1 => ?_)
  · exact tw_vret E hS (fa, fp, tq, nw) (⟨(fun h => h), (by first | omega | (dsimp only <;> omega)), hNW⟩) hP hD d_Mod_giveAnswer_9
  · refine lv_aload_n hx hb d_Mod_giveAnswer_4 rfl (lv_at hl 0 rfl) ?_
    refine lv_iload_n hx hb d_Mod_giveAnswer_5 rfl (lv_at hl 1 rfl) ?_
    refine tw_wv (wr := []) (tw_runV (ws := [(h0, .inr (10, mob q rf n mm mb fa fp av ev wi mn tp tc sc nf fd me mp xn mt wh tq ag an ig)), ((q 32), aI g 160 sk), ((q 47), aI g 128 nw)]) (wc := [(h0, .inr (10, mob q rf n mm mb fa fp av ev wi mn tp tc sc nf fd me mp xn mt wh tq ag an ig)), ((q 32), aI g 160 sk), ((q 47), aI g 128 nw)]) (As := [.int kd1]) (rest := []) E hB hK hZ (g_Mod_give l g H.size h0 q rf n mm mb av ev wi mn tp tc sc nf fd me mp xn mt wh ag an ig sk fa fp tq nw kd1 s1 hNW (by omega) (by omega) hsk (by omega) (fun _ => hkn)) mc_Mod_give mi_Mod_give me_Mod_give wd_1648 hP hD hS hA [0, 1, 2] rfl (by decide) 0 rfl rfl rfl rfl rfl (by decide) rfl hl.1 rfl (Nat.le_of_ble_eq_true rfl) (by decide) d_Mod_giveAnswer_6) hP hD hS hA [0, 1, 2] [] rfl rfl (by decide) (by decide) (fun u2 H locs hr1 hP hD hS => ?_)
    try dsimp only at hr1
    have hP : va_P g.1 classes [(h0, .inr (10, mob q rf n mm mb u2.1 u2.2.1 av ev wi mn tp tc sc nf fd me mp xn mt wh u2.2.2.1 ag an ig)), ((q 32), aI g 160 sk), ((q 47), aI g 128 u2.2.2.2)] H := hP
    have hD : va_D A [(h0, .inr (10, mob q rf n mm mb u2.1 u2.2.1 av ev wi mn tp tc sc nf fd me mp xn mt wh u2.2.2.1 ag an ig)), ((q 32), aI g 160 sk), ((q 47), aI g 128 u2.2.2.2)] := hD
    have hP : va_P g.1 classes [(h0, .inr (10, mob q rf n mm mb u2.1 u2.2.1 av ev wi mn tp tc sc nf fd me mp xn mt wh u2.2.2.1 ag an ig)), ((q 32), aI g 160 sk), ((q 47), aI g 128 u2.2.2.2)] H := hP.sub [0, 1, 2] rfl
    have hD : va_D A [(h0, .inr (10, mob q rf n mm mb u2.1 u2.2.1 av ev wi mn tp tc sc nf fd me mp xn mt wh u2.2.2.1 ag an ig)), ((q 32), aI g 160 sk), ((q 47), aI g 128 u2.2.2.2)] := hD.sub [0, 1, 2] (by decide) rfl
    obtain ⟨hp2_0, hp2_1, hp2_2⟩ := hr1
    exact tw_vret E hS (u2.1, u2.2.1, u2.2.2.1, u2.2.2.2) (⟨(fun h => (fun h => h) (hp2_0 h)), (by first | omega | (dsimp only <;> omega)), hp2_2⟩) hP hD d_Mod_giveAnswer_9
end
section
theorem d_Mod_arrange_0 : decode b_Mod_arrange 0 = .ok (.iload_n 1, 1) := by decide +kernel
theorem d_Mod_arrange_1 : decode b_Mod_arrange 1 = .ok (.bipush 87, 2) := by decide +kernel
theorem d_Mod_arrange_3 : decode b_Mod_arrange 3 = .ok (.if_icmp .ne 11, 3) := by decide +kernel
theorem d_Mod_arrange_6 : decode b_Mod_arrange 6 = .ok (.aload_n 0, 1) := by decide +kernel
theorem d_Mod_arrange_7 : decode b_Mod_arrange 7 = .ok (.invokevirtual 345, 3) := by decide +kernel
theorem d_Mod_arrange_10 : decode b_Mod_arrange 10 = .ok (.pop, 1) := by decide +kernel
theorem d_Mod_arrange_11 : decode b_Mod_arrange 11 = .ok (.goto 123, 3) := by decide +kernel
theorem d_Mod_arrange_14 : decode b_Mod_arrange 14 = .ok (.iload_n 1, 1) := by decide +kernel
theorem d_Mod_arrange_15 : decode b_Mod_arrange 15 = .ok (.bipush 89, 2) := by decide +kernel
theorem d_Mod_arrange_17 : decode b_Mod_arrange 17 = .ok (.if_icmp .ne 21, 3) := by decide +kernel
theorem d_Mod_arrange_20 : decode b_Mod_arrange 20 = .ok (.aload_n 0, 1) := by decide +kernel
theorem d_Mod_arrange_21 : decode b_Mod_arrange 21 = .ok (.invokevirtual 345, 3) := by decide +kernel
theorem d_Mod_arrange_24 : decode b_Mod_arrange 24 = .ok (.istore_n 2, 1) := by decide +kernel
theorem d_Mod_arrange_25 : decode b_Mod_arrange 25 = .ok (.aload_n 0, 1) := by decide +kernel
theorem d_Mod_arrange_26 : decode b_Mod_arrange 26 = .ok (.iload_n 2, 1) := by decide +kernel
theorem d_Mod_arrange_27 : decode b_Mod_arrange 27 = .ok (.invokevirtual 321, 3) := by decide +kernel
theorem d_Mod_arrange_30 : decode b_Mod_arrange 30 = .ok (.aload_n 0, 1) := by decide +kernel
theorem d_Mod_arrange_31 : decode b_Mod_arrange 31 = .ok (.iload_n 2, 1) := by decide +kernel
theorem d_Mod_arrange_32 : decode b_Mod_arrange 32 = .ok (.invokevirtual 321, 3) := by decide +kernel
theorem d_Mod_arrange_35 : decode b_Mod_arrange 35 = .ok (.goto 99, 3) := by decide +kernel
theorem d_Mod_arrange_38 : decode b_Mod_arrange 38 = .ok (.iload_n 1, 1) := by decide +kernel
theorem d_Mod_arrange_39 : decode b_Mod_arrange 39 = .ok (.bipush 95, 2) := by decide +kernel
theorem d_Mod_arrange_41 : decode b_Mod_arrange 41 = .ok (.if_icmp .ne 26, 3) := by decide +kernel
theorem d_Mod_arrange_44 : decode b_Mod_arrange 44 = .ok (.aload_n 0, 1) := by decide +kernel
theorem d_Mod_arrange_45 : decode b_Mod_arrange 45 = .ok (.invokevirtual 345, 3) := by decide +kernel
theorem d_Mod_arrange_48 : decode b_Mod_arrange 48 = .ok (.istore_n 2, 1) := by decide +kernel
theorem d_Mod_arrange_49 : decode b_Mod_arrange 49 = .ok (.aload_n 0, 1) := by decide +kernel
theorem d_Mod_arrange_50 : decode b_Mod_arrange 50 = .ok (.invokevirtual 345, 3) := by decide +kernel
theorem d_Mod_arrange_53 : decode b_Mod_arrange 53 = .ok (.istore_n 3, 1) := by decide +kernel
theorem d_Mod_arrange_54 : decode b_Mod_arrange 54 = .ok (.aload_n 0, 1) := by decide +kernel
theorem d_Mod_arrange_55 : decode b_Mod_arrange 55 = .ok (.iload_n 2, 1) := by decide +kernel
theorem d_Mod_arrange_56 : decode b_Mod_arrange 56 = .ok (.invokevirtual 321, 3) := by decide +kernel
theorem d_Mod_arrange_59 : decode b_Mod_arrange 59 = .ok (.aload_n 0, 1) := by decide +kernel
theorem d_Mod_arrange_60 : decode b_Mod_arrange 60 = .ok (.iload_n 3, 1) := by decide +kernel
theorem d_Mod_arrange_61 : decode b_Mod_arrange 61 = .ok (.invokevirtual 321, 3) := by decide +kernel
theorem d_Mod_arrange_64 : decode b_Mod_arrange 64 = .ok (.goto 70, 3) := by decide +kernel
theorem d_Mod_arrange_67 : decode b_Mod_arrange 67 = .ok (.aload_n 0, 1) := by decide +kernel
theorem d_Mod_arrange_68 : decode b_Mod_arrange 68 = .ok (.invokevirtual 348, 3) := by decide +kernel
theorem d_Mod_arrange_71 : decode b_Mod_arrange 71 = .ok (.ifCond .eq 27, 3) := by decide +kernel
theorem d_Mod_arrange_74 : decode b_Mod_arrange 74 = .ok (.aload_n 0, 1) := by decide +kernel
theorem d_Mod_arrange_75 : decode b_Mod_arrange 75 = .ok (.iconst 2, 1) := by decide +kernel
theorem d_Mod_arrange_76 : decode b_Mod_arrange 76 = .ok (.invokevirtual 324, 3) := by decide +kernel
theorem d_Mod_arrange_79 : decode b_Mod_arrange 79 = .ok (.iload_n 1, 1) := by decide +kernel
theorem d_Mod_arrange_80 : decode b_Mod_arrange 80 = .ok (.bipush 92, 2) := by decide +kernel
theorem d_Mod_arrange_82 : decode b_Mod_arrange 82 = .ok (.if_icmp .ne 52, 3) := by decide +kernel
theorem d_Mod_arrange_85 : decode b_Mod_arrange 85 = .ok (.aload_n 0, 1) := by decide +kernel
theorem d_Mod_arrange_86 : decode b_Mod_arrange 86 = .ok (.iconst 2, 1) := by decide +kernel
theorem d_Mod_arrange_87 : decode b_Mod_arrange 87 = .ok (.invokevirtual 321, 3) := by decide +kernel
theorem d_Mod_arrange_90 : decode b_Mod_arrange 90 = .ok (.aload_n 0, 1) := by decide +kernel
theorem d_Mod_arrange_91 : decode b_Mod_arrange 91 = .ok (.iconst 2, 1) := by decide +kernel
theorem d_Mod_arrange_92 : decode b_Mod_arrange 92 = .ok (.invokevirtual 321, 3) := by decide +kernel
theorem d_Mod_arrange_95 : decode b_Mod_arrange 95 = .ok (.goto 39, 3) := by decide +kernel
theorem d_Mod_arrange_98 : decode b_Mod_arrange 98 = .ok (.aload_n 0, 1) := by decide +kernel
theorem d_Mod_arrange_99 : decode b_Mod_arrange 99 = .ok (.invokevirtual 345, 3) := by decide +kernel
theorem d_Mod_arrange_102 : decode b_Mod_arrange 102 = .ok (.istore_n 2, 1) := by decide +kernel
theorem d_Mod_arrange_103 : decode b_Mod_arrange 103 = .ok (.aload_n 0, 1) := by decide +kernel
theorem d_Mod_arrange_104 : decode b_Mod_arrange 104 = .ok (.invokevirtual 345, 3) := by decide +kernel
theorem d_Mod_arrange_107 : decode b_Mod_arrange 107 = .ok (.istore_n 3, 1) := by decide +kernel
theorem d_Mod_arrange_108 : decode b_Mod_arrange 108 = .ok (.iload_n 1, 1) := by decide +kernel
theorem d_Mod_arrange_109 : decode b_Mod_arrange 109 = .ok (.bipush 92, 2) := by decide +kernel
theorem d_Mod_arrange_111 : decode b_Mod_arrange 111 = .ok (.if_icmp .ne 23, 3) := by decide +kernel
theorem d_Mod_arrange_114 : decode b_Mod_arrange 114 = .ok (.aload_n 0, 1) := by decide +kernel
theorem d_Mod_arrange_115 : decode b_Mod_arrange 115 = .ok (.iload_n 3, 1) := by decide +kernel
theorem d_Mod_arrange_116 : decode b_Mod_arrange 116 = .ok (.invokevirtual 321, 3) := by decide +kernel
theorem d_Mod_arrange_119 : decode b_Mod_arrange 119 = .ok (.aload_n 0, 1) := by decide +kernel
theorem d_Mod_arrange_120 : decode b_Mod_arrange 120 = .ok (.iload_n 2, 1) := by decide +kernel
theorem d_Mod_arrange_121 : decode b_Mod_arrange 121 = .ok (.invokevirtual 321, 3) := by decide +kernel
theorem d_Mod_arrange_124 : decode b_Mod_arrange 124 = .ok (.aload_n 0, 1) := by decide +kernel
theorem d_Mod_arrange_125 : decode b_Mod_arrange 125 = .ok (.iload_n 3, 1) := by decide +kernel
theorem d_Mod_arrange_126 : decode b_Mod_arrange 126 = .ok (.invokevirtual 321, 3) := by decide +kernel
theorem d_Mod_arrange_129 : decode b_Mod_arrange 129 = .ok (.aload_n 0, 1) := by decide +kernel
theorem d_Mod_arrange_130 : decode b_Mod_arrange 130 = .ok (.iload_n 2, 1) := by decide +kernel
theorem d_Mod_arrange_131 : decode b_Mod_arrange 131 = .ok (.invokevirtual 321, 3) := by decide +kernel
theorem d_Mod_arrange_134 : decode b_Mod_arrange 134 = .ok (.return_, 1) := by decide +kernel
theorem d_Mod_call_0 : decode b_Mod_call 0 = .ok (.aload_n 0, 1) := by decide +kernel
theorem d_Mod_call_1 : decode b_Mod_call 1 = .ok (.aload_n 0, 1) := by decide +kernel
theorem d_Mod_call_2 : decode b_Mod_call 2 = .ok (.iload_n 2, 1) := by decide +kernel
theorem d_Mod_call_3 : decode b_Mod_call 3 = .ok (.bipush 10, 2) := by decide +kernel
theorem d_Mod_call_5 : decode b_Mod_call 5 = .ok (.invokevirtual 184, 3) := by decide +kernel
theorem d_Mod_call_8 : decode b_Mod_call 8 = .ok (.invokevirtual 330, 3) := by decide +kernel
theorem d_Mod_call_11 : decode b_Mod_call 11 = .ok (.aload_n 0, 1) := by decide +kernel
theorem d_Mod_call_12 : decode b_Mod_call 12 = .ok (.getfield 147, 3) := by decide +kernel
theorem d_Mod_call_15 : decode b_Mod_call 15 = .ok (.ifCond .ne 38, 3) := by decide +kernel
theorem d_Mod_call_18 : decode b_Mod_call 18 = .ok (.iload_n 1, 1) := by decide +kernel
theorem d_Mod_call_19 : decode b_Mod_call 19 = .ok (.sipush 183, 3) := by decide +kernel
theorem d_Mod_call_22 : decode b_Mod_call 22 = .ok (.if_icmp .eq 31, 3) := by decide +kernel
theorem d_Mod_call_25 : decode b_Mod_call 25 = .ok (.aload_n 0, 1) := by decide +kernel
theorem d_Mod_call_26 : decode b_Mod_call 26 = .ok (.aload_n 0, 1) := by decide +kernel
theorem d_Mod_call_27 : decode b_Mod_call 27 = .ok (.getfield 38, 3) := by decide +kernel
theorem d_Mod_call_30 : decode b_Mod_call 30 = .ok (.aload_n 0, 1) := by decide +kernel
theorem d_Mod_call_31 : decode b_Mod_call 31 = .ok (.getfield 41, 3) := by decide +kernel
theorem d_Mod_call_34 : decode b_Mod_call 34 = .ok (.iload_n 2, 1) := by decide +kernel
theorem d_Mod_call_35 : decode b_Mod_call 35 = .ok (.iaload, 1) := by decide +kernel
theorem d_Mod_call_36 : decode b_Mod_call 36 = .ok (.iaload, 1) := by decide +kernel
theorem d_Mod_call_37 : decode b_Mod_call 37 = .ok (.invokevirtual 258, 3) := by decide +kernel
theorem d_Mod_call_40 : decode b_Mod_call 40 = .ok (.ifCond .eq 13, 3) := by decide +kernel
theorem d_Mod_call_43 : decode b_Mod_call 43 = .ok (.aload_n 0, 1) := by decide +kernel
theorem d_Mod_call_44 : decode b_Mod_call 44 = .ok (.bipush 10, 2) := by decide +kernel
theorem d_Mod_call_46 : decode b_Mod_call 46 = .ok (.aload_n 0, 1) := by decide +kernel
theorem d_Mod_call_47 : decode b_Mod_call 47 = .ok (.getfield 309, 3) := by decide +kernel
theorem d_Mod_call_50 : decode b_Mod_call 50 = .ok (.invokevirtual 159, 3) := by decide +kernel
theorem d_Mod_call_53 : decode b_Mod_call 53 = .ok (.aload_n 0, 1) := by decide +kernel
theorem d_Mod_call_54 : decode b_Mod_call 54 = .ok (.getfield 147, 3) := by decide +kernel
theorem d_Mod_call_57 : decode b_Mod_call 57 = .ok (.ifCond .eq 4, 3) := by decide +kernel
theorem d_Mod_call_60 : decode b_Mod_call 60 = .ok (.return_, 1) := by decide +kernel
theorem d_Mod_call_61 : decode b_Mod_call 61 = .ok (.aload_n 0, 1) := by decide +kernel
theorem d_Mod_call_62 : decode b_Mod_call 62 = .ok (.aload_n 0, 1) := by decide +kernel
theorem d_Mod_call_63 : decode b_Mod_call 63 = .ok (.getfield 41, 3) := by decide +kernel
theorem d_Mod_call_66 : decode b_Mod_call 66 = .ok (.aload_n 0, 1) := by decide +kernel
theorem d_Mod_call_67 : decode b_Mod_call 67 = .ok (.getfield 41, 3) := by decide +kernel
theorem d_Mod_call_70 : decode b_Mod_call 70 = .ok (.iload_n 2, 1) := by decide +kernel
theorem d_Mod_call_71 : decode b_Mod_call 71 = .ok (.iaload, 1) := by decide +kernel
theorem d_Mod_call_72 : decode b_Mod_call 72 = .ok (.iaload, 1) := by decide +kernel
theorem d_Mod_call_73 : decode b_Mod_call 73 = .ok (.invokevirtual 333, 3) := by decide +kernel
theorem d_Mod_call_76 : decode b_Mod_call 76 = .ok (.aload_n 0, 1) := by decide +kernel
theorem d_Mod_call_77 : decode b_Mod_call 77 = .ok (.getfield 300, 3) := by decide +kernel
theorem d_Mod_call_80 : decode b_Mod_call 80 = .ok (.iconst 1, 1) := by decide +kernel
theorem d_Mod_call_81 : decode b_Mod_call 81 = .ok (.isub, 1) := by decide +kernel
theorem d_Mod_call_82 : decode b_Mod_call 82 = .ok (.istore_n 3, 1) := by decide +kernel
theorem d_Mod_call_83 : decode b_Mod_call 83 = .ok (.iload_n 3, 1) := by decide +kernel
theorem d_Mod_call_84 : decode b_Mod_call 84 = .ok (.ifCond .lt 19, 3) := by decide +kernel
theorem d_Mod_call_87 : decode b_Mod_call 87 = .ok (.aload_n 0, 1) := by decide +kernel
theorem d_Mod_call_88 : decode b_Mod_call 88 = .ok (.aload_n 0, 1) := by decide +kernel
theorem d_Mod_call_89 : decode b_Mod_call 89 = .ok (.getfield 106, 3) := by decide +kernel
theorem d_Mod_call_92 : decode b_Mod_call 92 = .ok (.iload_n 3, 1) := by decide +kernel
theorem d_Mod_call_93 : decode b_Mod_call 93 = .ok (.iaload, 1) := by decide +kernel
theorem d_Mod_call_94 : decode b_Mod_call 94 = .ok (.invokevirtual 324, 3) := by decide +kernel
theorem d_Mod_call_97 : decode b_Mod_call 97 = .ok (.iinc 3 (-1), 3) := by decide +kernel
theorem d_Mod_call_100 : decode b_Mod_call 100 = .ok (.goto (-17), 3) := by decide +kernel
theorem d_Mod_call_103 : decode b_Mod_call 103 = .ok (.iload_n 1, 1) := by decide +kernel
theorem d_Mod_call_104 : decode b_Mod_call 104 = .ok (.sipush 184, 3) := by decide +kernel
theorem d_Mod_call_107 : decode b_Mod_call 107 = .ok (.if_icmp .eq 8, 3) := by decide +kernel
theorem d_Mod_call_110 : decode b_Mod_call 110 = .ok (.aload_n 0, 1) := by decide +kernel
theorem d_Mod_call_111 : decode b_Mod_call 111 = .ok (.iconst 4, 1) := by decide +kernel
theorem d_Mod_call_112 : decode b_Mod_call 112 = .ok (.invokevirtual 324, 3) := by decide +kernel
theorem d_Mod_call_115 : decode b_Mod_call 115 = .ok (.aload_n 0, 1) := by decide +kernel
theorem d_Mod_call_116 : decode b_Mod_call 116 = .ok (.aload_n 0, 1) := by decide +kernel
theorem d_Mod_call_117 : decode b_Mod_call 117 = .ok (.getfield 306, 3) := by decide +kernel
theorem d_Mod_call_120 : decode b_Mod_call 120 = .ok (.invokevirtual 336, 3) := by decide +kernel
theorem d_Mod_call_123 : decode b_Mod_call 123 = .ok (.return_, 1) := by decide +kernel
theorem d_Mod_isLongOnTop_0 : decode b_Mod_isLongOnTop 0 = .ok (.aload_n 0, 1) := by decide +kernel
theorem d_Mod_isLongOnTop_1 : decode b_Mod_isLongOnTop 1 = .ok (.getfield 312, 3) := by decide +kernel
theorem d_Mod_isLongOnTop_4 : decode b_Mod_isLongOnTop 4 = .ok (.ifCond .le 25, 3) := by decide +kernel
theorem d_Mod_isLongOnTop_7 : decode b_Mod_isLongOnTop 7 = .ok (.aload_n 0, 1) := by decide +kernel
theorem d_Mod_isLongOnTop_8 : decode b_Mod_isLongOnTop 8 = .ok (.getfield 100, 3) := by decide +kernel
theorem d_Mod_isLongOnTop_11 : decode b_Mod_isLongOnTop 11 = .ok (.bipush 64, 2) := by decide +kernel
theorem d_Mod_isLongOnTop_13 : decode b_Mod_isLongOnTop 13 = .ok (.aload_n 0, 1) := by decide +kernel
theorem d_Mod_isLongOnTop_14 : decode b_Mod_isLongOnTop 14 = .ok (.getfield 312, 3) := by decide +kernel
theorem d_Mod_isLongOnTop_17 : decode b_Mod_isLongOnTop 17 = .ok (.iadd, 1) := by decide +kernel
theorem d_Mod_isLongOnTop_18 : decode b_Mod_isLongOnTop 18 = .ok (.iconst 1, 1) := by decide +kernel
theorem d_Mod_isLongOnTop_19 : decode b_Mod_isLongOnTop 19 = .ok (.isub, 1) := by decide +kernel
theorem d_Mod_isLongOnTop_20 : decode b_Mod_isLongOnTop 20 = .ok (.iaload, 1) := by decide +kernel
theorem d_Mod_isLongOnTop_21 : decode b_Mod_isLongOnTop 21 = .ok (.iconst 3, 1) := by decide +kernel
theorem d_Mod_isLongOnTop_22 : decode b_Mod_isLongOnTop 22 = .ok (.if_icmp .ne 7, 3) := by decide +kernel
theorem d_Mod_isLongOnTop_25 : decode b_Mod_isLongOnTop 25 = .ok (.iconst 1, 1) := by decide +kernel
theorem d_Mod_isLongOnTop_26 : decode b_Mod_isLongOnTop 26 = .ok (.goto 4, 3) := by decide +kernel
theorem d_Mod_isLongOnTop_29 : decode b_Mod_isLongOnTop 29 = .ok (.iconst 0, 1) := by decide +kernel
theorem d_Mod_isLongOnTop_30 : decode b_Mod_isLongOnTop 30 = .ok (.ireturn, 1) := by decide +kernel
theorem d_Mod_reachField_0 : decode b_Mod_reachField 0 = .ok (.aload_n 0, 1) := by decide +kernel
theorem d_Mod_reachField_1 : decode b_Mod_reachField 1 = .ok (.aload_n 0, 1) := by decide +kernel
theorem d_Mod_reachField_2 : decode b_Mod_reachField 2 = .ok (.iload_n 2, 1) := by decide +kernel
theorem d_Mod_reachField_3 : decode b_Mod_reachField 3 = .ok (.bipush 9, 2) := by decide +kernel
theorem d_Mod_reachField_5 : decode b_Mod_reachField 5 = .ok (.invokevirtual 184, 3) := by decide +kernel
theorem d_Mod_reachField_8 : decode b_Mod_reachField 8 = .ok (.invokevirtual 330, 3) := by decide +kernel
theorem d_Mod_reachField_11 : decode b_Mod_reachField 11 = .ok (.aload_n 0, 1) := by decide +kernel
theorem d_Mod_reachField_12 : decode b_Mod_reachField 12 = .ok (.getfield 147, 3) := by decide +kernel
theorem d_Mod_reachField_15 : decode b_Mod_reachField 15 = .ok (.ifCond .eq 4, 3) := by decide +kernel
theorem d_Mod_reachField_18 : decode b_Mod_reachField 18 = .ok (.return_, 1) := by decide +kernel
theorem d_Mod_reachField_19 : decode b_Mod_reachField 19 = .ok (.aload_n 0, 1) := by decide +kernel
theorem d_Mod_reachField_20 : decode b_Mod_reachField 20 = .ok (.aload_n 0, 1) := by decide +kernel
theorem d_Mod_reachField_21 : decode b_Mod_reachField 21 = .ok (.getfield 38, 3) := by decide +kernel
theorem d_Mod_reachField_24 : decode b_Mod_reachField 24 = .ok (.aload_n 0, 1) := by decide +kernel
theorem d_Mod_reachField_25 : decode b_Mod_reachField 25 = .ok (.getfield 41, 3) := by decide +kernel
theorem d_Mod_reachField_28 : decode b_Mod_reachField 28 = .ok (.aload_n 0, 1) := by decide +kernel
theorem d_Mod_reachField_29 : decode b_Mod_reachField 29 = .ok (.getfield 41, 3) := by decide +kernel
theorem d_Mod_reachField_32 : decode b_Mod_reachField 32 = .ok (.iload_n 2, 1) := by decide +kernel
theorem d_Mod_reachField_33 : decode b_Mod_reachField 33 = .ok (.iaload, 1) := by decide +kernel
theorem d_Mod_reachField_34 : decode b_Mod_reachField 34 = .ok (.iaload, 1) := by decide +kernel
theorem d_Mod_reachField_35 : decode b_Mod_reachField 35 = .ok (.iaload, 1) := by decide +kernel
theorem d_Mod_reachField_36 : decode b_Mod_reachField 36 = .ok (.invokevirtual 303, 3) := by decide +kernel
theorem d_Mod_reachField_39 : decode b_Mod_reachField 39 = .ok (.istore_n 3, 1) := by decide +kernel
theorem d_Mod_reachField_40 : decode b_Mod_reachField 40 = .ok (.iload_n 1, 1) := by decide +kernel
theorem d_Mod_reachField_41 : decode b_Mod_reachField 41 = .ok (.sipush 179, 3) := by decide +kernel
theorem d_Mod_reachField_44 : decode b_Mod_reachField 44 = .ok (.if_icmp .eq 10, 3) := by decide +kernel
theorem d_Mod_reachField_47 : decode b_Mod_reachField 47 = .ok (.iload_n 1, 1) := by decide +kernel
theorem d_Mod_reachField_48 : decode b_Mod_reachField 48 = .ok (.sipush 181, 3) := by decide +kernel
theorem d_Mod_reachField_51 : decode b_Mod_reachField 51 = .ok (.if_icmp .ne 8, 3) := by decide +kernel
theorem d_Mod_reachField_54 : decode b_Mod_reachField 54 = .ok (.aload_n 0, 1) := by decide +kernel
theorem d_Mod_reachField_55 : decode b_Mod_reachField 55 = .ok (.iload_n 3, 1) := by decide +kernel
theorem d_Mod_reachField_56 : decode b_Mod_reachField 56 = .ok (.invokevirtual 324, 3) := by decide +kernel
theorem d_Mod_reachField_59 : decode b_Mod_reachField 59 = .ok (.iload_n 1, 1) := by decide +kernel
theorem d_Mod_reachField_60 : decode b_Mod_reachField 60 = .ok (.sipush 179, 3) := by decide +kernel
theorem d_Mod_reachField_63 : decode b_Mod_reachField 63 = .ok (.if_icmp .le 8, 3) := by decide +kernel
theorem d_Mod_reachField_66 : decode b_Mod_reachField 66 = .ok (.aload_n 0, 1) := by decide +kernel
theorem d_Mod_reachField_67 : decode b_Mod_reachField 67 = .ok (.iconst 4, 1) := by decide +kernel
theorem d_Mod_reachField_68 : decode b_Mod_reachField 68 = .ok (.invokevirtual 324, 3) := by decide +kernel
theorem d_Mod_reachField_71 : decode b_Mod_reachField 71 = .ok (.iload_n 1, 1) := by decide +kernel
theorem d_Mod_reachField_72 : decode b_Mod_reachField 72 = .ok (.sipush 178, 3) := by decide +kernel
theorem d_Mod_reachField_75 : decode b_Mod_reachField 75 = .ok (.if_icmp .eq 10, 3) := by decide +kernel
theorem d_Mod_reachField_78 : decode b_Mod_reachField 78 = .ok (.iload_n 1, 1) := by decide +kernel
theorem d_Mod_reachField_79 : decode b_Mod_reachField 79 = .ok (.sipush 180, 3) := by decide +kernel
theorem d_Mod_reachField_82 : decode b_Mod_reachField 82 = .ok (.if_icmp .ne 8, 3) := by decide +kernel
theorem d_Mod_reachField_85 : decode b_Mod_reachField 85 = .ok (.aload_n 0, 1) := by decide +kernel
theorem d_Mod_reachField_86 : decode b_Mod_reachField 86 = .ok (.iload_n 3, 1) := by decide +kernel
theorem d_Mod_reachField_87 : decode b_Mod_reachField 87 = .ok (.invokevirtual 321, 3) := by decide +kernel
theorem d_Mod_reachField_90 : decode b_Mod_reachField 90 = .ok (.return_, 1) := by decide +kernel
theorem d_Mod_reckon_0 : decode b_Mod_reckon 0 = .ok (.iload_n 1, 1) := by decide +kernel
theorem d_Mod_reckon_1 : decode b_Mod_reckon 1 = .ok (.invokestatic 285, 3) := by decide +kernel
theorem d_Mod_reckon_4 : decode b_Mod_reckon 4 = .ok (.ifCond .eq 21, 3) := by decide +kernel
theorem d_Mod_reckon_7 : decode b_Mod_reckon 7 = .ok (.aload_n 0, 1) := by decide +kernel
theorem d_Mod_reckon_8 : decode b_Mod_reckon 8 = .ok (.iconst 1, 1) := by decide +kernel
theorem d_Mod_reckon_9 : decode b_Mod_reckon 9 = .ok (.invokevirtual 324, 3) := by decide +kernel
theorem d_Mod_reckon_12 : decode b_Mod_reckon 12 = .ok (.aload_n 0, 1) := by decide +kernel
theorem d_Mod_reckon_13 : decode b_Mod_reckon 13 = .ok (.iconst 1, 1) := by decide +kernel
theorem d_Mod_reckon_14 : decode b_Mod_reckon 14 = .ok (.invokevirtual 324, 3) := by decide +kernel
theorem d_Mod_reckon_17 : decode b_Mod_reckon 17 = .ok (.aload_n 0, 1) := by decide +kernel
theorem d_Mod_reckon_18 : decode b_Mod_reckon 18 = .ok (.iconst 1, 1) := by decide +kernel
theorem d_Mod_reckon_19 : decode b_Mod_reckon 19 = .ok (.invokevirtual 321, 3) := by decide +kernel
theorem d_Mod_reckon_22 : decode b_Mod_reckon 22 = .ok (.goto 135, 3) := by decide +kernel
theorem d_Mod_reckon_25 : decode b_Mod_reckon 25 = .ok (.iload_n 1, 1) := by decide +kernel
theorem d_Mod_reckon_26 : decode b_Mod_reckon 26 = .ok (.invokestatic 288, 3) := by decide +kernel
theorem d_Mod_reckon_29 : decode b_Mod_reckon 29 = .ok (.ifCond .eq 21, 3) := by decide +kernel
theorem d_Mod_reckon_32 : decode b_Mod_reckon 32 = .ok (.aload_n 0, 1) := by decide +kernel
theorem d_Mod_reckon_33 : decode b_Mod_reckon 33 = .ok (.iconst 2, 1) := by decide +kernel
theorem d_Mod_reckon_34 : decode b_Mod_reckon 34 = .ok (.invokevirtual 324, 3) := by decide +kernel
theorem d_Mod_reckon_37 : decode b_Mod_reckon 37 = .ok (.aload_n 0, 1) := by decide +kernel
theorem d_Mod_reckon_38 : decode b_Mod_reckon 38 = .ok (.iconst 2, 1) := by decide +kernel
theorem d_Mod_reckon_39 : decode b_Mod_reckon 39 = .ok (.invokevirtual 324, 3) := by decide +kernel
theorem d_Mod_reckon_42 : decode b_Mod_reckon 42 = .ok (.aload_n 0, 1) := by decide +kernel
theorem d_Mod_reckon_43 : decode b_Mod_reckon 43 = .ok (.iconst 2, 1) := by decide +kernel
theorem d_Mod_reckon_44 : decode b_Mod_reckon 44 = .ok (.invokevirtual 321, 3) := by decide +kernel
theorem d_Mod_reckon_47 : decode b_Mod_reckon 47 = .ok (.goto 110, 3) := by decide +kernel
theorem d_Mod_reckon_50 : decode b_Mod_reckon 50 = .ok (.iload_n 1, 1) := by decide +kernel
theorem d_Mod_reckon_51 : decode b_Mod_reckon 51 = .ok (.bipush 121, 2) := by decide +kernel
theorem d_Mod_reckon_53 : decode b_Mod_reckon 53 = .ok (.if_icmp .eq 15, 3) := by decide +kernel
theorem d_Mod_reckon_56 : decode b_Mod_reckon 56 = .ok (.iload_n 1, 1) := by decide +kernel
theorem d_Mod_reckon_57 : decode b_Mod_reckon 57 = .ok (.bipush 123, 2) := by decide +kernel
theorem d_Mod_reckon_59 : decode b_Mod_reckon 59 = .ok (.if_icmp .eq 9, 3) := by decide +kernel
theorem d_Mod_reckon_62 : decode b_Mod_reckon 62 = .ok (.iload_n 1, 1) := by decide +kernel
theorem d_Mod_reckon_63 : decode b_Mod_reckon 63 = .ok (.bipush 125, 2) := by decide +kernel
theorem d_Mod_reckon_65 : decode b_Mod_reckon 65 = .ok (.if_icmp .ne 21, 3) := by decide +kernel
theorem d_Mod_reckon_68 : decode b_Mod_reckon 68 = .ok (.aload_n 0, 1) := by decide +kernel
theorem d_Mod_reckon_69 : decode b_Mod_reckon 69 = .ok (.iconst 1, 1) := by decide +kernel
theorem d_Mod_reckon_70 : decode b_Mod_reckon 70 = .ok (.invokevirtual 324, 3) := by decide +kernel
theorem d_Mod_reckon_73 : decode b_Mod_reckon 73 = .ok (.aload_n 0, 1) := by decide +kernel
theorem d_Mod_reckon_74 : decode b_Mod_reckon 74 = .ok (.iconst 2, 1) := by decide +kernel
theorem d_Mod_reckon_75 : decode b_Mod_reckon 75 = .ok (.invokevirtual 324, 3) := by decide +kernel
theorem d_Mod_reckon_78 : decode b_Mod_reckon 78 = .ok (.aload_n 0, 1) := by decide +kernel
theorem d_Mod_reckon_79 : decode b_Mod_reckon 79 = .ok (.iconst 2, 1) := by decide +kernel
theorem d_Mod_reckon_80 : decode b_Mod_reckon 80 = .ok (.invokevirtual 321, 3) := by decide +kernel
theorem d_Mod_reckon_83 : decode b_Mod_reckon 83 = .ok (.goto 74, 3) := by decide +kernel
theorem d_Mod_reckon_86 : decode b_Mod_reckon 86 = .ok (.iload_n 1, 1) := by decide +kernel
theorem d_Mod_reckon_87 : decode b_Mod_reckon 87 = .ok (.sipush 148, 3) := by decide +kernel
theorem d_Mod_reckon_90 : decode b_Mod_reckon 90 = .ok (.if_icmp .ne 21, 3) := by decide +kernel
theorem d_Mod_reckon_93 : decode b_Mod_reckon 93 = .ok (.aload_n 0, 1) := by decide +kernel
theorem d_Mod_reckon_94 : decode b_Mod_reckon 94 = .ok (.iconst 2, 1) := by decide +kernel
theorem d_Mod_reckon_95 : decode b_Mod_reckon 95 = .ok (.invokevirtual 324, 3) := by decide +kernel
theorem d_Mod_reckon_98 : decode b_Mod_reckon 98 = .ok (.aload_n 0, 1) := by decide +kernel
theorem d_Mod_reckon_99 : decode b_Mod_reckon 99 = .ok (.iconst 2, 1) := by decide +kernel
theorem d_Mod_reckon_100 : decode b_Mod_reckon 100 = .ok (.invokevirtual 324, 3) := by decide +kernel
theorem d_Mod_reckon_103 : decode b_Mod_reckon 103 = .ok (.aload_n 0, 1) := by decide +kernel
theorem d_Mod_reckon_104 : decode b_Mod_reckon 104 = .ok (.iconst 1, 1) := by decide +kernel
theorem d_Mod_reckon_105 : decode b_Mod_reckon 105 = .ok (.invokevirtual 321, 3) := by decide +kernel
theorem d_Mod_reckon_108 : decode b_Mod_reckon 108 = .ok (.goto 49, 3) := by decide +kernel
theorem d_Mod_reckon_111 : decode b_Mod_reckon 111 = .ok (.iload_n 1, 1) := by decide +kernel
theorem d_Mod_reckon_112 : decode b_Mod_reckon 112 = .ok (.bipush 117, 2) := by decide +kernel
theorem d_Mod_reckon_114 : decode b_Mod_reckon 114 = .ok (.if_icmp .eq 10, 3) := by decide +kernel
theorem d_Mod_reckon_117 : decode b_Mod_reckon 117 = .ok (.iload_n 1, 1) := by decide +kernel
theorem d_Mod_reckon_118 : decode b_Mod_reckon 118 = .ok (.sipush 136, 3) := by decide +kernel
theorem d_Mod_reckon_121 : decode b_Mod_reckon 121 = .ok (.if_icmp .ne 7, 3) := by decide +kernel
theorem d_Mod_reckon_124 : decode b_Mod_reckon 124 = .ok (.iconst 2, 1) := by decide +kernel
theorem d_Mod_reckon_125 : decode b_Mod_reckon 125 = .ok (.goto 4, 3) := by decide +kernel
theorem d_Mod_reckon_128 : decode b_Mod_reckon 128 = .ok (.iconst 1, 1) := by decide +kernel
theorem d_Mod_reckon_129 : decode b_Mod_reckon 129 = .ok (.istore_n 2, 1) := by decide +kernel
theorem d_Mod_reckon_130 : decode b_Mod_reckon 130 = .ok (.aload_n 0, 1) := by decide +kernel
theorem d_Mod_reckon_131 : decode b_Mod_reckon 131 = .ok (.iload_n 2, 1) := by decide +kernel
theorem d_Mod_reckon_132 : decode b_Mod_reckon 132 = .ok (.invokevirtual 324, 3) := by decide +kernel
theorem d_Mod_reckon_135 : decode b_Mod_reckon 135 = .ok (.aload_n 0, 1) := by decide +kernel
theorem d_Mod_reckon_136 : decode b_Mod_reckon 136 = .ok (.iload_n 1, 1) := by decide +kernel
theorem d_Mod_reckon_137 : decode b_Mod_reckon 137 = .ok (.bipush 117, 2) := by decide +kernel
theorem d_Mod_reckon_139 : decode b_Mod_reckon 139 = .ok (.if_icmp .eq 10, 3) := by decide +kernel
theorem d_Mod_reckon_142 : decode b_Mod_reckon 142 = .ok (.iload_n 1, 1) := by decide +kernel
theorem d_Mod_reckon_143 : decode b_Mod_reckon 143 = .ok (.sipush 133, 3) := by decide +kernel
theorem d_Mod_reckon_146 : decode b_Mod_reckon 146 = .ok (.if_icmp .ne 7, 3) := by decide +kernel
theorem d_Mod_reckon_149 : decode b_Mod_reckon 149 = .ok (.iconst 2, 1) := by decide +kernel
theorem d_Mod_reckon_150 : decode b_Mod_reckon 150 = .ok (.goto 4, 3) := by decide +kernel
theorem d_Mod_reckon_153 : decode b_Mod_reckon 153 = .ok (.iconst 1, 1) := by decide +kernel
theorem d_Mod_reckon_154 : decode b_Mod_reckon 154 = .ok (.invokevirtual 321, 3) := by decide +kernel
theorem d_Mod_reckon_157 : decode b_Mod_reckon 157 = .ok (.return_, 1) := by decide +kernel
theorem d_Mod_returns_0 : decode b_Mod_returns 0 = .ok (.iload_n 1, 1) := by decide +kernel
theorem d_Mod_returns_1 : decode b_Mod_returns 1 = .ok (.ifCond .eq 8, 3) := by decide +kernel
theorem d_Mod_returns_4 : decode b_Mod_returns 4 = .ok (.aload_n 0, 1) := by decide +kernel
theorem d_Mod_returns_5 : decode b_Mod_returns 5 = .ok (.iload_n 1, 1) := by decide +kernel
theorem d_Mod_returns_6 : decode b_Mod_returns 6 = .ok (.invokevirtual 324, 3) := by decide +kernel
theorem d_Mod_returns_9 : decode b_Mod_returns 9 = .ok (.aload_n 0, 1) := by decide +kernel
theorem d_Mod_returns_10 : decode b_Mod_returns 10 = .ok (.aload_n 0, 1) := by decide +kernel
theorem d_Mod_returns_11 : decode b_Mod_returns 11 = .ok (.getfield 59, 3) := by decide +kernel
theorem d_Mod_returns_14 : decode b_Mod_returns 14 = .ok (.aload_n 0, 1) := by decide +kernel
theorem d_Mod_returns_15 : decode b_Mod_returns 15 = .ok (.getfield 315, 3) := by decide +kernel
theorem d_Mod_returns_18 : decode b_Mod_returns 18 = .ok (.iaload, 1) := by decide +kernel
theorem d_Mod_returns_19 : decode b_Mod_returns 19 = .ok (.invokevirtual 333, 3) := by decide +kernel
theorem d_Mod_returns_22 : decode b_Mod_returns 22 = .ok (.aload_n 0, 1) := by decide +kernel
theorem d_Mod_returns_23 : decode b_Mod_returns 23 = .ok (.getfield 306, 3) := by decide +kernel
theorem d_Mod_returns_26 : decode b_Mod_returns 26 = .ok (.iload_n 1, 1) := by decide +kernel
theorem d_Mod_returns_27 : decode b_Mod_returns 27 = .ok (.if_icmp .eq 13, 3) := by decide +kernel
theorem d_Mod_returns_30 : decode b_Mod_returns 30 = .ok (.aload_n 0, 1) := by decide +kernel
theorem d_Mod_returns_31 : decode b_Mod_returns 31 = .ok (.bipush 23, 2) := by decide +kernel
theorem d_Mod_returns_33 : decode b_Mod_returns 33 = .ok (.aload_n 0, 1) := by decide +kernel
theorem d_Mod_returns_34 : decode b_Mod_returns 34 = .ok (.getfield 309, 3) := by decide +kernel
theorem d_Mod_returns_37 : decode b_Mod_returns 37 = .ok (.invokevirtual 159, 3) := by decide +kernel
theorem d_Mod_returns_40 : decode b_Mod_returns 40 = .ok (.return_, 1) := by decide +kernel
end
section
set_option maxHeartbeats 4000000 in
set_option maxRecDepth 100000 in
theorem g_Mod_reachField (l : Launch) (g : tw_G) (sz : Nat) (h0 : Nat) (q : Nat → Nat) (rf : Int32) (n : Nat) (mm : Int32) (mb : Int32) (av : Nat) (ev : Nat) (wi : Int32) (mn : Nat) (tp : Int32) (tc : Int32) (sc : Int32) (nf : Nat) (fd : Nat) (me : Nat) (mp : Int32) (xn : Nat) (mt : Nat) (wh : Nat) (ag : Nat) (an : Int32) (ig : Int32) (bs : Nat → Int32) (tg : Nat → Int32) (on : Nat → Int32) (tw : Nat → Int32) (sk : Nat → Int32) (fa : Int32) (fp : Int32) (tq : Nat) (nw : Nat → Int32) (c1 : Nat) (k : Nat) (s1 : Nat) (hNW : NOW nw) (htq : tq ≤ 64) (hmt : mt < 160) (hsk : sk mt = nI s1) (hs64 : s1 ≤ 64) (hmn : mn ≤ 620) (hMCA : ∀ j, 0 < j → j < mn → MC1 bs tg on tw j) (hk65 : k < 65536) : Met l y_Mod_reachField [.code y_Mod_reachField b_Mod_reachField 4 none] ({ frames := 2, cells := 0, slots := 0, locals := 44 }) (tw_P g [.ref h0, .int (nI c1), .int (nI k)] [(h0, .inr (10, mob q rf n mm mb fa fp av ev wi mn tp tc sc nf fd me mp xn mt wh tq ag an ig)), ((q 2), aI g 600 bs), ((q 14), aI g 620 tg), ((q 16), aI g 620 on), ((q 17), aI g 620 tw), ((q 32), aI g 160 sk), ((q 47), aI g 128 nw)] sz) (tw_Qv g (fun (u : Int32 × Int32 × Nat × (Nat → Int32)) => (u.1 = 0 → fa = 0) ∧ (u.2.2.1 ≤ 64) ∧ (NOW u.2.2.2)) (fun u : Int32 × Int32 × Nat × (Nat → Int32) => [(h0, .inr (10, mob q rf n mm mb u.1 u.2.1 av ev wi mn tp tc sc nf fd me mp xn mt wh u.2.2.1 ag an ig)), ((q 2), aI g 600 bs), ((q 14), aI g 620 tg), ((q 16), aI g 620 on), ((q 17), aI g 620 tw), ((q 32), aI g 160 sk), ((q 47), aI g 128 u.2.2.2)]) (va_A [(h0, .inr (10, mob q rf n mm mb fa fp av ev wi mn tp tc sc nf fd me mp xn mt wh tq ag an ig)), ((q 2), aI g 600 bs), ((q 14), aI g 620 tg), ((q 16), aI g 620 on), ((q 17), aI g 620 tw), ((q 32), aI g 160 sk), ((q 47), aI g 128 nw)] sz)) 0 0 (va_A [(h0, .inr (10, mob q rf n mm mb fa fp av ev wi mn tp tc sc nf fd me mp xn mt wh tq ag an ig)), ((q 2), aI g 600 bs), ((q 14), aI g 620 tg), ((q 16), aI g 620 on), ((q 17), aI g 620 tw), ((q 32), aI g 160 sk), ((q 47), aI g 128 nw)] sz) := by
  refine tw_metW (l := l) (g := g) (y := y_Mod_reachField) (cc := b_Mod_reachField) (maxL := 4) (ret := none) (rm := { frames := 2, cells := 0, slots := 0, locals := 44 }) (mc := 0) (ms := 0) (av := [.ref h0, .int (nI c1), .int (nI k)]) (ws := [(h0, .inr (10, mob q rf n mm mb fa fp av ev wi mn tp tc sc nf fd me mp xn mt wh tq ag an ig)), ((q 2), aI g 600 bs), ((q 14), aI g 620 tg), ((q 16), aI g 620 on), ((q 17), aI g 620 tw), ((q 32), aI g 160 sk), ((q 47), aI g 128 nw)]) (sz := sz) (Qc := fun A => (tw_Qv g (fun (u : Int32 × Int32 × Nat × (Nat → Int32)) => (u.1 = 0 → fa = 0) ∧ (u.2.2.1 ≤ 64) ∧ (NOW u.2.2.2)) (fun u : Int32 × Int32 × Nat × (Nat → Int32) => [(h0, .inr (10, mob q rf n mm mb u.1 u.2.1 av ev wi mn tp tc sc nf fd me mp xn mt wh u.2.2.1 ag an ig)), ((q 2), aI g 600 bs), ((q 14), aI g 620 tg), ((q 16), aI g 620 on), ((q 17), aI g 620 tw), ((q 32), aI g 160 sk), ((q 47), aI g 128 u.2.2.2)]) A)) (by decide) (Nat.le_of_ble_eq_true rfl) ?_
  intro p e s m below meth c ls H A E hB hK hZ hP hD hS hA hl
  obtain ⟨hx, hb, hml, hr, hown, hts, hlocks, hin⟩ := id E
  have hl : lv_has ls 4 [(0, .ref h0), (1, .int (nI c1)), (2, .int (nI k))] := hl
  refine lv_aload_n hx hb d_Mod_reachField_0 rfl (lv_at hl 0 rfl) ?_
  refine lv_aload_n hx hb d_Mod_reachField_1 rfl (lv_at hl 0 rfl) ?_
  refine lv_iload_n hx hb d_Mod_reachField_2 rfl (lv_at hl 2 rfl) ?_
  refine lv_bipush (v := 9) hx hb d_Mod_reachField_3 (by decide) ?_
  refine tw_si (tw_runV (ws := [(h0, .inr (10, mob q rf n mm mb fa fp av ev wi mn tp tc sc nf fd me mp xn mt wh tq ag an ig)), ((q 2), aI g 600 bs), ((q 14), aI g 620 tg), ((q 16), aI g 620 on), ((q 17), aI g 620 tw), ((q 32), aI g 160 sk), ((q 47), aI g 128 nw)]) (wc := [(h0, .inr (10, mob q rf n mm mb fa fp av ev wi mn tp tc sc nf fd me mp xn mt wh tq ag an ig)), ((q 14), aI g 620 tg)]) (As := [.int (nI k), .int 9]) (rest := [.ref h0]) E hB hK hZ (g_Mod_isTagN l g H.size h0 q rf n mm mb fa fp av ev wi mn tp tc sc nf fd me mp xn mt wh tq ag an ig tg k 9 (by omega) (by omega)) mc_Mod_isTag mi_Mod_isTag me_Mod_isTag wd_1508 hP hD hS hA [0, 2] rfl (by decide) 0 rfl rfl rfl rfl rfl (by decide) rfl hl.1 rfl (Nat.le_of_ble_eq_true rfl) (by decide) d_Mod_reachField_5) (fun r1 hr1 => ?_)
  have hB1 := hr1
  refine tw_wv (wr := [((q 2), aI g 600 bs), ((q 14), aI g 620 tg), ((q 16), aI g 620 on), ((q 17), aI g 620 tw), ((q 32), aI g 160 sk), ((q 47), aI g 128 nw)]) (tw_runV (ws := [(h0, .inr (10, mob q rf n mm mb fa fp av ev wi mn tp tc sc nf fd me mp xn mt wh tq ag an ig)), ((q 2), aI g 600 bs), ((q 14), aI g 620 tg), ((q 16), aI g 620 on), ((q 17), aI g 620 tw), ((q 32), aI g 160 sk), ((q 47), aI g 128 nw)]) (wc := [(h0, .inr (10, mob q rf n mm mb fa fp av ev wi mn tp tc sc nf fd me mp xn mt wh tq ag an ig))]) (As := [.int r1]) (rest := []) E hB hK hZ (g_Mod_refer l g H.size h0 q rf n mm mb av ev wi mn tp tc sc nf fd me mp xn mt wh tq ag an ig fa fp r1) mc_Mod_refer mi_Mod_refer me_Mod_refer wd_1652 hP hD hS hA [0] rfl (by decide) 0 rfl rfl rfl rfl rfl (by decide) rfl hl.1 rfl (Nat.le_of_ble_eq_true rfl) (by decide) d_Mod_reachField_8) hP hD hS hA [0] [1, 2, 3, 4, 5, 6] rfl rfl (by decide) (by decide) (fun u3 H locs hr2 hP hD hS => ?_)
  try dsimp only at hr2
  have hP : va_P g.1 classes [((q 2), aI g 600 bs), ((q 14), aI g 620 tg), ((q 16), aI g 620 on), ((q 17), aI g 620 tw), ((q 32), aI g 160 sk), ((q 47), aI g 128 nw), (h0, .inr (10, mob q rf n mm mb u3.1 u3.2 av ev wi mn tp tc sc nf fd me mp xn mt wh tq ag an ig))] H := hP
  have hD : va_D A [((q 2), aI g 600 bs), ((q 14), aI g 620 tg), ((q 16), aI g 620 on), ((q 17), aI g 620 tw), ((q 32), aI g 160 sk), ((q 47), aI g 128 nw), (h0, .inr (10, mob q rf n mm mb u3.1 u3.2 av ev wi mn tp tc sc nf fd me mp xn mt wh tq ag an ig))] := hD
  have hP : va_P g.1 classes [(h0, .inr (10, mob q rf n mm mb u3.1 u3.2 av ev wi mn tp tc sc nf fd me mp xn mt wh tq ag an ig)), ((q 2), aI g 600 bs), ((q 14), aI g 620 tg), ((q 16), aI g 620 on), ((q 17), aI g 620 tw), ((q 32), aI g 160 sk), ((q 47), aI g 128 nw)] H := hP.sub [6, 0, 1, 2, 3, 4, 5] rfl
  have hD : va_D A [(h0, .inr (10, mob q rf n mm mb u3.1 u3.2 av ev wi mn tp tc sc nf fd me mp xn mt wh tq ag an ig)), ((q 2), aI g 600 bs), ((q 14), aI g 620 tg), ((q 16), aI g 620 on), ((q 17), aI g 620 tw), ((q 32), aI g 160 sk), ((q 47), aI g 128 nw)] := hD.sub [6, 0, 1, 2, 3, 4, 5] (by decide) rfl
  obtain ⟨hp3_0, hp3_1⟩ := hr2
  refine lv_aload_n hx hb d_Mod_reachField_11 rfl (lv_at hl 0 rfl) ?_
  refine va_get (D := g.1) (ci := 10) (v := .int u3.1) (C := R_Mod) (T := F_Mod) (N := 61) hx hb hts in_Mod hown hK hP 0 rfl rfl 8 (by decide) (hts _ wd_1258) (fun _ h9 => h9) rfl d_Mod_reachField_12 ?_
  refine lv_if_eq (tgt := 19) hx hb d_Mod_reachField_15 (by decide) (fun h15 => ?_) (fun h15 => ?_)
  · have hz4 := hp3_0 h15
    have hz5 := hp3_1 h15
    obtain ⟨hk0, hkm, hkt⟩ := hB1.2 (hB1.1.resolve_left hz5)
    obtain ⟨j2, jt, pf, lf, m1, m2, m3, m4, m5, m6, m7, m8⟩ := (hMCA k hk0 hkm).1 hkt
    refine lv_aload_n hx hb d_Mod_reachField_19 rfl (lv_at hl 0 rfl) ?_
    refine lv_aload_n hx hb d_Mod_reachField_20 rfl (lv_at hl 0 rfl) ?_
    refine va_get (D := g.1) (ci := 10) (v := .ref (q 16)) (C := R_Mod) (T := F_Mod) (N := 61) hx hb hts in_Mod hown hK hP 0 rfl rfl 16 (by decide) (hts _ wd_1266) (fun _ h9 => h9) rfl d_Mod_reachField_21 ?_
    refine lv_aload_n hx hb d_Mod_reachField_24 rfl (lv_at hl 0 rfl) ?_
    refine va_get (D := g.1) (ci := 10) (v := .ref (q 17)) (C := R_Mod) (T := F_Mod) (N := 61) hx hb hts in_Mod hown hK hP 0 rfl rfl 17 (by decide) (hts _ wd_1267) (fun _ h9 => h9) rfl d_Mod_reachField_25 ?_
    refine lv_aload_n hx hb d_Mod_reachField_28 rfl (lv_at hl 0 rfl) ?_
    refine va_get (D := g.1) (ci := 10) (v := .ref (q 17)) (C := R_Mod) (T := F_Mod) (N := 61) hx hb hts in_Mod hown hK hP 0 rfl rfl 17 (by decide) (hts _ wd_1267) (fun _ h9 => h9) rfl d_Mod_reachField_29 ?_
    refine lv_iload_n hx hb d_Mod_reachField_32 rfl (lv_at hl 2 rfl) ?_
    refine va_iald hx hb hK hP 4 0 rfl rfl (vp_in_nI (by omega) (by decide)) d_Mod_reachField_33 ?_
    refine tw_ri (e2 := nI j2) (by rw [nI_clamp (by omega)]; exact m1) ?_
    refine va_iald hx hb hK hP 4 0 rfl rfl (vp_in_nI (by omega) (by decide)) d_Mod_reachField_34 ?_
    refine tw_ri (e2 := nI jt) (by rw [nI_clamp (by omega)]; exact m3) ?_
    refine va_iald hx hb hK hP 3 0 rfl rfl (vp_in_nI (by omega) (by decide)) d_Mod_reachField_35 ?_
    refine tw_ri (e2 := nI pf) (by rw [nI_clamp (by omega)]; exact m5) ?_
    refine tw_si (tw_runV (ws := [(h0, .inr (10, mob q rf n mm mb u3.1 u3.2 av ev wi mn tp tc sc nf fd me mp xn mt wh tq ag an ig)), ((q 2), aI g 600 bs), ((q 14), aI g 620 tg), ((q 16), aI g 620 on), ((q 17), aI g 620 tw), ((q 32), aI g 160 sk), ((q 47), aI g 128 nw)]) (wc := [(h0, .inr (10, mob q rf n mm mb u3.1 u3.2 av ev wi mn tp tc sc nf fd me mp xn mt wh tq ag an ig)), ((q 2), aI g 600 bs)]) (As := [.int (nI pf)]) (rest := []) E hB hK hZ (g_Mod_kindAt l g H.size h0 q rf n mm mb u3.1 u3.2 av ev wi mn tp tc sc nf fd me mp xn mt wh tq ag an ig bs pf (by omega)) mc_Mod_kindAt mi_Mod_kindAt me_Mod_kindAt wd_1632 hP hD hS hA [0, 1] rfl (by decide) 0 rfl rfl rfl rfl rfl (by decide) rfl hl.1 rfl (Nat.le_of_ble_eq_true rfl) (by decide) d_Mod_reachField_36) (fun r6 hr6 => ?_)
    have hB6 := hr6
    refine lv_istore_n hx hb d_Mod_reachField_39 rfl hl (by decide) rfl (fun ls hl => ?_)
    have hl : lv_has ls 4 [(3, .int r6), (0, .ref h0), (1, .int (nI c1)), (2, .int (nI k))] := hl
    refine lv_iload_n hx hb d_Mod_reachField_40 rfl (lv_at hl 2 rfl) ?_
    refine lv_sipush (v := 179) hx hb d_Mod_reachField_41 (by decide) ?_
    refine lv_icmp_eq (tgt := 54) hx hb d_Mod_reachField_44 (by decide) (fun h44 => ?_) (fun h44 => ?_)
    · refine lv_aload_n hx hb d_Mod_reachField_54 rfl (lv_at hl 1 rfl) ?_
      refine lv_iload_n hx hb d_Mod_reachField_55 rfl (lv_at hl 0 rfl) ?_
      refine tw_wv (wr := [((q 2), aI g 600 bs), ((q 14), aI g 620 tg), ((q 16), aI g 620 on), ((q 17), aI g 620 tw), ((q 32), aI g 160 sk)]) (tw_runV (ws := [(h0, .inr (10, mob q rf n mm mb u3.1 u3.2 av ev wi mn tp tc sc nf fd me mp xn mt wh tq ag an ig)), ((q 2), aI g 600 bs), ((q 14), aI g 620 tg), ((q 16), aI g 620 on), ((q 17), aI g 620 tw), ((q 32), aI g 160 sk), ((q 47), aI g 128 nw)]) (wc := [(h0, .inr (10, mob q rf n mm mb u3.1 u3.2 av ev wi mn tp tc sc nf fd me mp xn mt wh tq ag an ig)), ((q 47), aI g 128 nw)]) (As := [.int r6]) (rest := []) E hB hK hZ (g_Mod_take l g H.size h0 q rf n mm mb av ev wi mn tp tc sc nf fd me mp xn mt wh ag an ig nw u3.1 u3.2 tq r6 hNW (by omega)) mc_Mod_take mi_Mod_take me_Mod_take wd_1668 hP hD hS hA [0, 6] rfl (by decide) 0 rfl rfl rfl rfl rfl (by decide) rfl hl.1 rfl (Nat.le_of_ble_eq_true rfl) (by decide) d_Mod_reachField_56) hP hD hS hA [0, 6] [1, 2, 3, 4, 5] rfl rfl (by decide) (by decide) (fun u8 H locs hr7 hP hD hS => ?_)
      try dsimp only at hr7
      have hP : va_P g.1 classes [((q 2), aI g 600 bs), ((q 14), aI g 620 tg), ((q 16), aI g 620 on), ((q 17), aI g 620 tw), ((q 32), aI g 160 sk), (h0, .inr (10, mob q rf n mm mb u8.1 u8.2.1 av ev wi mn tp tc sc nf fd me mp xn mt wh u8.2.2 ag an ig)), ((q 47), aI g 128 nw)] H := hP
      have hD : va_D A [((q 2), aI g 600 bs), ((q 14), aI g 620 tg), ((q 16), aI g 620 on), ((q 17), aI g 620 tw), ((q 32), aI g 160 sk), (h0, .inr (10, mob q rf n mm mb u8.1 u8.2.1 av ev wi mn tp tc sc nf fd me mp xn mt wh u8.2.2 ag an ig)), ((q 47), aI g 128 nw)] := hD
      have hP : va_P g.1 classes [(h0, .inr (10, mob q rf n mm mb u8.1 u8.2.1 av ev wi mn tp tc sc nf fd me mp xn mt wh u8.2.2 ag an ig)), ((q 2), aI g 600 bs), ((q 14), aI g 620 tg), ((q 16), aI g 620 on), ((q 17), aI g 620 tw), ((q 32), aI g 160 sk), ((q 47), aI g 128 nw)] H := hP.sub [5, 0, 1, 2, 3, 4, 6] rfl
      have hD : va_D A [(h0, .inr (10, mob q rf n mm mb u8.1 u8.2.1 av ev wi mn tp tc sc nf fd me mp xn mt wh u8.2.2 ag an ig)), ((q 2), aI g 600 bs), ((q 14), aI g 620 tg), ((q 16), aI g 620 on), ((q 17), aI g 620 tw), ((q 32), aI g 160 sk), ((q 47), aI g 128 nw)] := hD.sub [5, 0, 1, 2, 3, 4, 6] (by decide) rfl
      obtain ⟨hp8_0, hp8_1, hp8_2⟩ := hr7
      refine lv_iload_n hx hb d_Mod_reachField_59 rfl (lv_at hl 2 rfl) ?_
      refine lv_sipush (v := 179) hx hb d_Mod_reachField_60 (by decide) ?_
      refine lv_icmp_le (tgt := 71) hx hb d_Mod_reachField_63 (by decide) (fun h63 => ?_) (fun h63 => ?_)
      · refine lv_iload_n hx hb d_Mod_reachField_71 rfl (lv_at hl 2 rfl) ?_
        refine lv_sipush (v := 178) hx hb d_Mod_reachField_72 (by decide) ?_
        refine lv_icmp_eq (tgt := 85) hx hb d_Mod_reachField_75 (by decide) (fun h75 => ?_) (fun h75 => ?_)
        · refine lv_aload_n hx hb d_Mod_reachField_85 rfl (lv_at hl 1 rfl) ?_
          refine lv_iload_n hx hb d_Mod_reachField_86 rfl (lv_at hl 0 rfl) ?_
          refine tw_wv (wr := [((q 2), aI g 600 bs), ((q 14), aI g 620 tg), ((q 16), aI g 620 on), ((q 17), aI g 620 tw)]) (tw_runV (ws := [(h0, .inr (10, mob q rf n mm mb u8.1 u8.2.1 av ev wi mn tp tc sc nf fd me mp xn mt wh u8.2.2 ag an ig)), ((q 2), aI g 600 bs), ((q 14), aI g 620 tg), ((q 16), aI g 620 on), ((q 17), aI g 620 tw), ((q 32), aI g 160 sk), ((q 47), aI g 128 nw)]) (wc := [(h0, .inr (10, mob q rf n mm mb u8.1 u8.2.1 av ev wi mn tp tc sc nf fd me mp xn mt wh u8.2.2 ag an ig)), ((q 32), aI g 160 sk), ((q 47), aI g 128 nw)]) (As := [.int r6]) (rest := []) E hB hK hZ (g_Mod_give l g H.size h0 q rf n mm mb av ev wi mn tp tc sc nf fd me mp xn mt wh ag an ig sk u8.1 u8.2.1 u8.2.2 nw r6 s1 hNW (by omega) (by omega) hsk (by omega) (fun _ => (kn3 hB6))) mc_Mod_give mi_Mod_give me_Mod_give wd_1648 hP hD hS hA [0, 5, 6] rfl (by decide) 0 rfl rfl rfl rfl rfl (by decide) rfl hl.1 rfl (Nat.le_of_ble_eq_true rfl) (by decide) d_Mod_reachField_87) hP hD hS hA [0, 5, 6] [1, 2, 3, 4] rfl rfl (by decide) (by decide) (fun u10 H locs hr9 hP hD hS => ?_)
          try dsimp only at hr9
          have hP : va_P g.1 classes [((q 2), aI g 600 bs), ((q 14), aI g 620 tg), ((q 16), aI g 620 on), ((q 17), aI g 620 tw), (h0, .inr (10, mob q rf n mm mb u10.1 u10.2.1 av ev wi mn tp tc sc nf fd me mp xn mt wh u10.2.2.1 ag an ig)), ((q 32), aI g 160 sk), ((q 47), aI g 128 u10.2.2.2)] H := hP
          have hD : va_D A [((q 2), aI g 600 bs), ((q 14), aI g 620 tg), ((q 16), aI g 620 on), ((q 17), aI g 620 tw), (h0, .inr (10, mob q rf n mm mb u10.1 u10.2.1 av ev wi mn tp tc sc nf fd me mp xn mt wh u10.2.2.1 ag an ig)), ((q 32), aI g 160 sk), ((q 47), aI g 128 u10.2.2.2)] := hD
          have hP : va_P g.1 classes [(h0, .inr (10, mob q rf n mm mb u10.1 u10.2.1 av ev wi mn tp tc sc nf fd me mp xn mt wh u10.2.2.1 ag an ig)), ((q 2), aI g 600 bs), ((q 14), aI g 620 tg), ((q 16), aI g 620 on), ((q 17), aI g 620 tw), ((q 32), aI g 160 sk), ((q 47), aI g 128 u10.2.2.2)] H := hP.sub [4, 0, 1, 2, 3, 5, 6] rfl
          have hD : va_D A [(h0, .inr (10, mob q rf n mm mb u10.1 u10.2.1 av ev wi mn tp tc sc nf fd me mp xn mt wh u10.2.2.1 ag an ig)), ((q 2), aI g 600 bs), ((q 14), aI g 620 tg), ((q 16), aI g 620 on), ((q 17), aI g 620 tw), ((q 32), aI g 160 sk), ((q 47), aI g 128 u10.2.2.2)] := hD.sub [4, 0, 1, 2, 3, 5, 6] (by decide) rfl
          obtain ⟨hp10_0, hp10_1, hp10_2⟩ := hr9
          exact tw_vret E hS (u10.1, u10.2.1, u10.2.2.1, u10.2.2.2) (⟨(fun _ => hz4), (by first | omega | (dsimp only <;> omega)), hp10_2⟩) hP hD d_Mod_reachField_90
        · refine lv_iload_n hx hb d_Mod_reachField_78 rfl (lv_at hl 2 rfl) ?_
          refine lv_sipush (v := 180) hx hb d_Mod_reachField_79 (by decide) ?_
          refine lv_icmp_ne (tgt := 90) hx hb d_Mod_reachField_82 (by decide) (fun h82 => ?_) (fun h82 => ?_)
          · exact tw_vret E hS (u8.1, u8.2.1, u8.2.2, nw) (⟨(fun _ => hz4), (by first | omega | (dsimp only <;> omega)), hNW⟩) hP hD d_Mod_reachField_90
          · refine lv_aload_n hx hb d_Mod_reachField_85 rfl (lv_at hl 1 rfl) ?_
            refine lv_iload_n hx hb d_Mod_reachField_86 rfl (lv_at hl 0 rfl) ?_
            refine tw_wv (wr := [((q 2), aI g 600 bs), ((q 14), aI g 620 tg), ((q 16), aI g 620 on), ((q 17), aI g 620 tw)]) (tw_runV (ws := [(h0, .inr (10, mob q rf n mm mb u8.1 u8.2.1 av ev wi mn tp tc sc nf fd me mp xn mt wh u8.2.2 ag an ig)), ((q 2), aI g 600 bs), ((q 14), aI g 620 tg), ((q 16), aI g 620 on), ((q 17), aI g 620 tw), ((q 32), aI g 160 sk), ((q 47), aI g 128 nw)]) (wc := [(h0, .inr (10, mob q rf n mm mb u8.1 u8.2.1 av ev wi mn tp tc sc nf fd me mp xn mt wh u8.2.2 ag an ig)), ((q 32), aI g 160 sk), ((q 47), aI g 128 nw)]) (As := [.int r6]) (rest := []) E hB hK hZ (g_Mod_give l g H.size h0 q rf n mm mb av ev wi mn tp tc sc nf fd me mp xn mt wh ag an ig sk u8.1 u8.2.1 u8.2.2 nw r6 s1 hNW (by omega) (by omega) hsk (by omega) (fun _ => (kn3 hB6))) mc_Mod_give mi_Mod_give me_Mod_give wd_1648 hP hD hS hA [0, 5, 6] rfl (by decide) 0 rfl rfl rfl rfl rfl (by decide) rfl hl.1 rfl (Nat.le_of_ble_eq_true rfl) (by decide) d_Mod_reachField_87) hP hD hS hA [0, 5, 6] [1, 2, 3, 4] rfl rfl (by decide) (by decide) (fun u12 H locs hr11 hP hD hS => ?_)
            try dsimp only at hr11
            have hP : va_P g.1 classes [((q 2), aI g 600 bs), ((q 14), aI g 620 tg), ((q 16), aI g 620 on), ((q 17), aI g 620 tw), (h0, .inr (10, mob q rf n mm mb u12.1 u12.2.1 av ev wi mn tp tc sc nf fd me mp xn mt wh u12.2.2.1 ag an ig)), ((q 32), aI g 160 sk), ((q 47), aI g 128 u12.2.2.2)] H := hP
            have hD : va_D A [((q 2), aI g 600 bs), ((q 14), aI g 620 tg), ((q 16), aI g 620 on), ((q 17), aI g 620 tw), (h0, .inr (10, mob q rf n mm mb u12.1 u12.2.1 av ev wi mn tp tc sc nf fd me mp xn mt wh u12.2.2.1 ag an ig)), ((q 32), aI g 160 sk), ((q 47), aI g 128 u12.2.2.2)] := hD
            have hP : va_P g.1 classes [(h0, .inr (10, mob q rf n mm mb u12.1 u12.2.1 av ev wi mn tp tc sc nf fd me mp xn mt wh u12.2.2.1 ag an ig)), ((q 2), aI g 600 bs), ((q 14), aI g 620 tg), ((q 16), aI g 620 on), ((q 17), aI g 620 tw), ((q 32), aI g 160 sk), ((q 47), aI g 128 u12.2.2.2)] H := hP.sub [4, 0, 1, 2, 3, 5, 6] rfl
            have hD : va_D A [(h0, .inr (10, mob q rf n mm mb u12.1 u12.2.1 av ev wi mn tp tc sc nf fd me mp xn mt wh u12.2.2.1 ag an ig)), ((q 2), aI g 600 bs), ((q 14), aI g 620 tg), ((q 16), aI g 620 on), ((q 17), aI g 620 tw), ((q 32), aI g 160 sk), ((q 47), aI g 128 u12.2.2.2)] := hD.sub [4, 0, 1, 2, 3, 5, 6] (by decide) rfl
            obtain ⟨hp12_0, hp12_1, hp12_2⟩ := hr11
            exact tw_vret E hS (u12.1, u12.2.1, u12.2.2.1, u12.2.2.2) (⟨(fun _ => hz4), (by first | omega | (dsimp only <;> omega)), hp12_2⟩) hP hD d_Mod_reachField_90
      · refine lv_aload_n hx hb d_Mod_reachField_66 rfl (lv_at hl 1 rfl) ?_
        refine lv_iconst (v := 4) hx hb d_Mod_reachField_67 (by decide) ?_
        refine tw_wv (wr := [((q 2), aI g 600 bs), ((q 14), aI g 620 tg), ((q 16), aI g 620 on), ((q 17), aI g 620 tw), ((q 32), aI g 160 sk)]) (tw_runV (ws := [(h0, .inr (10, mob q rf n mm mb u8.1 u8.2.1 av ev wi mn tp tc sc nf fd me mp xn mt wh u8.2.2 ag an ig)), ((q 2), aI g 600 bs), ((q 14), aI g 620 tg), ((q 16), aI g 620 on), ((q 17), aI g 620 tw), ((q 32), aI g 160 sk), ((q 47), aI g 128 nw)]) (wc := [(h0, .inr (10, mob q rf n mm mb u8.1 u8.2.1 av ev wi mn tp tc sc nf fd me mp xn mt wh u8.2.2 ag an ig)), ((q 47), aI g 128 nw)]) (As := [.int 4]) (rest := []) E hB hK hZ (g_Mod_take l g H.size h0 q rf n mm mb av ev wi mn tp tc sc nf fd me mp xn mt wh ag an ig nw u8.1 u8.2.1 u8.2.2 4 hNW (by omega)) mc_Mod_take mi_Mod_take me_Mod_take wd_1668 hP hD hS hA [0, 6] rfl (by decide) 0 rfl rfl rfl rfl rfl (by decide) rfl hl.1 rfl (Nat.le_of_ble_eq_true rfl) (by decide) d_Mod_reachField_68) hP hD hS hA [0, 6] [1, 2, 3, 4, 5] rfl rfl (by decide) (by decide) (fun u14 H locs hr13 hP hD hS => ?_)
        try dsimp only at hr13
        have hP : va_P g.1 classes [((q 2), aI g 600 bs), ((q 14), aI g 620 tg), ((q 16), aI g 620 on), ((q 17), aI g 620 tw), ((q 32), aI g 160 sk), (h0, .inr (10, mob q rf n mm mb u14.1 u14.2.1 av ev wi mn tp tc sc nf fd me mp xn mt wh u14.2.2 ag an ig)), ((q 47), aI g 128 nw)] H := hP
        have hD : va_D A [((q 2), aI g 600 bs), ((q 14), aI g 620 tg), ((q 16), aI g 620 on), ((q 17), aI g 620 tw), ((q 32), aI g 160 sk), (h0, .inr (10, mob q rf n mm mb u14.1 u14.2.1 av ev wi mn tp tc sc nf fd me mp xn mt wh u14.2.2 ag an ig)), ((q 47), aI g 128 nw)] := hD
        have hP : va_P g.1 classes [(h0, .inr (10, mob q rf n mm mb u14.1 u14.2.1 av ev wi mn tp tc sc nf fd me mp xn mt wh u14.2.2 ag an ig)), ((q 2), aI g 600 bs), ((q 14), aI g 620 tg), ((q 16), aI g 620 on), ((q 17), aI g 620 tw), ((q 32), aI g 160 sk), ((q 47), aI g 128 nw)] H := hP.sub [5, 0, 1, 2, 3, 4, 6] rfl
        have hD : va_D A [(h0, .inr (10, mob q rf n mm mb u14.1 u14.2.1 av ev wi mn tp tc sc nf fd me mp xn mt wh u14.2.2 ag an ig)), ((q 2), aI g 600 bs), ((q 14), aI g 620 tg), ((q 16), aI g 620 on), ((q 17), aI g 620 tw), ((q 32), aI g 160 sk), ((q 47), aI g 128 nw)] := hD.sub [5, 0, 1, 2, 3, 4, 6] (by decide) rfl
        obtain ⟨hp14_0, hp14_1, hp14_2⟩ := hr13
        refine lv_iload_n hx hb d_Mod_reachField_71 rfl (lv_at hl 2 rfl) ?_
        refine lv_sipush (v := 178) hx hb d_Mod_reachField_72 (by decide) ?_
        refine lv_icmp_eq (tgt := 85) hx hb d_Mod_reachField_75 (by decide) (fun h75 => ?_) (fun h75 => ?_)
        · refine lv_aload_n hx hb d_Mod_reachField_85 rfl (lv_at hl 1 rfl) ?_
          refine lv_iload_n hx hb d_Mod_reachField_86 rfl (lv_at hl 0 rfl) ?_
          refine tw_wv (wr := [((q 2), aI g 600 bs), ((q 14), aI g 620 tg), ((q 16), aI g 620 on), ((q 17), aI g 620 tw)]) (tw_runV (ws := [(h0, .inr (10, mob q rf n mm mb u14.1 u14.2.1 av ev wi mn tp tc sc nf fd me mp xn mt wh u14.2.2 ag an ig)), ((q 2), aI g 600 bs), ((q 14), aI g 620 tg), ((q 16), aI g 620 on), ((q 17), aI g 620 tw), ((q 32), aI g 160 sk), ((q 47), aI g 128 nw)]) (wc := [(h0, .inr (10, mob q rf n mm mb u14.1 u14.2.1 av ev wi mn tp tc sc nf fd me mp xn mt wh u14.2.2 ag an ig)), ((q 32), aI g 160 sk), ((q 47), aI g 128 nw)]) (As := [.int r6]) (rest := []) E hB hK hZ (g_Mod_give l g H.size h0 q rf n mm mb av ev wi mn tp tc sc nf fd me mp xn mt wh ag an ig sk u14.1 u14.2.1 u14.2.2 nw r6 s1 hNW (by omega) (by omega) hsk (by omega) (fun _ => (kn3 hB6))) mc_Mod_give mi_Mod_give me_Mod_give wd_1648 hP hD hS hA [0, 5, 6] rfl (by decide) 0 rfl rfl rfl rfl rfl (by decide) rfl hl.1 rfl (Nat.le_of_ble_eq_true rfl) (by decide) d_Mod_reachField_87) hP hD hS hA [0, 5, 6] [1, 2, 3, 4] rfl rfl (by decide) (by decide) (fun u16 H locs hr15 hP hD hS => ?_)
          try dsimp only at hr15
          have hP : va_P g.1 classes [((q 2), aI g 600 bs), ((q 14), aI g 620 tg), ((q 16), aI g 620 on), ((q 17), aI g 620 tw), (h0, .inr (10, mob q rf n mm mb u16.1 u16.2.1 av ev wi mn tp tc sc nf fd me mp xn mt wh u16.2.2.1 ag an ig)), ((q 32), aI g 160 sk), ((q 47), aI g 128 u16.2.2.2)] H := hP
          have hD : va_D A [((q 2), aI g 600 bs), ((q 14), aI g 620 tg), ((q 16), aI g 620 on), ((q 17), aI g 620 tw), (h0, .inr (10, mob q rf n mm mb u16.1 u16.2.1 av ev wi mn tp tc sc nf fd me mp xn mt wh u16.2.2.1 ag an ig)), ((q 32), aI g 160 sk), ((q 47), aI g 128 u16.2.2.2)] := hD
          have hP : va_P g.1 classes [(h0, .inr (10, mob q rf n mm mb u16.1 u16.2.1 av ev wi mn tp tc sc nf fd me mp xn mt wh u16.2.2.1 ag an ig)), ((q 2), aI g 600 bs), ((q 14), aI g 620 tg), ((q 16), aI g 620 on), ((q 17), aI g 620 tw), ((q 32), aI g 160 sk), ((q 47), aI g 128 u16.2.2.2)] H := hP.sub [4, 0, 1, 2, 3, 5, 6] rfl
          have hD : va_D A [(h0, .inr (10, mob q rf n mm mb u16.1 u16.2.1 av ev wi mn tp tc sc nf fd me mp xn mt wh u16.2.2.1 ag an ig)), ((q 2), aI g 600 bs), ((q 14), aI g 620 tg), ((q 16), aI g 620 on), ((q 17), aI g 620 tw), ((q 32), aI g 160 sk), ((q 47), aI g 128 u16.2.2.2)] := hD.sub [4, 0, 1, 2, 3, 5, 6] (by decide) rfl
          obtain ⟨hp16_0, hp16_1, hp16_2⟩ := hr15
          exact tw_vret E hS (u16.1, u16.2.1, u16.2.2.1, u16.2.2.2) (⟨(fun _ => hz4), (by first | omega | (dsimp only <;> omega)), hp16_2⟩) hP hD d_Mod_reachField_90
        · refine lv_iload_n hx hb d_Mod_reachField_78 rfl (lv_at hl 2 rfl) ?_
          refine lv_sipush (v := 180) hx hb d_Mod_reachField_79 (by decide) ?_
          refine lv_icmp_ne (tgt := 90) hx hb d_Mod_reachField_82 (by decide) (fun h82 => ?_) (fun h82 => ?_)
          · exact tw_vret E hS (u14.1, u14.2.1, u14.2.2, nw) (⟨(fun _ => hz4), (by first | omega | (dsimp only <;> omega)), hNW⟩) hP hD d_Mod_reachField_90
          · refine lv_aload_n hx hb d_Mod_reachField_85 rfl (lv_at hl 1 rfl) ?_
            refine lv_iload_n hx hb d_Mod_reachField_86 rfl (lv_at hl 0 rfl) ?_
            refine tw_wv (wr := [((q 2), aI g 600 bs), ((q 14), aI g 620 tg), ((q 16), aI g 620 on), ((q 17), aI g 620 tw)]) (tw_runV (ws := [(h0, .inr (10, mob q rf n mm mb u14.1 u14.2.1 av ev wi mn tp tc sc nf fd me mp xn mt wh u14.2.2 ag an ig)), ((q 2), aI g 600 bs), ((q 14), aI g 620 tg), ((q 16), aI g 620 on), ((q 17), aI g 620 tw), ((q 32), aI g 160 sk), ((q 47), aI g 128 nw)]) (wc := [(h0, .inr (10, mob q rf n mm mb u14.1 u14.2.1 av ev wi mn tp tc sc nf fd me mp xn mt wh u14.2.2 ag an ig)), ((q 32), aI g 160 sk), ((q 47), aI g 128 nw)]) (As := [.int r6]) (rest := []) E hB hK hZ (g_Mod_give l g H.size h0 q rf n mm mb av ev wi mn tp tc sc nf fd me mp xn mt wh ag an ig sk u14.1 u14.2.1 u14.2.2 nw r6 s1 hNW (by omega) (by omega) hsk (by omega) (fun _ => (kn3 hB6))) mc_Mod_give mi_Mod_give me_Mod_give wd_1648 hP hD hS hA [0, 5, 6] rfl (by decide) 0 rfl rfl rfl rfl rfl (by decide) rfl hl.1 rfl (Nat.le_of_ble_eq_true rfl) (by decide) d_Mod_reachField_87) hP hD hS hA [0, 5, 6] [1, 2, 3, 4] rfl rfl (by decide) (by decide) (fun u18 H locs hr17 hP hD hS => ?_)
            try dsimp only at hr17
            have hP : va_P g.1 classes [((q 2), aI g 600 bs), ((q 14), aI g 620 tg), ((q 16), aI g 620 on), ((q 17), aI g 620 tw), (h0, .inr (10, mob q rf n mm mb u18.1 u18.2.1 av ev wi mn tp tc sc nf fd me mp xn mt wh u18.2.2.1 ag an ig)), ((q 32), aI g 160 sk), ((q 47), aI g 128 u18.2.2.2)] H := hP
            have hD : va_D A [((q 2), aI g 600 bs), ((q 14), aI g 620 tg), ((q 16), aI g 620 on), ((q 17), aI g 620 tw), (h0, .inr (10, mob q rf n mm mb u18.1 u18.2.1 av ev wi mn tp tc sc nf fd me mp xn mt wh u18.2.2.1 ag an ig)), ((q 32), aI g 160 sk), ((q 47), aI g 128 u18.2.2.2)] := hD
            have hP : va_P g.1 classes [(h0, .inr (10, mob q rf n mm mb u18.1 u18.2.1 av ev wi mn tp tc sc nf fd me mp xn mt wh u18.2.2.1 ag an ig)), ((q 2), aI g 600 bs), ((q 14), aI g 620 tg), ((q 16), aI g 620 on), ((q 17), aI g 620 tw), ((q 32), aI g 160 sk), ((q 47), aI g 128 u18.2.2.2)] H := hP.sub [4, 0, 1, 2, 3, 5, 6] rfl
            have hD : va_D A [(h0, .inr (10, mob q rf n mm mb u18.1 u18.2.1 av ev wi mn tp tc sc nf fd me mp xn mt wh u18.2.2.1 ag an ig)), ((q 2), aI g 600 bs), ((q 14), aI g 620 tg), ((q 16), aI g 620 on), ((q 17), aI g 620 tw), ((q 32), aI g 160 sk), ((q 47), aI g 128 u18.2.2.2)] := hD.sub [4, 0, 1, 2, 3, 5, 6] (by decide) rfl
            obtain ⟨hp18_0, hp18_1, hp18_2⟩ := hr17
            exact tw_vret E hS (u18.1, u18.2.1, u18.2.2.1, u18.2.2.2) (⟨(fun _ => hz4), (by first | omega | (dsimp only <;> omega)), hp18_2⟩) hP hD d_Mod_reachField_90
    · refine lv_iload_n hx hb d_Mod_reachField_47 rfl (lv_at hl 2 rfl) ?_
      refine lv_sipush (v := 181) hx hb d_Mod_reachField_48 (by decide) ?_
      refine lv_icmp_ne (tgt := 59) hx hb d_Mod_reachField_51 (by decide) (fun h51 => ?_) (fun h51 => ?_)
      · refine lv_iload_n hx hb d_Mod_reachField_59 rfl (lv_at hl 2 rfl) ?_
        refine lv_sipush (v := 179) hx hb d_Mod_reachField_60 (by decide) ?_
        refine lv_icmp_le (tgt := 71) hx hb d_Mod_reachField_63 (by decide) (fun h63 => ?_) (fun h63 => ?_)
        · refine lv_iload_n hx hb d_Mod_reachField_71 rfl (lv_at hl 2 rfl) ?_
          refine lv_sipush (v := 178) hx hb d_Mod_reachField_72 (by decide) ?_
          refine lv_icmp_eq (tgt := 85) hx hb d_Mod_reachField_75 (by decide) (fun h75 => ?_) (fun h75 => ?_)
          · refine lv_aload_n hx hb d_Mod_reachField_85 rfl (lv_at hl 1 rfl) ?_
            refine lv_iload_n hx hb d_Mod_reachField_86 rfl (lv_at hl 0 rfl) ?_
            refine tw_wv (wr := [((q 2), aI g 600 bs), ((q 14), aI g 620 tg), ((q 16), aI g 620 on), ((q 17), aI g 620 tw)]) (tw_runV (ws := [(h0, .inr (10, mob q rf n mm mb u3.1 u3.2 av ev wi mn tp tc sc nf fd me mp xn mt wh tq ag an ig)), ((q 2), aI g 600 bs), ((q 14), aI g 620 tg), ((q 16), aI g 620 on), ((q 17), aI g 620 tw), ((q 32), aI g 160 sk), ((q 47), aI g 128 nw)]) (wc := [(h0, .inr (10, mob q rf n mm mb u3.1 u3.2 av ev wi mn tp tc sc nf fd me mp xn mt wh tq ag an ig)), ((q 32), aI g 160 sk), ((q 47), aI g 128 nw)]) (As := [.int r6]) (rest := []) E hB hK hZ (g_Mod_give l g H.size h0 q rf n mm mb av ev wi mn tp tc sc nf fd me mp xn mt wh ag an ig sk u3.1 u3.2 tq nw r6 s1 hNW (by omega) (by omega) hsk (by omega) (fun _ => (kn3 hB6))) mc_Mod_give mi_Mod_give me_Mod_give wd_1648 hP hD hS hA [0, 5, 6] rfl (by decide) 0 rfl rfl rfl rfl rfl (by decide) rfl hl.1 rfl (Nat.le_of_ble_eq_true rfl) (by decide) d_Mod_reachField_87) hP hD hS hA [0, 5, 6] [1, 2, 3, 4] rfl rfl (by decide) (by decide) (fun u20 H locs hr19 hP hD hS => ?_)
            try dsimp only at hr19
            have hP : va_P g.1 classes [((q 2), aI g 600 bs), ((q 14), aI g 620 tg), ((q 16), aI g 620 on), ((q 17), aI g 620 tw), (h0, .inr (10, mob q rf n mm mb u20.1 u20.2.1 av ev wi mn tp tc sc nf fd me mp xn mt wh u20.2.2.1 ag an ig)), ((q 32), aI g 160 sk), ((q 47), aI g 128 u20.2.2.2)] H := hP
            have hD : va_D A [((q 2), aI g 600 bs), ((q 14), aI g 620 tg), ((q 16), aI g 620 on), ((q 17), aI g 620 tw), (h0, .inr (10, mob q rf n mm mb u20.1 u20.2.1 av ev wi mn tp tc sc nf fd me mp xn mt wh u20.2.2.1 ag an ig)), ((q 32), aI g 160 sk), ((q 47), aI g 128 u20.2.2.2)] := hD
            have hP : va_P g.1 classes [(h0, .inr (10, mob q rf n mm mb u20.1 u20.2.1 av ev wi mn tp tc sc nf fd me mp xn mt wh u20.2.2.1 ag an ig)), ((q 2), aI g 600 bs), ((q 14), aI g 620 tg), ((q 16), aI g 620 on), ((q 17), aI g 620 tw), ((q 32), aI g 160 sk), ((q 47), aI g 128 u20.2.2.2)] H := hP.sub [4, 0, 1, 2, 3, 5, 6] rfl
            have hD : va_D A [(h0, .inr (10, mob q rf n mm mb u20.1 u20.2.1 av ev wi mn tp tc sc nf fd me mp xn mt wh u20.2.2.1 ag an ig)), ((q 2), aI g 600 bs), ((q 14), aI g 620 tg), ((q 16), aI g 620 on), ((q 17), aI g 620 tw), ((q 32), aI g 160 sk), ((q 47), aI g 128 u20.2.2.2)] := hD.sub [4, 0, 1, 2, 3, 5, 6] (by decide) rfl
            obtain ⟨hp20_0, hp20_1, hp20_2⟩ := hr19
            exact tw_vret E hS (u20.1, u20.2.1, u20.2.2.1, u20.2.2.2) (⟨(fun _ => hz4), (by first | omega | (dsimp only <;> omega)), hp20_2⟩) hP hD d_Mod_reachField_90
          · refine lv_iload_n hx hb d_Mod_reachField_78 rfl (lv_at hl 2 rfl) ?_
            refine lv_sipush (v := 180) hx hb d_Mod_reachField_79 (by decide) ?_
            refine lv_icmp_ne (tgt := 90) hx hb d_Mod_reachField_82 (by decide) (fun h82 => ?_) (fun h82 => ?_)
            · exact tw_vret E hS (u3.1, u3.2, tq, nw) (⟨(fun _ => hz4), (by first | omega | (dsimp only <;> omega)), hNW⟩) hP hD d_Mod_reachField_90
            · refine lv_aload_n hx hb d_Mod_reachField_85 rfl (lv_at hl 1 rfl) ?_
              refine lv_iload_n hx hb d_Mod_reachField_86 rfl (lv_at hl 0 rfl) ?_
              refine tw_wv (wr := [((q 2), aI g 600 bs), ((q 14), aI g 620 tg), ((q 16), aI g 620 on), ((q 17), aI g 620 tw)]) (tw_runV (ws := [(h0, .inr (10, mob q rf n mm mb u3.1 u3.2 av ev wi mn tp tc sc nf fd me mp xn mt wh tq ag an ig)), ((q 2), aI g 600 bs), ((q 14), aI g 620 tg), ((q 16), aI g 620 on), ((q 17), aI g 620 tw), ((q 32), aI g 160 sk), ((q 47), aI g 128 nw)]) (wc := [(h0, .inr (10, mob q rf n mm mb u3.1 u3.2 av ev wi mn tp tc sc nf fd me mp xn mt wh tq ag an ig)), ((q 32), aI g 160 sk), ((q 47), aI g 128 nw)]) (As := [.int r6]) (rest := []) E hB hK hZ (g_Mod_give l g H.size h0 q rf n mm mb av ev wi mn tp tc sc nf fd me mp xn mt wh ag an ig sk u3.1 u3.2 tq nw r6 s1 hNW (by omega) (by omega) hsk (by omega) (fun _ => (kn3 hB6))) mc_Mod_give mi_Mod_give me_Mod_give wd_1648 hP hD hS hA [0, 5, 6] rfl (by decide) 0 rfl rfl rfl rfl rfl (by decide) rfl hl.1 rfl (Nat.le_of_ble_eq_true rfl) (by decide) d_Mod_reachField_87) hP hD hS hA [0, 5, 6] [1, 2, 3, 4] rfl rfl (by decide) (by decide) (fun u22 H locs hr21 hP hD hS => ?_)
              try dsimp only at hr21
              have hP : va_P g.1 classes [((q 2), aI g 600 bs), ((q 14), aI g 620 tg), ((q 16), aI g 620 on), ((q 17), aI g 620 tw), (h0, .inr (10, mob q rf n mm mb u22.1 u22.2.1 av ev wi mn tp tc sc nf fd me mp xn mt wh u22.2.2.1 ag an ig)), ((q 32), aI g 160 sk), ((q 47), aI g 128 u22.2.2.2)] H := hP
              have hD : va_D A [((q 2), aI g 600 bs), ((q 14), aI g 620 tg), ((q 16), aI g 620 on), ((q 17), aI g 620 tw), (h0, .inr (10, mob q rf n mm mb u22.1 u22.2.1 av ev wi mn tp tc sc nf fd me mp xn mt wh u22.2.2.1 ag an ig)), ((q 32), aI g 160 sk), ((q 47), aI g 128 u22.2.2.2)] := hD
              have hP : va_P g.1 classes [(h0, .inr (10, mob q rf n mm mb u22.1 u22.2.1 av ev wi mn tp tc sc nf fd me mp xn mt wh u22.2.2.1 ag an ig)), ((q 2), aI g 600 bs), ((q 14), aI g 620 tg), ((q 16), aI g 620 on), ((q 17), aI g 620 tw), ((q 32), aI g 160 sk), ((q 47), aI g 128 u22.2.2.2)] H := hP.sub [4, 0, 1, 2, 3, 5, 6] rfl
              have hD : va_D A [(h0, .inr (10, mob q rf n mm mb u22.1 u22.2.1 av ev wi mn tp tc sc nf fd me mp xn mt wh u22.2.2.1 ag an ig)), ((q 2), aI g 600 bs), ((q 14), aI g 620 tg), ((q 16), aI g 620 on), ((q 17), aI g 620 tw), ((q 32), aI g 160 sk), ((q 47), aI g 128 u22.2.2.2)] := hD.sub [4, 0, 1, 2, 3, 5, 6] (by decide) rfl
              obtain ⟨hp22_0, hp22_1, hp22_2⟩ := hr21
              exact tw_vret E hS (u22.1, u22.2.1, u22.2.2.1, u22.2.2.2) (⟨(fun _ => hz4), (by first | omega | (dsimp only <;> omega)), hp22_2⟩) hP hD d_Mod_reachField_90
        · refine lv_aload_n hx hb d_Mod_reachField_66 rfl (lv_at hl 1 rfl) ?_
          refine lv_iconst (v := 4) hx hb d_Mod_reachField_67 (by decide) ?_
          refine tw_wv (wr := [((q 2), aI g 600 bs), ((q 14), aI g 620 tg), ((q 16), aI g 620 on), ((q 17), aI g 620 tw), ((q 32), aI g 160 sk)]) (tw_runV (ws := [(h0, .inr (10, mob q rf n mm mb u3.1 u3.2 av ev wi mn tp tc sc nf fd me mp xn mt wh tq ag an ig)), ((q 2), aI g 600 bs), ((q 14), aI g 620 tg), ((q 16), aI g 620 on), ((q 17), aI g 620 tw), ((q 32), aI g 160 sk), ((q 47), aI g 128 nw)]) (wc := [(h0, .inr (10, mob q rf n mm mb u3.1 u3.2 av ev wi mn tp tc sc nf fd me mp xn mt wh tq ag an ig)), ((q 47), aI g 128 nw)]) (As := [.int 4]) (rest := []) E hB hK hZ (g_Mod_take l g H.size h0 q rf n mm mb av ev wi mn tp tc sc nf fd me mp xn mt wh ag an ig nw u3.1 u3.2 tq 4 hNW (by omega)) mc_Mod_take mi_Mod_take me_Mod_take wd_1668 hP hD hS hA [0, 6] rfl (by decide) 0 rfl rfl rfl rfl rfl (by decide) rfl hl.1 rfl (Nat.le_of_ble_eq_true rfl) (by decide) d_Mod_reachField_68) hP hD hS hA [0, 6] [1, 2, 3, 4, 5] rfl rfl (by decide) (by decide) (fun u24 H locs hr23 hP hD hS => ?_)
          try dsimp only at hr23
          have hP : va_P g.1 classes [((q 2), aI g 600 bs), ((q 14), aI g 620 tg), ((q 16), aI g 620 on), ((q 17), aI g 620 tw), ((q 32), aI g 160 sk), (h0, .inr (10, mob q rf n mm mb u24.1 u24.2.1 av ev wi mn tp tc sc nf fd me mp xn mt wh u24.2.2 ag an ig)), ((q 47), aI g 128 nw)] H := hP
          have hD : va_D A [((q 2), aI g 600 bs), ((q 14), aI g 620 tg), ((q 16), aI g 620 on), ((q 17), aI g 620 tw), ((q 32), aI g 160 sk), (h0, .inr (10, mob q rf n mm mb u24.1 u24.2.1 av ev wi mn tp tc sc nf fd me mp xn mt wh u24.2.2 ag an ig)), ((q 47), aI g 128 nw)] := hD
          have hP : va_P g.1 classes [(h0, .inr (10, mob q rf n mm mb u24.1 u24.2.1 av ev wi mn tp tc sc nf fd me mp xn mt wh u24.2.2 ag an ig)), ((q 2), aI g 600 bs), ((q 14), aI g 620 tg), ((q 16), aI g 620 on), ((q 17), aI g 620 tw), ((q 32), aI g 160 sk), ((q 47), aI g 128 nw)] H := hP.sub [5, 0, 1, 2, 3, 4, 6] rfl
          have hD : va_D A [(h0, .inr (10, mob q rf n mm mb u24.1 u24.2.1 av ev wi mn tp tc sc nf fd me mp xn mt wh u24.2.2 ag an ig)), ((q 2), aI g 600 bs), ((q 14), aI g 620 tg), ((q 16), aI g 620 on), ((q 17), aI g 620 tw), ((q 32), aI g 160 sk), ((q 47), aI g 128 nw)] := hD.sub [5, 0, 1, 2, 3, 4, 6] (by decide) rfl
          obtain ⟨hp24_0, hp24_1, hp24_2⟩ := hr23
          refine lv_iload_n hx hb d_Mod_reachField_71 rfl (lv_at hl 2 rfl) ?_
          refine lv_sipush (v := 178) hx hb d_Mod_reachField_72 (by decide) ?_
          refine lv_icmp_eq (tgt := 85) hx hb d_Mod_reachField_75 (by decide) (fun h75 => ?_) (fun h75 => ?_)
          · refine lv_aload_n hx hb d_Mod_reachField_85 rfl (lv_at hl 1 rfl) ?_
            refine lv_iload_n hx hb d_Mod_reachField_86 rfl (lv_at hl 0 rfl) ?_
            refine tw_wv (wr := [((q 2), aI g 600 bs), ((q 14), aI g 620 tg), ((q 16), aI g 620 on), ((q 17), aI g 620 tw)]) (tw_runV (ws := [(h0, .inr (10, mob q rf n mm mb u24.1 u24.2.1 av ev wi mn tp tc sc nf fd me mp xn mt wh u24.2.2 ag an ig)), ((q 2), aI g 600 bs), ((q 14), aI g 620 tg), ((q 16), aI g 620 on), ((q 17), aI g 620 tw), ((q 32), aI g 160 sk), ((q 47), aI g 128 nw)]) (wc := [(h0, .inr (10, mob q rf n mm mb u24.1 u24.2.1 av ev wi mn tp tc sc nf fd me mp xn mt wh u24.2.2 ag an ig)), ((q 32), aI g 160 sk), ((q 47), aI g 128 nw)]) (As := [.int r6]) (rest := []) E hB hK hZ (g_Mod_give l g H.size h0 q rf n mm mb av ev wi mn tp tc sc nf fd me mp xn mt wh ag an ig sk u24.1 u24.2.1 u24.2.2 nw r6 s1 hNW (by omega) (by omega) hsk (by omega) (fun _ => (kn3 hB6))) mc_Mod_give mi_Mod_give me_Mod_give wd_1648 hP hD hS hA [0, 5, 6] rfl (by decide) 0 rfl rfl rfl rfl rfl (by decide) rfl hl.1 rfl (Nat.le_of_ble_eq_true rfl) (by decide) d_Mod_reachField_87) hP hD hS hA [0, 5, 6] [1, 2, 3, 4] rfl rfl (by decide) (by decide) (fun u26 H locs hr25 hP hD hS => ?_)
            try dsimp only at hr25
            have hP : va_P g.1 classes [((q 2), aI g 600 bs), ((q 14), aI g 620 tg), ((q 16), aI g 620 on), ((q 17), aI g 620 tw), (h0, .inr (10, mob q rf n mm mb u26.1 u26.2.1 av ev wi mn tp tc sc nf fd me mp xn mt wh u26.2.2.1 ag an ig)), ((q 32), aI g 160 sk), ((q 47), aI g 128 u26.2.2.2)] H := hP
            have hD : va_D A [((q 2), aI g 600 bs), ((q 14), aI g 620 tg), ((q 16), aI g 620 on), ((q 17), aI g 620 tw), (h0, .inr (10, mob q rf n mm mb u26.1 u26.2.1 av ev wi mn tp tc sc nf fd me mp xn mt wh u26.2.2.1 ag an ig)), ((q 32), aI g 160 sk), ((q 47), aI g 128 u26.2.2.2)] := hD
            have hP : va_P g.1 classes [(h0, .inr (10, mob q rf n mm mb u26.1 u26.2.1 av ev wi mn tp tc sc nf fd me mp xn mt wh u26.2.2.1 ag an ig)), ((q 2), aI g 600 bs), ((q 14), aI g 620 tg), ((q 16), aI g 620 on), ((q 17), aI g 620 tw), ((q 32), aI g 160 sk), ((q 47), aI g 128 u26.2.2.2)] H := hP.sub [4, 0, 1, 2, 3, 5, 6] rfl
            have hD : va_D A [(h0, .inr (10, mob q rf n mm mb u26.1 u26.2.1 av ev wi mn tp tc sc nf fd me mp xn mt wh u26.2.2.1 ag an ig)), ((q 2), aI g 600 bs), ((q 14), aI g 620 tg), ((q 16), aI g 620 on), ((q 17), aI g 620 tw), ((q 32), aI g 160 sk), ((q 47), aI g 128 u26.2.2.2)] := hD.sub [4, 0, 1, 2, 3, 5, 6] (by decide) rfl
            obtain ⟨hp26_0, hp26_1, hp26_2⟩ := hr25
            exact tw_vret E hS (u26.1, u26.2.1, u26.2.2.1, u26.2.2.2) (⟨(fun _ => hz4), (by first | omega | (dsimp only <;> omega)), hp26_2⟩) hP hD d_Mod_reachField_90
          · refine lv_iload_n hx hb d_Mod_reachField_78 rfl (lv_at hl 2 rfl) ?_
            refine lv_sipush (v := 180) hx hb d_Mod_reachField_79 (by decide) ?_
            refine lv_icmp_ne (tgt := 90) hx hb d_Mod_reachField_82 (by decide) (fun h82 => ?_) (fun h82 => ?_)
            · exact tw_vret E hS (u24.1, u24.2.1, u24.2.2, nw) (⟨(fun _ => hz4), (by first | omega | (dsimp only <;> omega)), hNW⟩) hP hD d_Mod_reachField_90
            · refine lv_aload_n hx hb d_Mod_reachField_85 rfl (lv_at hl 1 rfl) ?_
              refine lv_iload_n hx hb d_Mod_reachField_86 rfl (lv_at hl 0 rfl) ?_
              refine tw_wv (wr := [((q 2), aI g 600 bs), ((q 14), aI g 620 tg), ((q 16), aI g 620 on), ((q 17), aI g 620 tw)]) (tw_runV (ws := [(h0, .inr (10, mob q rf n mm mb u24.1 u24.2.1 av ev wi mn tp tc sc nf fd me mp xn mt wh u24.2.2 ag an ig)), ((q 2), aI g 600 bs), ((q 14), aI g 620 tg), ((q 16), aI g 620 on), ((q 17), aI g 620 tw), ((q 32), aI g 160 sk), ((q 47), aI g 128 nw)]) (wc := [(h0, .inr (10, mob q rf n mm mb u24.1 u24.2.1 av ev wi mn tp tc sc nf fd me mp xn mt wh u24.2.2 ag an ig)), ((q 32), aI g 160 sk), ((q 47), aI g 128 nw)]) (As := [.int r6]) (rest := []) E hB hK hZ (g_Mod_give l g H.size h0 q rf n mm mb av ev wi mn tp tc sc nf fd me mp xn mt wh ag an ig sk u24.1 u24.2.1 u24.2.2 nw r6 s1 hNW (by omega) (by omega) hsk (by omega) (fun _ => (kn3 hB6))) mc_Mod_give mi_Mod_give me_Mod_give wd_1648 hP hD hS hA [0, 5, 6] rfl (by decide) 0 rfl rfl rfl rfl rfl (by decide) rfl hl.1 rfl (Nat.le_of_ble_eq_true rfl) (by decide) d_Mod_reachField_87) hP hD hS hA [0, 5, 6] [1, 2, 3, 4] rfl rfl (by decide) (by decide) (fun u28 H locs hr27 hP hD hS => ?_)
              try dsimp only at hr27
              have hP : va_P g.1 classes [((q 2), aI g 600 bs), ((q 14), aI g 620 tg), ((q 16), aI g 620 on), ((q 17), aI g 620 tw), (h0, .inr (10, mob q rf n mm mb u28.1 u28.2.1 av ev wi mn tp tc sc nf fd me mp xn mt wh u28.2.2.1 ag an ig)), ((q 32), aI g 160 sk), ((q 47), aI g 128 u28.2.2.2)] H := hP
              have hD : va_D A [((q 2), aI g 600 bs), ((q 14), aI g 620 tg), ((q 16), aI g 620 on), ((q 17), aI g 620 tw), (h0, .inr (10, mob q rf n mm mb u28.1 u28.2.1 av ev wi mn tp tc sc nf fd me mp xn mt wh u28.2.2.1 ag an ig)), ((q 32), aI g 160 sk), ((q 47), aI g 128 u28.2.2.2)] := hD
              have hP : va_P g.1 classes [(h0, .inr (10, mob q rf n mm mb u28.1 u28.2.1 av ev wi mn tp tc sc nf fd me mp xn mt wh u28.2.2.1 ag an ig)), ((q 2), aI g 600 bs), ((q 14), aI g 620 tg), ((q 16), aI g 620 on), ((q 17), aI g 620 tw), ((q 32), aI g 160 sk), ((q 47), aI g 128 u28.2.2.2)] H := hP.sub [4, 0, 1, 2, 3, 5, 6] rfl
              have hD : va_D A [(h0, .inr (10, mob q rf n mm mb u28.1 u28.2.1 av ev wi mn tp tc sc nf fd me mp xn mt wh u28.2.2.1 ag an ig)), ((q 2), aI g 600 bs), ((q 14), aI g 620 tg), ((q 16), aI g 620 on), ((q 17), aI g 620 tw), ((q 32), aI g 160 sk), ((q 47), aI g 128 u28.2.2.2)] := hD.sub [4, 0, 1, 2, 3, 5, 6] (by decide) rfl
              obtain ⟨hp28_0, hp28_1, hp28_2⟩ := hr27
              exact tw_vret E hS (u28.1, u28.2.1, u28.2.2.1, u28.2.2.2) (⟨(fun _ => hz4), (by first | omega | (dsimp only <;> omega)), hp28_2⟩) hP hD d_Mod_reachField_90
      · refine lv_aload_n hx hb d_Mod_reachField_54 rfl (lv_at hl 1 rfl) ?_
        refine lv_iload_n hx hb d_Mod_reachField_55 rfl (lv_at hl 0 rfl) ?_
        refine tw_wv (wr := [((q 2), aI g 600 bs), ((q 14), aI g 620 tg), ((q 16), aI g 620 on), ((q 17), aI g 620 tw), ((q 32), aI g 160 sk)]) (tw_runV (ws := [(h0, .inr (10, mob q rf n mm mb u3.1 u3.2 av ev wi mn tp tc sc nf fd me mp xn mt wh tq ag an ig)), ((q 2), aI g 600 bs), ((q 14), aI g 620 tg), ((q 16), aI g 620 on), ((q 17), aI g 620 tw), ((q 32), aI g 160 sk), ((q 47), aI g 128 nw)]) (wc := [(h0, .inr (10, mob q rf n mm mb u3.1 u3.2 av ev wi mn tp tc sc nf fd me mp xn mt wh tq ag an ig)), ((q 47), aI g 128 nw)]) (As := [.int r6]) (rest := []) E hB hK hZ (g_Mod_take l g H.size h0 q rf n mm mb av ev wi mn tp tc sc nf fd me mp xn mt wh ag an ig nw u3.1 u3.2 tq r6 hNW (by omega)) mc_Mod_take mi_Mod_take me_Mod_take wd_1668 hP hD hS hA [0, 6] rfl (by decide) 0 rfl rfl rfl rfl rfl (by decide) rfl hl.1 rfl (Nat.le_of_ble_eq_true rfl) (by decide) d_Mod_reachField_56) hP hD hS hA [0, 6] [1, 2, 3, 4, 5] rfl rfl (by decide) (by decide) (fun u30 H locs hr29 hP hD hS => ?_)
        try dsimp only at hr29
        have hP : va_P g.1 classes [((q 2), aI g 600 bs), ((q 14), aI g 620 tg), ((q 16), aI g 620 on), ((q 17), aI g 620 tw), ((q 32), aI g 160 sk), (h0, .inr (10, mob q rf n mm mb u30.1 u30.2.1 av ev wi mn tp tc sc nf fd me mp xn mt wh u30.2.2 ag an ig)), ((q 47), aI g 128 nw)] H := hP
        have hD : va_D A [((q 2), aI g 600 bs), ((q 14), aI g 620 tg), ((q 16), aI g 620 on), ((q 17), aI g 620 tw), ((q 32), aI g 160 sk), (h0, .inr (10, mob q rf n mm mb u30.1 u30.2.1 av ev wi mn tp tc sc nf fd me mp xn mt wh u30.2.2 ag an ig)), ((q 47), aI g 128 nw)] := hD
        have hP : va_P g.1 classes [(h0, .inr (10, mob q rf n mm mb u30.1 u30.2.1 av ev wi mn tp tc sc nf fd me mp xn mt wh u30.2.2 ag an ig)), ((q 2), aI g 600 bs), ((q 14), aI g 620 tg), ((q 16), aI g 620 on), ((q 17), aI g 620 tw), ((q 32), aI g 160 sk), ((q 47), aI g 128 nw)] H := hP.sub [5, 0, 1, 2, 3, 4, 6] rfl
        have hD : va_D A [(h0, .inr (10, mob q rf n mm mb u30.1 u30.2.1 av ev wi mn tp tc sc nf fd me mp xn mt wh u30.2.2 ag an ig)), ((q 2), aI g 600 bs), ((q 14), aI g 620 tg), ((q 16), aI g 620 on), ((q 17), aI g 620 tw), ((q 32), aI g 160 sk), ((q 47), aI g 128 nw)] := hD.sub [5, 0, 1, 2, 3, 4, 6] (by decide) rfl
        obtain ⟨hp30_0, hp30_1, hp30_2⟩ := hr29
        refine lv_iload_n hx hb d_Mod_reachField_59 rfl (lv_at hl 2 rfl) ?_
        refine lv_sipush (v := 179) hx hb d_Mod_reachField_60 (by decide) ?_
        refine lv_icmp_le (tgt := 71) hx hb d_Mod_reachField_63 (by decide) (fun h63 => ?_) (fun h63 => ?_)
        · refine lv_iload_n hx hb d_Mod_reachField_71 rfl (lv_at hl 2 rfl) ?_
          refine lv_sipush (v := 178) hx hb d_Mod_reachField_72 (by decide) ?_
          refine lv_icmp_eq (tgt := 85) hx hb d_Mod_reachField_75 (by decide) (fun h75 => ?_) (fun h75 => ?_)
          · refine lv_aload_n hx hb d_Mod_reachField_85 rfl (lv_at hl 1 rfl) ?_
            refine lv_iload_n hx hb d_Mod_reachField_86 rfl (lv_at hl 0 rfl) ?_
            refine tw_wv (wr := [((q 2), aI g 600 bs), ((q 14), aI g 620 tg), ((q 16), aI g 620 on), ((q 17), aI g 620 tw)]) (tw_runV (ws := [(h0, .inr (10, mob q rf n mm mb u30.1 u30.2.1 av ev wi mn tp tc sc nf fd me mp xn mt wh u30.2.2 ag an ig)), ((q 2), aI g 600 bs), ((q 14), aI g 620 tg), ((q 16), aI g 620 on), ((q 17), aI g 620 tw), ((q 32), aI g 160 sk), ((q 47), aI g 128 nw)]) (wc := [(h0, .inr (10, mob q rf n mm mb u30.1 u30.2.1 av ev wi mn tp tc sc nf fd me mp xn mt wh u30.2.2 ag an ig)), ((q 32), aI g 160 sk), ((q 47), aI g 128 nw)]) (As := [.int r6]) (rest := []) E hB hK hZ (g_Mod_give l g H.size h0 q rf n mm mb av ev wi mn tp tc sc nf fd me mp xn mt wh ag an ig sk u30.1 u30.2.1 u30.2.2 nw r6 s1 hNW (by omega) (by omega) hsk (by omega) (fun _ => (kn3 hB6))) mc_Mod_give mi_Mod_give me_Mod_give wd_1648 hP hD hS hA [0, 5, 6] rfl (by decide) 0 rfl rfl rfl rfl rfl (by decide) rfl hl.1 rfl (Nat.le_of_ble_eq_true rfl) (by decide) d_Mod_reachField_87) hP hD hS hA [0, 5, 6] [1, 2, 3, 4] rfl rfl (by decide) (by decide) (fun u32 H locs hr31 hP hD hS => ?_)
            try dsimp only at hr31
            have hP : va_P g.1 classes [((q 2), aI g 600 bs), ((q 14), aI g 620 tg), ((q 16), aI g 620 on), ((q 17), aI g 620 tw), (h0, .inr (10, mob q rf n mm mb u32.1 u32.2.1 av ev wi mn tp tc sc nf fd me mp xn mt wh u32.2.2.1 ag an ig)), ((q 32), aI g 160 sk), ((q 47), aI g 128 u32.2.2.2)] H := hP
            have hD : va_D A [((q 2), aI g 600 bs), ((q 14), aI g 620 tg), ((q 16), aI g 620 on), ((q 17), aI g 620 tw), (h0, .inr (10, mob q rf n mm mb u32.1 u32.2.1 av ev wi mn tp tc sc nf fd me mp xn mt wh u32.2.2.1 ag an ig)), ((q 32), aI g 160 sk), ((q 47), aI g 128 u32.2.2.2)] := hD
            have hP : va_P g.1 classes [(h0, .inr (10, mob q rf n mm mb u32.1 u32.2.1 av ev wi mn tp tc sc nf fd me mp xn mt wh u32.2.2.1 ag an ig)), ((q 2), aI g 600 bs), ((q 14), aI g 620 tg), ((q 16), aI g 620 on), ((q 17), aI g 620 tw), ((q 32), aI g 160 sk), ((q 47), aI g 128 u32.2.2.2)] H := hP.sub [4, 0, 1, 2, 3, 5, 6] rfl
            have hD : va_D A [(h0, .inr (10, mob q rf n mm mb u32.1 u32.2.1 av ev wi mn tp tc sc nf fd me mp xn mt wh u32.2.2.1 ag an ig)), ((q 2), aI g 600 bs), ((q 14), aI g 620 tg), ((q 16), aI g 620 on), ((q 17), aI g 620 tw), ((q 32), aI g 160 sk), ((q 47), aI g 128 u32.2.2.2)] := hD.sub [4, 0, 1, 2, 3, 5, 6] (by decide) rfl
            obtain ⟨hp32_0, hp32_1, hp32_2⟩ := hr31
            exact tw_vret E hS (u32.1, u32.2.1, u32.2.2.1, u32.2.2.2) (⟨(fun _ => hz4), (by first | omega | (dsimp only <;> omega)), hp32_2⟩) hP hD d_Mod_reachField_90
          · refine lv_iload_n hx hb d_Mod_reachField_78 rfl (lv_at hl 2 rfl) ?_
            refine lv_sipush (v := 180) hx hb d_Mod_reachField_79 (by decide) ?_
            refine lv_icmp_ne (tgt := 90) hx hb d_Mod_reachField_82 (by decide) (fun h82 => ?_) (fun h82 => ?_)
            · exact tw_vret E hS (u30.1, u30.2.1, u30.2.2, nw) (⟨(fun _ => hz4), (by first | omega | (dsimp only <;> omega)), hNW⟩) hP hD d_Mod_reachField_90
            · refine lv_aload_n hx hb d_Mod_reachField_85 rfl (lv_at hl 1 rfl) ?_
              refine lv_iload_n hx hb d_Mod_reachField_86 rfl (lv_at hl 0 rfl) ?_
              refine tw_wv (wr := [((q 2), aI g 600 bs), ((q 14), aI g 620 tg), ((q 16), aI g 620 on), ((q 17), aI g 620 tw)]) (tw_runV (ws := [(h0, .inr (10, mob q rf n mm mb u30.1 u30.2.1 av ev wi mn tp tc sc nf fd me mp xn mt wh u30.2.2 ag an ig)), ((q 2), aI g 600 bs), ((q 14), aI g 620 tg), ((q 16), aI g 620 on), ((q 17), aI g 620 tw), ((q 32), aI g 160 sk), ((q 47), aI g 128 nw)]) (wc := [(h0, .inr (10, mob q rf n mm mb u30.1 u30.2.1 av ev wi mn tp tc sc nf fd me mp xn mt wh u30.2.2 ag an ig)), ((q 32), aI g 160 sk), ((q 47), aI g 128 nw)]) (As := [.int r6]) (rest := []) E hB hK hZ (g_Mod_give l g H.size h0 q rf n mm mb av ev wi mn tp tc sc nf fd me mp xn mt wh ag an ig sk u30.1 u30.2.1 u30.2.2 nw r6 s1 hNW (by omega) (by omega) hsk (by omega) (fun _ => (kn3 hB6))) mc_Mod_give mi_Mod_give me_Mod_give wd_1648 hP hD hS hA [0, 5, 6] rfl (by decide) 0 rfl rfl rfl rfl rfl (by decide) rfl hl.1 rfl (Nat.le_of_ble_eq_true rfl) (by decide) d_Mod_reachField_87) hP hD hS hA [0, 5, 6] [1, 2, 3, 4] rfl rfl (by decide) (by decide) (fun u34 H locs hr33 hP hD hS => ?_)
              try dsimp only at hr33
              have hP : va_P g.1 classes [((q 2), aI g 600 bs), ((q 14), aI g 620 tg), ((q 16), aI g 620 on), ((q 17), aI g 620 tw), (h0, .inr (10, mob q rf n mm mb u34.1 u34.2.1 av ev wi mn tp tc sc nf fd me mp xn mt wh u34.2.2.1 ag an ig)), ((q 32), aI g 160 sk), ((q 47), aI g 128 u34.2.2.2)] H := hP
              have hD : va_D A [((q 2), aI g 600 bs), ((q 14), aI g 620 tg), ((q 16), aI g 620 on), ((q 17), aI g 620 tw), (h0, .inr (10, mob q rf n mm mb u34.1 u34.2.1 av ev wi mn tp tc sc nf fd me mp xn mt wh u34.2.2.1 ag an ig)), ((q 32), aI g 160 sk), ((q 47), aI g 128 u34.2.2.2)] := hD
              have hP : va_P g.1 classes [(h0, .inr (10, mob q rf n mm mb u34.1 u34.2.1 av ev wi mn tp tc sc nf fd me mp xn mt wh u34.2.2.1 ag an ig)), ((q 2), aI g 600 bs), ((q 14), aI g 620 tg), ((q 16), aI g 620 on), ((q 17), aI g 620 tw), ((q 32), aI g 160 sk), ((q 47), aI g 128 u34.2.2.2)] H := hP.sub [4, 0, 1, 2, 3, 5, 6] rfl
              have hD : va_D A [(h0, .inr (10, mob q rf n mm mb u34.1 u34.2.1 av ev wi mn tp tc sc nf fd me mp xn mt wh u34.2.2.1 ag an ig)), ((q 2), aI g 600 bs), ((q 14), aI g 620 tg), ((q 16), aI g 620 on), ((q 17), aI g 620 tw), ((q 32), aI g 160 sk), ((q 47), aI g 128 u34.2.2.2)] := hD.sub [4, 0, 1, 2, 3, 5, 6] (by decide) rfl
              obtain ⟨hp34_0, hp34_1, hp34_2⟩ := hr33
              exact tw_vret E hS (u34.1, u34.2.1, u34.2.2.1, u34.2.2.2) (⟨(fun _ => hz4), (by first | omega | (dsimp only <;> omega)), hp34_2⟩) hP hD d_Mod_reachField_90
        · refine lv_aload_n hx hb d_Mod_reachField_66 rfl (lv_at hl 1 rfl) ?_
          refine lv_iconst (v := 4) hx hb d_Mod_reachField_67 (by decide) ?_
          refine tw_wv (wr := [((q 2), aI g 600 bs), ((q 14), aI g 620 tg), ((q 16), aI g 620 on), ((q 17), aI g 620 tw), ((q 32), aI g 160 sk)]) (tw_runV (ws := [(h0, .inr (10, mob q rf n mm mb u30.1 u30.2.1 av ev wi mn tp tc sc nf fd me mp xn mt wh u30.2.2 ag an ig)), ((q 2), aI g 600 bs), ((q 14), aI g 620 tg), ((q 16), aI g 620 on), ((q 17), aI g 620 tw), ((q 32), aI g 160 sk), ((q 47), aI g 128 nw)]) (wc := [(h0, .inr (10, mob q rf n mm mb u30.1 u30.2.1 av ev wi mn tp tc sc nf fd me mp xn mt wh u30.2.2 ag an ig)), ((q 47), aI g 128 nw)]) (As := [.int 4]) (rest := []) E hB hK hZ (g_Mod_take l g H.size h0 q rf n mm mb av ev wi mn tp tc sc nf fd me mp xn mt wh ag an ig nw u30.1 u30.2.1 u30.2.2 4 hNW (by omega)) mc_Mod_take mi_Mod_take me_Mod_take wd_1668 hP hD hS hA [0, 6] rfl (by decide) 0 rfl rfl rfl rfl rfl (by decide) rfl hl.1 rfl (Nat.le_of_ble_eq_true rfl) (by decide) d_Mod_reachField_68) hP hD hS hA [0, 6] [1, 2, 3, 4, 5] rfl rfl (by decide) (by decide) (fun u36 H locs hr35 hP hD hS => ?_)
          try dsimp only at hr35
          have hP : va_P g.1 classes [((q 2), aI g 600 bs), ((q 14), aI g 620 tg), ((q 16), aI g 620 on), ((q 17), aI g 620 tw), ((q 32), aI g 160 sk), (h0, .inr (10, mob q rf n mm mb u36.1 u36.2.1 av ev wi mn tp tc sc nf fd me mp xn mt wh u36.2.2 ag an ig)), ((q 47), aI g 128 nw)] H := hP
          have hD : va_D A [((q 2), aI g 600 bs), ((q 14), aI g 620 tg), ((q 16), aI g 620 on), ((q 17), aI g 620 tw), ((q 32), aI g 160 sk), (h0, .inr (10, mob q rf n mm mb u36.1 u36.2.1 av ev wi mn tp tc sc nf fd me mp xn mt wh u36.2.2 ag an ig)), ((q 47), aI g 128 nw)] := hD
          have hP : va_P g.1 classes [(h0, .inr (10, mob q rf n mm mb u36.1 u36.2.1 av ev wi mn tp tc sc nf fd me mp xn mt wh u36.2.2 ag an ig)), ((q 2), aI g 600 bs), ((q 14), aI g 620 tg), ((q 16), aI g 620 on), ((q 17), aI g 620 tw), ((q 32), aI g 160 sk), ((q 47), aI g 128 nw)] H := hP.sub [5, 0, 1, 2, 3, 4, 6] rfl
          have hD : va_D A [(h0, .inr (10, mob q rf n mm mb u36.1 u36.2.1 av ev wi mn tp tc sc nf fd me mp xn mt wh u36.2.2 ag an ig)), ((q 2), aI g 600 bs), ((q 14), aI g 620 tg), ((q 16), aI g 620 on), ((q 17), aI g 620 tw), ((q 32), aI g 160 sk), ((q 47), aI g 128 nw)] := hD.sub [5, 0, 1, 2, 3, 4, 6] (by decide) rfl
          obtain ⟨hp36_0, hp36_1, hp36_2⟩ := hr35
          refine lv_iload_n hx hb d_Mod_reachField_71 rfl (lv_at hl 2 rfl) ?_
          refine lv_sipush (v := 178) hx hb d_Mod_reachField_72 (by decide) ?_
          refine lv_icmp_eq (tgt := 85) hx hb d_Mod_reachField_75 (by decide) (fun h75 => ?_) (fun h75 => ?_)
          · refine lv_aload_n hx hb d_Mod_reachField_85 rfl (lv_at hl 1 rfl) ?_
            refine lv_iload_n hx hb d_Mod_reachField_86 rfl (lv_at hl 0 rfl) ?_
            refine tw_wv (wr := [((q 2), aI g 600 bs), ((q 14), aI g 620 tg), ((q 16), aI g 620 on), ((q 17), aI g 620 tw)]) (tw_runV (ws := [(h0, .inr (10, mob q rf n mm mb u36.1 u36.2.1 av ev wi mn tp tc sc nf fd me mp xn mt wh u36.2.2 ag an ig)), ((q 2), aI g 600 bs), ((q 14), aI g 620 tg), ((q 16), aI g 620 on), ((q 17), aI g 620 tw), ((q 32), aI g 160 sk), ((q 47), aI g 128 nw)]) (wc := [(h0, .inr (10, mob q rf n mm mb u36.1 u36.2.1 av ev wi mn tp tc sc nf fd me mp xn mt wh u36.2.2 ag an ig)), ((q 32), aI g 160 sk), ((q 47), aI g 128 nw)]) (As := [.int r6]) (rest := []) E hB hK hZ (g_Mod_give l g H.size h0 q rf n mm mb av ev wi mn tp tc sc nf fd me mp xn mt wh ag an ig sk u36.1 u36.2.1 u36.2.2 nw r6 s1 hNW (by omega) (by omega) hsk (by omega) (fun _ => (kn3 hB6))) mc_Mod_give mi_Mod_give me_Mod_give wd_1648 hP hD hS hA [0, 5, 6] rfl (by decide) 0 rfl rfl rfl rfl rfl (by decide) rfl hl.1 rfl (Nat.le_of_ble_eq_true rfl) (by decide) d_Mod_reachField_87) hP hD hS hA [0, 5, 6] [1, 2, 3, 4] rfl rfl (by decide) (by decide) (fun u38 H locs hr37 hP hD hS => ?_)
            try dsimp only at hr37
            have hP : va_P g.1 classes [((q 2), aI g 600 bs), ((q 14), aI g 620 tg), ((q 16), aI g 620 on), ((q 17), aI g 620 tw), (h0, .inr (10, mob q rf n mm mb u38.1 u38.2.1 av ev wi mn tp tc sc nf fd me mp xn mt wh u38.2.2.1 ag an ig)), ((q 32), aI g 160 sk), ((q 47), aI g 128 u38.2.2.2)] H := hP
            have hD : va_D A [((q 2), aI g 600 bs), ((q 14), aI g 620 tg), ((q 16), aI g 620 on), ((q 17), aI g 620 tw), (h0, .inr (10, mob q rf n mm mb u38.1 u38.2.1 av ev wi mn tp tc sc nf fd me mp xn mt wh u38.2.2.1 ag an ig)), ((q 32), aI g 160 sk), ((q 47), aI g 128 u38.2.2.2)] := hD
            have hP : va_P g.1 classes [(h0, .inr (10, mob q rf n mm mb u38.1 u38.2.1 av ev wi mn tp tc sc nf fd me mp xn mt wh u38.2.2.1 ag an ig)), ((q 2), aI g 600 bs), ((q 14), aI g 620 tg), ((q 16), aI g 620 on), ((q 17), aI g 620 tw), ((q 32), aI g 160 sk), ((q 47), aI g 128 u38.2.2.2)] H := hP.sub [4, 0, 1, 2, 3, 5, 6] rfl
            have hD : va_D A [(h0, .inr (10, mob q rf n mm mb u38.1 u38.2.1 av ev wi mn tp tc sc nf fd me mp xn mt wh u38.2.2.1 ag an ig)), ((q 2), aI g 600 bs), ((q 14), aI g 620 tg), ((q 16), aI g 620 on), ((q 17), aI g 620 tw), ((q 32), aI g 160 sk), ((q 47), aI g 128 u38.2.2.2)] := hD.sub [4, 0, 1, 2, 3, 5, 6] (by decide) rfl
            obtain ⟨hp38_0, hp38_1, hp38_2⟩ := hr37
            exact tw_vret E hS (u38.1, u38.2.1, u38.2.2.1, u38.2.2.2) (⟨(fun _ => hz4), (by first | omega | (dsimp only <;> omega)), hp38_2⟩) hP hD d_Mod_reachField_90
          · refine lv_iload_n hx hb d_Mod_reachField_78 rfl (lv_at hl 2 rfl) ?_
            refine lv_sipush (v := 180) hx hb d_Mod_reachField_79 (by decide) ?_
            refine lv_icmp_ne (tgt := 90) hx hb d_Mod_reachField_82 (by decide) (fun h82 => ?_) (fun h82 => ?_)
            · exact tw_vret E hS (u36.1, u36.2.1, u36.2.2, nw) (⟨(fun _ => hz4), (by first | omega | (dsimp only <;> omega)), hNW⟩) hP hD d_Mod_reachField_90
            · refine lv_aload_n hx hb d_Mod_reachField_85 rfl (lv_at hl 1 rfl) ?_
              refine lv_iload_n hx hb d_Mod_reachField_86 rfl (lv_at hl 0 rfl) ?_
              refine tw_wv (wr := [((q 2), aI g 600 bs), ((q 14), aI g 620 tg), ((q 16), aI g 620 on), ((q 17), aI g 620 tw)]) (tw_runV (ws := [(h0, .inr (10, mob q rf n mm mb u36.1 u36.2.1 av ev wi mn tp tc sc nf fd me mp xn mt wh u36.2.2 ag an ig)), ((q 2), aI g 600 bs), ((q 14), aI g 620 tg), ((q 16), aI g 620 on), ((q 17), aI g 620 tw), ((q 32), aI g 160 sk), ((q 47), aI g 128 nw)]) (wc := [(h0, .inr (10, mob q rf n mm mb u36.1 u36.2.1 av ev wi mn tp tc sc nf fd me mp xn mt wh u36.2.2 ag an ig)), ((q 32), aI g 160 sk), ((q 47), aI g 128 nw)]) (As := [.int r6]) (rest := []) E hB hK hZ (g_Mod_give l g H.size h0 q rf n mm mb av ev wi mn tp tc sc nf fd me mp xn mt wh ag an ig sk u36.1 u36.2.1 u36.2.2 nw r6 s1 hNW (by omega) (by omega) hsk (by omega) (fun _ => (kn3 hB6))) mc_Mod_give mi_Mod_give me_Mod_give wd_1648 hP hD hS hA [0, 5, 6] rfl (by decide) 0 rfl rfl rfl rfl rfl (by decide) rfl hl.1 rfl (Nat.le_of_ble_eq_true rfl) (by decide) d_Mod_reachField_87) hP hD hS hA [0, 5, 6] [1, 2, 3, 4] rfl rfl (by decide) (by decide) (fun u40 H locs hr39 hP hD hS => ?_)
              try dsimp only at hr39
              have hP : va_P g.1 classes [((q 2), aI g 600 bs), ((q 14), aI g 620 tg), ((q 16), aI g 620 on), ((q 17), aI g 620 tw), (h0, .inr (10, mob q rf n mm mb u40.1 u40.2.1 av ev wi mn tp tc sc nf fd me mp xn mt wh u40.2.2.1 ag an ig)), ((q 32), aI g 160 sk), ((q 47), aI g 128 u40.2.2.2)] H := hP
              have hD : va_D A [((q 2), aI g 600 bs), ((q 14), aI g 620 tg), ((q 16), aI g 620 on), ((q 17), aI g 620 tw), (h0, .inr (10, mob q rf n mm mb u40.1 u40.2.1 av ev wi mn tp tc sc nf fd me mp xn mt wh u40.2.2.1 ag an ig)), ((q 32), aI g 160 sk), ((q 47), aI g 128 u40.2.2.2)] := hD
              have hP : va_P g.1 classes [(h0, .inr (10, mob q rf n mm mb u40.1 u40.2.1 av ev wi mn tp tc sc nf fd me mp xn mt wh u40.2.2.1 ag an ig)), ((q 2), aI g 600 bs), ((q 14), aI g 620 tg), ((q 16), aI g 620 on), ((q 17), aI g 620 tw), ((q 32), aI g 160 sk), ((q 47), aI g 128 u40.2.2.2)] H := hP.sub [4, 0, 1, 2, 3, 5, 6] rfl
              have hD : va_D A [(h0, .inr (10, mob q rf n mm mb u40.1 u40.2.1 av ev wi mn tp tc sc nf fd me mp xn mt wh u40.2.2.1 ag an ig)), ((q 2), aI g 600 bs), ((q 14), aI g 620 tg), ((q 16), aI g 620 on), ((q 17), aI g 620 tw), ((q 32), aI g 160 sk), ((q 47), aI g 128 u40.2.2.2)] := hD.sub [4, 0, 1, 2, 3, 5, 6] (by decide) rfl
              obtain ⟨hp40_0, hp40_1, hp40_2⟩ := hr39
              exact tw_vret E hS (u40.1, u40.2.1, u40.2.2.1, u40.2.2.2) (⟨(fun _ => hz4), (by first | omega | (dsimp only <;> omega)), hp40_2⟩) hP hD d_Mod_reachField_90
  · exact tw_vret E hS (u3.1, u3.2, tq, nw) (⟨(fun h => absurd h h15), (by first | omega | (dsimp only <;> omega)), hNW⟩) hP hD d_Mod_reachField_18
set_option maxHeartbeats 4000000 in
set_option maxRecDepth 100000 in
theorem g_Mod_call (l : Launch) (g : tw_G) (sz : Nat) (h0 : Nat) (q : Nat → Nat) (rf : Int32) (n : Nat) (mm : Int32) (mb : Int32) (av : Nat) (ev : Nat) (wi : Int32) (mn : Nat) (tp : Int32) (tc : Int32) (sc : Int32) (nf : Nat) (fd : Nat) (me : Nat) (mp : Int32) (xn : Nat) (mt : Nat) (wh : Nat) (ig : Int32) (bs : Nat → Int32) (tg : Nat → Int32) (on : Nat → Int32) (tw : Nat → Int32) (sk : Nat → Int32) (fa : Int32) (fp : Int32) (tq : Nat) (ag : Nat) (an : Int32) (nw : Nat → Int32) (ak : Nat → Int32) (c1 : Nat) (k : Nat) (s1 : Nat) (hNW : NOW nw) (htq : tq ≤ 64) (hmt : mt < 160) (hsk : sk mt = nI s1) (hs64 : s1 ≤ 64) (hmn : mn ≤ 620) (hTX : TXT tg on tw) (hLCA : LCA mn tg on tw) (hMCA : ∀ j, 0 < j → j < mn → MC1 bs tg on tw j) (hk65 : k < 65536) : Met l y_Mod_call [.code y_Mod_call b_Mod_call 4 none] ({ frames := 5, cells := 0, slots := 0, locals := 117 }) (tw_P g [.ref h0, .int (nI c1), .int (nI k)] [(h0, .inr (10, mob q rf n mm mb fa fp av ev wi mn tp tc sc nf fd me mp xn mt wh tq ag an ig)), ((q 2), aI g 600 bs), ((q 14), aI g 620 tg), ((q 16), aI g 620 on), ((q 17), aI g 620 tw), ((q 32), aI g 160 sk), ((q 47), aI g 128 nw), ((q 50), aI g 600 ak)] sz) (tw_Qv g (fun (u : Int32 × Int32 × Nat × Nat × Int32 × (Nat → Int32) × (Nat → Int32)) => (u.1 = 0 → fa = 0) ∧ (u.2.2.1 ≤ 64) ∧ (NOW u.2.2.2.2.2.1)) (fun u : Int32 × Int32 × Nat × Nat × Int32 × (Nat → Int32) × (Nat → Int32) => [(h0, .inr (10, mob q rf n mm mb u.1 u.2.1 av ev wi mn tp tc sc nf fd me mp xn mt wh u.2.2.1 u.2.2.2.1 u.2.2.2.2.1 ig)), ((q 2), aI g 600 bs), ((q 14), aI g 620 tg), ((q 16), aI g 620 on), ((q 17), aI g 620 tw), ((q 32), aI g 160 sk), ((q 47), aI g 128 u.2.2.2.2.2.1), ((q 50), aI g 600 u.2.2.2.2.2.2)]) (va_A [(h0, .inr (10, mob q rf n mm mb fa fp av ev wi mn tp tc sc nf fd me mp xn mt wh tq ag an ig)), ((q 2), aI g 600 bs), ((q 14), aI g 620 tg), ((q 16), aI g 620 on), ((q 17), aI g 620 tw), ((q 32), aI g 160 sk), ((q 47), aI g 128 nw), ((q 50), aI g 600 ak)] sz)) 0 0 (va_A [(h0, .inr (10, mob q rf n mm mb fa fp av ev wi mn tp tc sc nf fd me mp xn mt wh tq ag an ig)), ((q 2), aI g 600 bs), ((q 14), aI g 620 tg), ((q 16), aI g 620 on), ((q 17), aI g 620 tw), ((q 32), aI g 160 sk), ((q 47), aI g 128 nw), ((q 50), aI g 600 ak)] sz) := by
  refine tw_metW (l := l) (g := g) (y := y_Mod_call) (cc := b_Mod_call) (maxL := 4) (ret := none) (rm := { frames := 5, cells := 0, slots := 0, locals := 117 }) (mc := 0) (ms := 0) (av := [.ref h0, .int (nI c1), .int (nI k)]) (ws := [(h0, .inr (10, mob q rf n mm mb fa fp av ev wi mn tp tc sc nf fd me mp xn mt wh tq ag an ig)), ((q 2), aI g 600 bs), ((q 14), aI g 620 tg), ((q 16), aI g 620 on), ((q 17), aI g 620 tw), ((q 32), aI g 160 sk), ((q 47), aI g 128 nw), ((q 50), aI g 600 ak)]) (sz := sz) (Qc := fun A => (tw_Qv g (fun (u : Int32 × Int32 × Nat × Nat × Int32 × (Nat → Int32) × (Nat → Int32)) => (u.1 = 0 → fa = 0) ∧ (u.2.2.1 ≤ 64) ∧ (NOW u.2.2.2.2.2.1)) (fun u : Int32 × Int32 × Nat × Nat × Int32 × (Nat → Int32) × (Nat → Int32) => [(h0, .inr (10, mob q rf n mm mb u.1 u.2.1 av ev wi mn tp tc sc nf fd me mp xn mt wh u.2.2.1 u.2.2.2.1 u.2.2.2.2.1 ig)), ((q 2), aI g 600 bs), ((q 14), aI g 620 tg), ((q 16), aI g 620 on), ((q 17), aI g 620 tw), ((q 32), aI g 160 sk), ((q 47), aI g 128 u.2.2.2.2.2.1), ((q 50), aI g 600 u.2.2.2.2.2.2)]) A)) (by decide) (Nat.le_of_ble_eq_true rfl) ?_
  intro p e s m below meth c ls H A E hB hK hZ hP hD hS hA hl
  obtain ⟨hx, hb, hml, hr, hown, hts, hlocks, hin⟩ := id E
  have hl : lv_has ls 4 [(0, .ref h0), (1, .int (nI c1)), (2, .int (nI k))] := hl
  refine lv_aload_n hx hb d_Mod_call_0 rfl (lv_at hl 0 rfl) ?_
  refine lv_aload_n hx hb d_Mod_call_1 rfl (lv_at hl 0 rfl) ?_
  refine lv_iload_n hx hb d_Mod_call_2 rfl (lv_at hl 2 rfl) ?_
  refine lv_bipush (v := 10) hx hb d_Mod_call_3 (by decide) ?_
  refine tw_si (tw_runV (ws := [(h0, .inr (10, mob q rf n mm mb fa fp av ev wi mn tp tc sc nf fd me mp xn mt wh tq ag an ig)), ((q 2), aI g 600 bs), ((q 14), aI g 620 tg), ((q 16), aI g 620 on), ((q 17), aI g 620 tw), ((q 32), aI g 160 sk), ((q 47), aI g 128 nw), ((q 50), aI g 600 ak)]) (wc := [(h0, .inr (10, mob q rf n mm mb fa fp av ev wi mn tp tc sc nf fd me mp xn mt wh tq ag an ig)), ((q 14), aI g 620 tg)]) (As := [.int (nI k), .int 10]) (rest := [.ref h0]) E hB hK hZ (g_Mod_isTagN l g H.size h0 q rf n mm mb fa fp av ev wi mn tp tc sc nf fd me mp xn mt wh tq ag an ig tg k 10 (by omega) (by omega)) mc_Mod_isTag mi_Mod_isTag me_Mod_isTag wd_1508 hP hD hS hA [0, 2] rfl (by decide) 0 rfl rfl rfl rfl rfl (by decide) rfl hl.1 rfl (Nat.le_of_ble_eq_true rfl) (by decide) d_Mod_call_5) (fun r1 hr1 => ?_)
  have hB1 := hr1
  refine tw_wv (wr := [((q 2), aI g 600 bs), ((q 14), aI g 620 tg), ((q 16), aI g 620 on), ((q 17), aI g 620 tw), ((q 32), aI g 160 sk), ((q 47), aI g 128 nw), ((q 50), aI g 600 ak)]) (tw_runV (ws := [(h0, .inr (10, mob q rf n mm mb fa fp av ev wi mn tp tc sc nf fd me mp xn mt wh tq ag an ig)), ((q 2), aI g 600 bs), ((q 14), aI g 620 tg), ((q 16), aI g 620 on), ((q 17), aI g 620 tw), ((q 32), aI g 160 sk), ((q 47), aI g 128 nw), ((q 50), aI g 600 ak)]) (wc := [(h0, .inr (10, mob q rf n mm mb fa fp av ev wi mn tp tc sc nf fd me mp xn mt wh tq ag an ig))]) (As := [.int r1]) (rest := []) E hB hK hZ (g_Mod_refer l g H.size h0 q rf n mm mb av ev wi mn tp tc sc nf fd me mp xn mt wh tq ag an ig fa fp r1) mc_Mod_refer mi_Mod_refer me_Mod_refer wd_1652 hP hD hS hA [0] rfl (by decide) 0 rfl rfl rfl rfl rfl (by decide) rfl hl.1 rfl (Nat.le_of_ble_eq_true rfl) (by decide) d_Mod_call_8) hP hD hS hA [0] [1, 2, 3, 4, 5, 6, 7] rfl rfl (by decide) (by decide) (fun u3 H locs hr2 hP hD hS => ?_)
  try dsimp only at hr2
  have hP : va_P g.1 classes [((q 2), aI g 600 bs), ((q 14), aI g 620 tg), ((q 16), aI g 620 on), ((q 17), aI g 620 tw), ((q 32), aI g 160 sk), ((q 47), aI g 128 nw), ((q 50), aI g 600 ak), (h0, .inr (10, mob q rf n mm mb u3.1 u3.2 av ev wi mn tp tc sc nf fd me mp xn mt wh tq ag an ig))] H := hP
  have hD : va_D A [((q 2), aI g 600 bs), ((q 14), aI g 620 tg), ((q 16), aI g 620 on), ((q 17), aI g 620 tw), ((q 32), aI g 160 sk), ((q 47), aI g 128 nw), ((q 50), aI g 600 ak), (h0, .inr (10, mob q rf n mm mb u3.1 u3.2 av ev wi mn tp tc sc nf fd me mp xn mt wh tq ag an ig))] := hD
  have hP : va_P g.1 classes [(h0, .inr (10, mob q rf n mm mb u3.1 u3.2 av ev wi mn tp tc sc nf fd me mp xn mt wh tq ag an ig)), ((q 2), aI g 600 bs), ((q 14), aI g 620 tg), ((q 16), aI g 620 on), ((q 17), aI g 620 tw), ((q 32), aI g 160 sk), ((q 47), aI g 128 nw), ((q 50), aI g 600 ak)] H := hP.sub [7, 0, 1, 2, 3, 4, 5, 6] rfl
  have hD : va_D A [(h0, .inr (10, mob q rf n mm mb u3.1 u3.2 av ev wi mn tp tc sc nf fd me mp xn mt wh tq ag an ig)), ((q 2), aI g 600 bs), ((q 14), aI g 620 tg), ((q 16), aI g 620 on), ((q 17), aI g 620 tw), ((q 32), aI g 160 sk), ((q 47), aI g 128 nw), ((q 50), aI g 600 ak)] := hD.sub [7, 0, 1, 2, 3, 4, 5, 6] (by decide) rfl
  obtain ⟨hp3_0, hp3_1⟩ := hr2
  refine lv_aload_n hx hb d_Mod_call_11 rfl (lv_at hl 0 rfl) ?_
  refine va_get (D := g.1) (ci := 10) (v := .int u3.1) (C := R_Mod) (T := F_Mod) (N := 61) hx hb hts in_Mod hown hK hP 0 rfl rfl 8 (by decide) (hts _ wd_1258) (fun _ h9 => h9) rfl d_Mod_call_12 ?_
  refine lv_if_ne (tgt := 53) hx hb d_Mod_call_15 (by decide) (fun h15 => ?_) (fun h15 => ?_)
  · refine lv_aload_n hx hb d_Mod_call_53 rfl (lv_at hl 0 rfl) ?_
    refine va_get (D := g.1) (ci := 10) (v := .int u3.1) (C := R_Mod) (T := F_Mod) (N := 61) hx hb hts in_Mod hown hK hP 0 rfl rfl 8 (by decide) (hts _ wd_1258) (fun _ h9 => h9) rfl d_Mod_call_54 ?_
    refine lv_if_eq (tgt := 61) hx hb d_Mod_call_57 (by decide) (fun h57 => ?_) (fun h57 => ?_)
    · exact absurd h57 h15
    · exact tw_vret E hS (u3.1, u3.2, tq, ag, an, nw, ak) (⟨(fun h => absurd h h57), (by first | omega | (dsimp only <;> omega)), hNW⟩) hP hD d_Mod_call_60
  · have hz4 := hp3_0 h15
    have hz5 := hp3_1 h15
    obtain ⟨hk0, hkm, hkt⟩ := hB1.2 (hB1.1.resolve_left hz5)
    obtain ⟨j2, jt, pf, lf, m1, m2, m3, m4, m5, m6, m7, m8⟩ := (hMCA k hk0 hkm).2 hkt
    obtain ⟨j3, jn, jt3, pn, ln1, pt3, lt3, q1, q2, q3, q4, q5, q6, q7, q8, q9, q10, q11, q12⟩ := lk_pair hLCA hTX hmn hk0 hkm (Or.inr hkt)
    refine lv_iload_n hx hb d_Mod_call_18 rfl (lv_at hl 1 rfl) ?_
    refine lv_sipush (v := 183) hx hb d_Mod_call_19 (by decide) ?_
    refine lv_icmp_eq (tgt := 53) hx hb d_Mod_call_22 (by decide) (fun h22 => ?_) (fun h22 => ?_)
    · refine lv_aload_n hx hb d_Mod_call_53 rfl (lv_at hl 0 rfl) ?_
      refine va_get (D := g.1) (ci := 10) (v := .int u3.1) (C := R_Mod) (T := F_Mod) (N := 61) hx hb hts in_Mod hown hK hP 0 rfl rfl 8 (by decide) (hts _ wd_1258) (fun _ h9 => h9) rfl d_Mod_call_54 ?_
      refine lv_if_eq (tgt := 61) hx hb d_Mod_call_57 (by decide) (fun h57 => ?_) (fun h57 => ?_)
      · have hz6 := hp3_0 h57
        have hz7 := hp3_1 h57
        refine lv_aload_n hx hb d_Mod_call_61 rfl (lv_at hl 0 rfl) ?_
        refine lv_aload_n hx hb d_Mod_call_62 rfl (lv_at hl 0 rfl) ?_
        refine va_get (D := g.1) (ci := 10) (v := .ref (q 17)) (C := R_Mod) (T := F_Mod) (N := 61) hx hb hts in_Mod hown hK hP 0 rfl rfl 17 (by decide) (hts _ wd_1267) (fun _ h9 => h9) rfl d_Mod_call_63 ?_
        refine lv_aload_n hx hb d_Mod_call_66 rfl (lv_at hl 0 rfl) ?_
        refine va_get (D := g.1) (ci := 10) (v := .ref (q 17)) (C := R_Mod) (T := F_Mod) (N := 61) hx hb hts in_Mod hown hK hP 0 rfl rfl 17 (by decide) (hts _ wd_1267) (fun _ h9 => h9) rfl d_Mod_call_67 ?_
        refine lv_iload_n hx hb d_Mod_call_70 rfl (lv_at hl 2 rfl) ?_
        refine va_iald hx hb hK hP 4 0 rfl rfl (vp_in_nI (by omega) (by decide)) d_Mod_call_71 ?_
        refine tw_ri (e2 := nI j2) (by rw [nI_clamp (by omega)]; exact m1) ?_
        refine va_iald hx hb hK hP 4 0 rfl rfl (vp_in_nI (by omega) (by decide)) d_Mod_call_72 ?_
        refine tw_ri (e2 := nI jt) (by rw [nI_clamp (by omega)]; exact m3) ?_
        refine tw_wv (wr := [((q 14), aI g 620 tg), ((q 32), aI g 160 sk), ((q 47), aI g 128 nw)]) (tw_runV (ws := [(h0, .inr (10, mob q rf n mm mb u3.1 u3.2 av ev wi mn tp tc sc nf fd me mp xn mt wh tq ag an ig)), ((q 2), aI g 600 bs), ((q 14), aI g 620 tg), ((q 16), aI g 620 on), ((q 17), aI g 620 tw), ((q 32), aI g 160 sk), ((q 47), aI g 128 nw), ((q 50), aI g 600 ak)]) (wc := [(h0, .inr (10, mob q rf n mm mb u3.1 u3.2 av ev wi mn tp tc sc nf fd me mp xn mt wh tq ag an ig)), ((q 2), aI g 600 bs), ((q 16), aI g 620 on), ((q 17), aI g 620 tw), ((q 50), aI g 600 ak)]) (As := [.int (nI jt)]) (rest := []) E hB hK hZ (g_Mod_readTypes l g H.size h0 q rf n mm mb u3.1 u3.2 av ev wi mn tp tc sc nf fd me mp xn mt wh tq ig bs on tw ag an ak jt pf lf (by omega) m5 m6 m7 m8) mc_Mod_readTypes mi_Mod_readTypes me_Mod_readTypes wd_1628 hP hD hS hA [0, 1, 3, 4, 7] rfl (by decide) 0 rfl rfl rfl rfl rfl (by decide) rfl hl.1 rfl (Nat.le_of_ble_eq_true rfl) (by decide) d_Mod_call_73) hP hD hS hA [0, 1, 3, 4, 7] [2, 5, 6] rfl rfl (by decide) (by decide) (fun u9 H locs hr8 hP hD hS => ?_)
        try dsimp only at hr8
        have hP : va_P g.1 classes [((q 14), aI g 620 tg), ((q 32), aI g 160 sk), ((q 47), aI g 128 nw), (h0, .inr (10, mob q rf n mm mb u3.1 u3.2 av ev wi mn tp tc sc nf fd me mp xn mt wh tq u9.1 u9.2.1 ig)), ((q 2), aI g 600 bs), ((q 16), aI g 620 on), ((q 17), aI g 620 tw), ((q 50), aI g 600 u9.2.2)] H := hP
        have hD : va_D A [((q 14), aI g 620 tg), ((q 32), aI g 160 sk), ((q 47), aI g 128 nw), (h0, .inr (10, mob q rf n mm mb u3.1 u3.2 av ev wi mn tp tc sc nf fd me mp xn mt wh tq u9.1 u9.2.1 ig)), ((q 2), aI g 600 bs), ((q 16), aI g 620 on), ((q 17), aI g 620 tw), ((q 50), aI g 600 u9.2.2)] := hD
        have hP : va_P g.1 classes [(h0, .inr (10, mob q rf n mm mb u3.1 u3.2 av ev wi mn tp tc sc nf fd me mp xn mt wh tq u9.1 u9.2.1 ig)), ((q 2), aI g 600 bs), ((q 14), aI g 620 tg), ((q 16), aI g 620 on), ((q 17), aI g 620 tw), ((q 32), aI g 160 sk), ((q 47), aI g 128 nw), ((q 50), aI g 600 u9.2.2)] H := hP.sub [3, 4, 0, 5, 6, 1, 2, 7] rfl
        have hD : va_D A [(h0, .inr (10, mob q rf n mm mb u3.1 u3.2 av ev wi mn tp tc sc nf fd me mp xn mt wh tq u9.1 u9.2.1 ig)), ((q 2), aI g 600 bs), ((q 14), aI g 620 tg), ((q 16), aI g 620 on), ((q 17), aI g 620 tw), ((q 32), aI g 160 sk), ((q 47), aI g 128 nw), ((q 50), aI g 600 u9.2.2)] := hD.sub [3, 4, 0, 5, 6, 1, 2, 7] (by decide) rfl
        obtain ⟨hp9_0, hp9_1, hp9_2⟩ := hr8
        refine lv_aload_n hx hb d_Mod_call_76 rfl (lv_at hl 0 rfl) ?_
        refine va_get (D := g.1) (ci := 10) (v := .int (nI u9.1)) (C := R_Mod) (T := F_Mod) (N := 61) hx hb hts in_Mod hown hK hP 0 rfl rfl 49 (by decide) (hts _ wd_1299) (fun _ h9 => h9) rfl d_Mod_call_77 ?_
        refine lv_iconst (v := 1) hx hb d_Mod_call_80 (by decide) ?_
        refine lv_isub hx hb d_Mod_call_81 ?_
        refine tw_ri (e2 := (nI u9.1) - 1) rfl ?_
        refine lv_istore_n hx hb d_Mod_call_82 rfl hl (by decide) rfl (fun ls hl => ?_)
        have hl : lv_has ls 4 [(3, .int ((nI u9.1) - 1)), (0, .ref h0), (1, .int (nI c1)), (2, .int (nI k))] := hl
        have loop83 : ∀ (kq : Nat) (q9z : Nat) (fa9 : Int32) (fp9 : Int32) (tq9 : Nat) (ls : Array Slot) (H : Heap) (locs : List Loc) , q9z = kq → (hc9 : fa9 = 0 → u3.1 = 0) → (ht9 : tq9 ≤ 64) → (hq9 : q9z ≤ u9.1) → lv_has ls 4 [(3, .int (nI q9z - 1)), (0, .ref h0), (1, .int (nI c1)), (2, .int (nI k))] → va_P g.1 classes [(h0, .inr (10, mob q rf n mm mb fa9 fp9 av ev wi mn tp tc sc nf fd me mp xn mt wh tq9 u9.1 u9.2.1 ig)), ((q 2), aI g 600 bs), ((q 14), aI g 620 tg), ((q 16), aI g 620 on), ((q 17), aI g 620 tw), ((q 32), aI g 160 sk), ((q 47), aI g 128 nw), ((q 50), aI g 600 u9.2.2)] H → va_D A [(h0, .inr (10, mob q rf n mm mb fa9 fp9 av ev wi mn tp tc sc nf fd me mp xn mt wh tq9 u9.1 u9.2.1 ig)), ((q 2), aI g 600 bs), ((q 14), aI g 620 tg), ((q 16), aI g 620 on), ((q 17), aI g 620 tw), ((q 32), aI g 160 sk), ((q 47), aI g 128 nw), ((q 50), aI g 600 u9.2.2)] → va_S A s.heap H locs → W p l e ({ frames := 5, cells := 0, slots := 0, locals := 117 }) s m [.ref h0, .int (nI c1), .int (nI k)].toArray below meth c H locs 0 0 (MQ below (tw_Qv g (fun (u : Int32 × Int32 × Nat × Nat × Int32 × (Nat → Int32) × (Nat → Int32)) => (u.1 = 0 → fa = 0) ∧ (u.2.2.1 ≤ 64) ∧ (NOW u.2.2.2.2.2.1)) (fun u : Int32 × Int32 × Nat × Nat × Int32 × (Nat → Int32) × (Nat → Int32) => [(h0, .inr (10, mob q rf n mm mb u.1 u.2.1 av ev wi mn tp tc sc nf fd me mp xn mt wh u.2.2.1 u.2.2.2.1 u.2.2.2.2.1 ig)), ((q 2), aI g 600 bs), ((q 14), aI g 620 tg), ((q 16), aI g 620 on), ((q 17), aI g 620 tw), ((q 32), aI g 160 sk), ((q 47), aI g 128 u.2.2.2.2.2.1), ((q 50), aI g 600 u.2.2.2.2.2.2)]) A) [.ref h0, .int (nI c1), .int (nI k)].toArray s 0 0 A) (F0 m 83 ls []) := by
          intro kq
          induction kq using Nat.strongRecOn with
          | _ kq ih =>
            intro q9z fa9 fp9 tq9 ls H locs hk hc9 ht9 hq9 hl hP hD hS
            refine lv_iload_n hx hb d_Mod_call_83 rfl (lv_at hl 0 rfl) ?_
            refine lv_if_lt (tgt := 103) hx hb d_Mod_call_84 (by decide) (fun h84 => ?_) (fun h84 => ?_)
            · refine lv_iload_n hx hb d_Mod_call_103 rfl (lv_at hl 2 rfl) ?_
              refine lv_sipush (v := 184) hx hb d_Mod_call_104 (by decide) ?_
              refine lv_icmp_eq (tgt := 115) hx hb d_Mod_call_107 (by decide) (fun h107 => ?_) (fun h107 => ?_)
              · refine lv_aload_n hx hb d_Mod_call_115 rfl (lv_at hl 1 rfl) ?_
                refine lv_aload_n hx hb d_Mod_call_116 rfl (lv_at hl 1 rfl) ?_
                refine va_get (D := g.1) (ci := 10) (v := .int u9.2.1) (C := R_Mod) (T := F_Mod) (N := 61) hx hb hts in_Mod hown hK hP 0 rfl rfl 51 (by decide) (hts _ wd_1301) (fun _ h9 => h9) rfl d_Mod_call_117 ?_
                refine tw_wv (wr := [((q 2), aI g 600 bs), ((q 14), aI g 620 tg), ((q 16), aI g 620 on), ((q 17), aI g 620 tw), ((q 50), aI g 600 u9.2.2)]) (tw_runV (ws := [(h0, .inr (10, mob q rf n mm mb fa9 fp9 av ev wi mn tp tc sc nf fd me mp xn mt wh tq9 u9.1 u9.2.1 ig)), ((q 2), aI g 600 bs), ((q 14), aI g 620 tg), ((q 16), aI g 620 on), ((q 17), aI g 620 tw), ((q 32), aI g 160 sk), ((q 47), aI g 128 nw), ((q 50), aI g 600 u9.2.2)]) (wc := [(h0, .inr (10, mob q rf n mm mb fa9 fp9 av ev wi mn tp tc sc nf fd me mp xn mt wh tq9 u9.1 u9.2.1 ig)), ((q 32), aI g 160 sk), ((q 47), aI g 128 nw)]) (As := [.int u9.2.1]) (rest := []) E hB hK hZ (g_Mod_giveAnswer l g H.size h0 q rf n mm mb av ev wi mn tp tc sc nf fd me mp xn mt wh u9.1 u9.2.1 ig sk fa9 fp9 tq9 nw u9.2.1 s1 hNW (by omega) (by omega) hsk (by omega) (kn3 hp9_2)) mc_Mod_giveAnswer mi_Mod_giveAnswer me_Mod_giveAnswer wd_1692 hP hD hS hA [0, 5, 6] rfl (by decide) 0 rfl rfl rfl rfl rfl (by decide) rfl hl.1 rfl (Nat.le_of_ble_eq_true rfl) (by decide) d_Mod_call_120) hP hD hS hA [0, 5, 6] [1, 2, 3, 4, 7] rfl rfl (by decide) (by decide) (fun u11 H locs hr10 hP hD hS => ?_)
                try dsimp only at hr10
                have hP : va_P g.1 classes [((q 2), aI g 600 bs), ((q 14), aI g 620 tg), ((q 16), aI g 620 on), ((q 17), aI g 620 tw), ((q 50), aI g 600 u9.2.2), (h0, .inr (10, mob q rf n mm mb u11.1 u11.2.1 av ev wi mn tp tc sc nf fd me mp xn mt wh u11.2.2.1 u9.1 u9.2.1 ig)), ((q 32), aI g 160 sk), ((q 47), aI g 128 u11.2.2.2)] H := hP
                have hD : va_D A [((q 2), aI g 600 bs), ((q 14), aI g 620 tg), ((q 16), aI g 620 on), ((q 17), aI g 620 tw), ((q 50), aI g 600 u9.2.2), (h0, .inr (10, mob q rf n mm mb u11.1 u11.2.1 av ev wi mn tp tc sc nf fd me mp xn mt wh u11.2.2.1 u9.1 u9.2.1 ig)), ((q 32), aI g 160 sk), ((q 47), aI g 128 u11.2.2.2)] := hD
                have hP : va_P g.1 classes [(h0, .inr (10, mob q rf n mm mb u11.1 u11.2.1 av ev wi mn tp tc sc nf fd me mp xn mt wh u11.2.2.1 u9.1 u9.2.1 ig)), ((q 2), aI g 600 bs), ((q 14), aI g 620 tg), ((q 16), aI g 620 on), ((q 17), aI g 620 tw), ((q 32), aI g 160 sk), ((q 47), aI g 128 u11.2.2.2), ((q 50), aI g 600 u9.2.2)] H := hP.sub [5, 0, 1, 2, 3, 6, 7, 4] rfl
                have hD : va_D A [(h0, .inr (10, mob q rf n mm mb u11.1 u11.2.1 av ev wi mn tp tc sc nf fd me mp xn mt wh u11.2.2.1 u9.1 u9.2.1 ig)), ((q 2), aI g 600 bs), ((q 14), aI g 620 tg), ((q 16), aI g 620 on), ((q 17), aI g 620 tw), ((q 32), aI g 160 sk), ((q 47), aI g 128 u11.2.2.2), ((q 50), aI g 600 u9.2.2)] := hD.sub [5, 0, 1, 2, 3, 6, 7, 4] (by decide) rfl
                obtain ⟨hp11_0, hp11_1, hp11_2⟩ := hr10
                exact tw_vret E hS (u11.1, u11.2.1, u11.2.2.1, u9.1, u9.2.1, u11.2.2.2, u9.2.2) (⟨(fun _ => hz6), (by first | omega | (dsimp only <;> omega)), hp11_2⟩) hP hD d_Mod_call_123
              · refine lv_aload_n hx hb d_Mod_call_110 rfl (lv_at hl 1 rfl) ?_
                refine lv_iconst (v := 4) hx hb d_Mod_call_111 (by decide) ?_
                refine tw_wv (wr := [((q 2), aI g 600 bs), ((q 14), aI g 620 tg), ((q 16), aI g 620 on), ((q 17), aI g 620 tw), ((q 32), aI g 160 sk), ((q 50), aI g 600 u9.2.2)]) (tw_runV (ws := [(h0, .inr (10, mob q rf n mm mb fa9 fp9 av ev wi mn tp tc sc nf fd me mp xn mt wh tq9 u9.1 u9.2.1 ig)), ((q 2), aI g 600 bs), ((q 14), aI g 620 tg), ((q 16), aI g 620 on), ((q 17), aI g 620 tw), ((q 32), aI g 160 sk), ((q 47), aI g 128 nw), ((q 50), aI g 600 u9.2.2)]) (wc := [(h0, .inr (10, mob q rf n mm mb fa9 fp9 av ev wi mn tp tc sc nf fd me mp xn mt wh tq9 u9.1 u9.2.1 ig)), ((q 47), aI g 128 nw)]) (As := [.int 4]) (rest := []) E hB hK hZ (g_Mod_take l g H.size h0 q rf n mm mb av ev wi mn tp tc sc nf fd me mp xn mt wh u9.1 u9.2.1 ig nw fa9 fp9 tq9 4 hNW (by omega)) mc_Mod_take mi_Mod_take me_Mod_take wd_1668 hP hD hS hA [0, 6] rfl (by decide) 0 rfl rfl rfl rfl rfl (by decide) rfl hl.1 rfl (Nat.le_of_ble_eq_true rfl) (by decide) d_Mod_call_112) hP hD hS hA [0, 6] [1, 2, 3, 4, 5, 7] rfl rfl (by decide) (by decide) (fun u13 H locs hr12 hP hD hS => ?_)
                try dsimp only at hr12
                have hP : va_P g.1 classes [((q 2), aI g 600 bs), ((q 14), aI g 620 tg), ((q 16), aI g 620 on), ((q 17), aI g 620 tw), ((q 32), aI g 160 sk), ((q 50), aI g 600 u9.2.2), (h0, .inr (10, mob q rf n mm mb u13.1 u13.2.1 av ev wi mn tp tc sc nf fd me mp xn mt wh u13.2.2 u9.1 u9.2.1 ig)), ((q 47), aI g 128 nw)] H := hP
                have hD : va_D A [((q 2), aI g 600 bs), ((q 14), aI g 620 tg), ((q 16), aI g 620 on), ((q 17), aI g 620 tw), ((q 32), aI g 160 sk), ((q 50), aI g 600 u9.2.2), (h0, .inr (10, mob q rf n mm mb u13.1 u13.2.1 av ev wi mn tp tc sc nf fd me mp xn mt wh u13.2.2 u9.1 u9.2.1 ig)), ((q 47), aI g 128 nw)] := hD
                have hP : va_P g.1 classes [(h0, .inr (10, mob q rf n mm mb u13.1 u13.2.1 av ev wi mn tp tc sc nf fd me mp xn mt wh u13.2.2 u9.1 u9.2.1 ig)), ((q 2), aI g 600 bs), ((q 14), aI g 620 tg), ((q 16), aI g 620 on), ((q 17), aI g 620 tw), ((q 32), aI g 160 sk), ((q 47), aI g 128 nw), ((q 50), aI g 600 u9.2.2)] H := hP.sub [6, 0, 1, 2, 3, 4, 7, 5] rfl
                have hD : va_D A [(h0, .inr (10, mob q rf n mm mb u13.1 u13.2.1 av ev wi mn tp tc sc nf fd me mp xn mt wh u13.2.2 u9.1 u9.2.1 ig)), ((q 2), aI g 600 bs), ((q 14), aI g 620 tg), ((q 16), aI g 620 on), ((q 17), aI g 620 tw), ((q 32), aI g 160 sk), ((q 47), aI g 128 nw), ((q 50), aI g 600 u9.2.2)] := hD.sub [6, 0, 1, 2, 3, 4, 7, 5] (by decide) rfl
                obtain ⟨hp13_0, hp13_1, hp13_2⟩ := hr12
                refine lv_aload_n hx hb d_Mod_call_115 rfl (lv_at hl 1 rfl) ?_
                refine lv_aload_n hx hb d_Mod_call_116 rfl (lv_at hl 1 rfl) ?_
                refine va_get (D := g.1) (ci := 10) (v := .int u9.2.1) (C := R_Mod) (T := F_Mod) (N := 61) hx hb hts in_Mod hown hK hP 0 rfl rfl 51 (by decide) (hts _ wd_1301) (fun _ h9 => h9) rfl d_Mod_call_117 ?_
                refine tw_wv (wr := [((q 2), aI g 600 bs), ((q 14), aI g 620 tg), ((q 16), aI g 620 on), ((q 17), aI g 620 tw), ((q 50), aI g 600 u9.2.2)]) (tw_runV (ws := [(h0, .inr (10, mob q rf n mm mb u13.1 u13.2.1 av ev wi mn tp tc sc nf fd me mp xn mt wh u13.2.2 u9.1 u9.2.1 ig)), ((q 2), aI g 600 bs), ((q 14), aI g 620 tg), ((q 16), aI g 620 on), ((q 17), aI g 620 tw), ((q 32), aI g 160 sk), ((q 47), aI g 128 nw), ((q 50), aI g 600 u9.2.2)]) (wc := [(h0, .inr (10, mob q rf n mm mb u13.1 u13.2.1 av ev wi mn tp tc sc nf fd me mp xn mt wh u13.2.2 u9.1 u9.2.1 ig)), ((q 32), aI g 160 sk), ((q 47), aI g 128 nw)]) (As := [.int u9.2.1]) (rest := []) E hB hK hZ (g_Mod_giveAnswer l g H.size h0 q rf n mm mb av ev wi mn tp tc sc nf fd me mp xn mt wh u9.1 u9.2.1 ig sk u13.1 u13.2.1 u13.2.2 nw u9.2.1 s1 hNW (by omega) (by omega) hsk (by omega) (kn3 hp9_2)) mc_Mod_giveAnswer mi_Mod_giveAnswer me_Mod_giveAnswer wd_1692 hP hD hS hA [0, 5, 6] rfl (by decide) 0 rfl rfl rfl rfl rfl (by decide) rfl hl.1 rfl (Nat.le_of_ble_eq_true rfl) (by decide) d_Mod_call_120) hP hD hS hA [0, 5, 6] [1, 2, 3, 4, 7] rfl rfl (by decide) (by decide) (fun u15 H locs hr14 hP hD hS => ?_)
                try dsimp only at hr14
                have hP : va_P g.1 classes [((q 2), aI g 600 bs), ((q 14), aI g 620 tg), ((q 16), aI g 620 on), ((q 17), aI g 620 tw), ((q 50), aI g 600 u9.2.2), (h0, .inr (10, mob q rf n mm mb u15.1 u15.2.1 av ev wi mn tp tc sc nf fd me mp xn mt wh u15.2.2.1 u9.1 u9.2.1 ig)), ((q 32), aI g 160 sk), ((q 47), aI g 128 u15.2.2.2)] H := hP
                have hD : va_D A [((q 2), aI g 600 bs), ((q 14), aI g 620 tg), ((q 16), aI g 620 on), ((q 17), aI g 620 tw), ((q 50), aI g 600 u9.2.2), (h0, .inr (10, mob q rf n mm mb u15.1 u15.2.1 av ev wi mn tp tc sc nf fd me mp xn mt wh u15.2.2.1 u9.1 u9.2.1 ig)), ((q 32), aI g 160 sk), ((q 47), aI g 128 u15.2.2.2)] := hD
                have hP : va_P g.1 classes [(h0, .inr (10, mob q rf n mm mb u15.1 u15.2.1 av ev wi mn tp tc sc nf fd me mp xn mt wh u15.2.2.1 u9.1 u9.2.1 ig)), ((q 2), aI g 600 bs), ((q 14), aI g 620 tg), ((q 16), aI g 620 on), ((q 17), aI g 620 tw), ((q 32), aI g 160 sk), ((q 47), aI g 128 u15.2.2.2), ((q 50), aI g 600 u9.2.2)] H := hP.sub [5, 0, 1, 2, 3, 6, 7, 4] rfl
                have hD : va_D A [(h0, .inr (10, mob q rf n mm mb u15.1 u15.2.1 av ev wi mn tp tc sc nf fd me mp xn mt wh u15.2.2.1 u9.1 u9.2.1 ig)), ((q 2), aI g 600 bs), ((q 14), aI g 620 tg), ((q 16), aI g 620 on), ((q 17), aI g 620 tw), ((q 32), aI g 160 sk), ((q 47), aI g 128 u15.2.2.2), ((q 50), aI g 600 u9.2.2)] := hD.sub [5, 0, 1, 2, 3, 6, 7, 4] (by decide) rfl
                obtain ⟨hp15_0, hp15_1, hp15_2⟩ := hr14
                exact tw_vret E hS (u15.1, u15.2.1, u15.2.2.1, u9.1, u9.2.1, u15.2.2.2, u9.2.2) (⟨(fun _ => hz6), (by first | omega | (dsimp only <;> omega)), hp15_2⟩) hP hD d_Mod_call_123
            · have h84 := sf_neg h84
              refine lv_aload_n hx hb d_Mod_call_87 rfl (lv_at hl 1 rfl) ?_
              refine lv_aload_n hx hb d_Mod_call_88 rfl (lv_at hl 1 rfl) ?_
              refine va_get (D := g.1) (ci := 10) (v := .ref (q 50)) (C := R_Mod) (T := F_Mod) (N := 61) hx hb hts in_Mod hown hK hP 0 rfl rfl 50 (by decide) (hts _ wd_1300) (fun _ h9 => h9) rfl d_Mod_call_89 ?_
              refine lv_iload_n hx hb d_Mod_call_92 rfl (lv_at hl 0 rfl) ?_
              refine va_iald hx hb hK hP 7 0 rfl rfl (by rw [sf_dn h84]; exact vp_in_nI (by omega) (by decide)) d_Mod_call_93 ?_
              refine tw_ri (e2 := u9.2.2 (q9z - 1)) (by rw [sf_dn h84, nI_clamp (by omega)]) ?_
              refine tw_wv (wr := [((q 2), aI g 600 bs), ((q 14), aI g 620 tg), ((q 16), aI g 620 on), ((q 17), aI g 620 tw), ((q 32), aI g 160 sk), ((q 50), aI g 600 u9.2.2)]) (tw_runV (ws := [(h0, .inr (10, mob q rf n mm mb fa9 fp9 av ev wi mn tp tc sc nf fd me mp xn mt wh tq9 u9.1 u9.2.1 ig)), ((q 2), aI g 600 bs), ((q 14), aI g 620 tg), ((q 16), aI g 620 on), ((q 17), aI g 620 tw), ((q 32), aI g 160 sk), ((q 47), aI g 128 nw), ((q 50), aI g 600 u9.2.2)]) (wc := [(h0, .inr (10, mob q rf n mm mb fa9 fp9 av ev wi mn tp tc sc nf fd me mp xn mt wh tq9 u9.1 u9.2.1 ig)), ((q 47), aI g 128 nw)]) (As := [.int (u9.2.2 (q9z - 1))]) (rest := []) E hB hK hZ (g_Mod_take l g H.size h0 q rf n mm mb av ev wi mn tp tc sc nf fd me mp xn mt wh u9.1 u9.2.1 ig nw fa9 fp9 tq9 (u9.2.2 (q9z - 1)) hNW (by omega)) mc_Mod_take mi_Mod_take me_Mod_take wd_1668 hP hD hS hA [0, 6] rfl (by decide) 0 rfl rfl rfl rfl rfl (by decide) rfl hl.1 rfl (Nat.le_of_ble_eq_true rfl) (by decide) d_Mod_call_94) hP hD hS hA [0, 6] [1, 2, 3, 4, 5, 7] rfl rfl (by decide) (by decide) (fun u17 H locs hr16 hP hD hS => ?_)
              try dsimp only at hr16
              have hP : va_P g.1 classes [((q 2), aI g 600 bs), ((q 14), aI g 620 tg), ((q 16), aI g 620 on), ((q 17), aI g 620 tw), ((q 32), aI g 160 sk), ((q 50), aI g 600 u9.2.2), (h0, .inr (10, mob q rf n mm mb u17.1 u17.2.1 av ev wi mn tp tc sc nf fd me mp xn mt wh u17.2.2 u9.1 u9.2.1 ig)), ((q 47), aI g 128 nw)] H := hP
              have hD : va_D A [((q 2), aI g 600 bs), ((q 14), aI g 620 tg), ((q 16), aI g 620 on), ((q 17), aI g 620 tw), ((q 32), aI g 160 sk), ((q 50), aI g 600 u9.2.2), (h0, .inr (10, mob q rf n mm mb u17.1 u17.2.1 av ev wi mn tp tc sc nf fd me mp xn mt wh u17.2.2 u9.1 u9.2.1 ig)), ((q 47), aI g 128 nw)] := hD
              have hP : va_P g.1 classes [(h0, .inr (10, mob q rf n mm mb u17.1 u17.2.1 av ev wi mn tp tc sc nf fd me mp xn mt wh u17.2.2 u9.1 u9.2.1 ig)), ((q 2), aI g 600 bs), ((q 14), aI g 620 tg), ((q 16), aI g 620 on), ((q 17), aI g 620 tw), ((q 32), aI g 160 sk), ((q 47), aI g 128 nw), ((q 50), aI g 600 u9.2.2)] H := hP.sub [6, 0, 1, 2, 3, 4, 7, 5] rfl
              have hD : va_D A [(h0, .inr (10, mob q rf n mm mb u17.1 u17.2.1 av ev wi mn tp tc sc nf fd me mp xn mt wh u17.2.2 u9.1 u9.2.1 ig)), ((q 2), aI g 600 bs), ((q 14), aI g 620 tg), ((q 16), aI g 620 on), ((q 17), aI g 620 tw), ((q 32), aI g 160 sk), ((q 47), aI g 128 nw), ((q 50), aI g 600 u9.2.2)] := hD.sub [6, 0, 1, 2, 3, 4, 7, 5] (by decide) rfl
              obtain ⟨hp17_0, hp17_1, hp17_2⟩ := hr16
              refine lv_iinc (k := 0) (v := nI (q9z - 1) - 1) hx hb d_Mod_call_97 hl rfl (sf_down h84) (by decide) rfl (fun ls hl => ?_)
              have hl : lv_has ls 4 [(3, .int (nI (q9z - 1) - 1)), (0, .ref h0), (1, .int (nI c1)), (2, .int (nI k))] := hl
              refine lv_goto (tgt := 83) hx hb d_Mod_call_100 (by decide) ?_
              have hP : va_P g.1 classes [(h0, .inr (10, mob q rf n mm mb u17.1 u17.2.1 av ev wi mn tp tc sc nf fd me mp xn mt wh u17.2.2 u9.1 u9.2.1 ig)), ((q 2), aI g 600 bs), ((q 14), aI g 620 tg), ((q 16), aI g 620 on), ((q 17), aI g 620 tw), ((q 32), aI g 160 sk), ((q 47), aI g 128 nw), ((q 50), aI g 600 u9.2.2)] H := hP.sub [0, 1, 2, 3, 4, 5, 6, 7] rfl
              have hD : va_D A [(h0, .inr (10, mob q rf n mm mb u17.1 u17.2.1 av ev wi mn tp tc sc nf fd me mp xn mt wh u17.2.2 u9.1 u9.2.1 ig)), ((q 2), aI g 600 bs), ((q 14), aI g 620 tg), ((q 16), aI g 620 on), ((q 17), aI g 620 tw), ((q 32), aI g 160 sk), ((q 47), aI g 128 nw), ((q 50), aI g 600 u9.2.2)] := hD.sub [0, 1, 2, 3, 4, 5, 6, 7] (by decide) rfl
              exact ih _ (by omega) (q9z - 1) u17.1 u17.2.1 u17.2.2 ls _ _ rfl (fun _ => h57) (by omega) (by omega) (lv_sub hl [0, 1, 2, 3] rfl) hP hD hS
        exact loop83 _ u9.1 u3.1 u3.2 tq ls _ _ rfl (fun h => h) (by omega) (Nat.le_refl _) (hl) hP hD hS
      · exact absurd h15 h57
    · refine lv_aload_n hx hb d_Mod_call_25 rfl (lv_at hl 0 rfl) ?_
      refine lv_aload_n hx hb d_Mod_call_26 rfl (lv_at hl 0 rfl) ?_
      refine va_get (D := g.1) (ci := 10) (v := .ref (q 16)) (C := R_Mod) (T := F_Mod) (N := 61) hx hb hts in_Mod hown hK hP 0 rfl rfl 16 (by decide) (hts _ wd_1266) (fun _ h9 => h9) rfl d_Mod_call_27 ?_
      refine lv_aload_n hx hb d_Mod_call_30 rfl (lv_at hl 0 rfl) ?_
      refine va_get (D := g.1) (ci := 10) (v := .ref (q 17)) (C := R_Mod) (T := F_Mod) (N := 61) hx hb hts in_Mod hown hK hP 0 rfl rfl 17 (by decide) (hts _ wd_1267) (fun _ h9 => h9) rfl d_Mod_call_31 ?_
      refine lv_iload_n hx hb d_Mod_call_34 rfl (lv_at hl 2 rfl) ?_
      refine va_iald hx hb hK hP 4 0 rfl rfl (vp_in_nI (by omega) (by decide)) d_Mod_call_35 ?_
      refine tw_ri (e2 := nI j3) (by rw [nI_clamp (by omega)]; exact q1) ?_
      refine va_iald hx hb hK hP 3 0 rfl rfl (vp_in_nI (by omega) (by decide)) d_Mod_call_36 ?_
      refine tw_ri (e2 := nI jn) (by rw [nI_clamp (by omega)]; exact q3) ?_
      refine tw_si (tw_runV (ws := [(h0, .inr (10, mob q rf n mm mb u3.1 u3.2 av ev wi mn tp tc sc nf fd me mp xn mt wh tq ag an ig)), ((q 2), aI g 600 bs), ((q 14), aI g 620 tg), ((q 16), aI g 620 on), ((q 17), aI g 620 tw), ((q 32), aI g 160 sk), ((q 47), aI g 128 nw), ((q 50), aI g 600 ak)]) (wc := [(h0, .inr (10, mob q rf n mm mb u3.1 u3.2 av ev wi mn tp tc sc nf fd me mp xn mt wh tq ag an ig)), ((q 2), aI g 600 bs), ((q 16), aI g 620 on), ((q 17), aI g 620 tw)]) (As := [.int (nI jn)]) (rest := []) E hB hK hZ (g_Mod_isInit l g H.size h0 q rf n mm mb u3.1 u3.2 av ev wi mn tp tc sc nf fd me mp xn mt wh tq ag an ig bs on tw jn pn ln1 (by omega) q7 q8 q9) mc_Mod_isInit mi_Mod_isInit me_Mod_isInit wd_1551 hP hD hS hA [0, 1, 3, 4] rfl (by decide) 0 rfl rfl rfl rfl rfl (by decide) rfl hl.1 rfl (Nat.le_of_ble_eq_true rfl) (by decide) d_Mod_call_37) (fun r18 hr18 => ?_)
      have hB18 := hr18
      refine lv_if_eq (tgt := 53) hx hb d_Mod_call_40 (by decide) (fun h40 => ?_) (fun h40 => ?_)
      · refine lv_aload_n hx hb d_Mod_call_53 rfl (lv_at hl 0 rfl) ?_
        refine va_get (D := g.1) (ci := 10) (v := .int u3.1) (C := R_Mod) (T := F_Mod) (N := 61) hx hb hts in_Mod hown hK hP 0 rfl rfl 8 (by decide) (hts _ wd_1258) (fun _ h9 => h9) rfl d_Mod_call_54 ?_
        refine lv_if_eq (tgt := 61) hx hb d_Mod_call_57 (by decide) (fun h57 => ?_) (fun h57 => ?_)
        · have hz19 := hp3_0 h57
          have hz20 := hp3_1 h57
          refine lv_aload_n hx hb d_Mod_call_61 rfl (lv_at hl 0 rfl) ?_
          refine lv_aload_n hx hb d_Mod_call_62 rfl (lv_at hl 0 rfl) ?_
          refine va_get (D := g.1) (ci := 10) (v := .ref (q 17)) (C := R_Mod) (T := F_Mod) (N := 61) hx hb hts in_Mod hown hK hP 0 rfl rfl 17 (by decide) (hts _ wd_1267) (fun _ h9 => h9) rfl d_Mod_call_63 ?_
          refine lv_aload_n hx hb d_Mod_call_66 rfl (lv_at hl 0 rfl) ?_
          refine va_get (D := g.1) (ci := 10) (v := .ref (q 17)) (C := R_Mod) (T := F_Mod) (N := 61) hx hb hts in_Mod hown hK hP 0 rfl rfl 17 (by decide) (hts _ wd_1267) (fun _ h9 => h9) rfl d_Mod_call_67 ?_
          refine lv_iload_n hx hb d_Mod_call_70 rfl (lv_at hl 2 rfl) ?_
          refine va_iald hx hb hK hP 4 0 rfl rfl (vp_in_nI (by omega) (by decide)) d_Mod_call_71 ?_
          refine tw_ri (e2 := nI j2) (by rw [nI_clamp (by omega)]; exact m1) ?_
          refine va_iald hx hb hK hP 4 0 rfl rfl (vp_in_nI (by omega) (by decide)) d_Mod_call_72 ?_
          refine tw_ri (e2 := nI jt) (by rw [nI_clamp (by omega)]; exact m3) ?_
          refine tw_wv (wr := [((q 14), aI g 620 tg), ((q 32), aI g 160 sk), ((q 47), aI g 128 nw)]) (tw_runV (ws := [(h0, .inr (10, mob q rf n mm mb u3.1 u3.2 av ev wi mn tp tc sc nf fd me mp xn mt wh tq ag an ig)), ((q 2), aI g 600 bs), ((q 14), aI g 620 tg), ((q 16), aI g 620 on), ((q 17), aI g 620 tw), ((q 32), aI g 160 sk), ((q 47), aI g 128 nw), ((q 50), aI g 600 ak)]) (wc := [(h0, .inr (10, mob q rf n mm mb u3.1 u3.2 av ev wi mn tp tc sc nf fd me mp xn mt wh tq ag an ig)), ((q 2), aI g 600 bs), ((q 16), aI g 620 on), ((q 17), aI g 620 tw), ((q 50), aI g 600 ak)]) (As := [.int (nI jt)]) (rest := []) E hB hK hZ (g_Mod_readTypes l g H.size h0 q rf n mm mb u3.1 u3.2 av ev wi mn tp tc sc nf fd me mp xn mt wh tq ig bs on tw ag an ak jt pf lf (by omega) m5 m6 m7 m8) mc_Mod_readTypes mi_Mod_readTypes me_Mod_readTypes wd_1628 hP hD hS hA [0, 1, 3, 4, 7] rfl (by decide) 0 rfl rfl rfl rfl rfl (by decide) rfl hl.1 rfl (Nat.le_of_ble_eq_true rfl) (by decide) d_Mod_call_73) hP hD hS hA [0, 1, 3, 4, 7] [2, 5, 6] rfl rfl (by decide) (by decide) (fun u22 H locs hr21 hP hD hS => ?_)
          try dsimp only at hr21
          have hP : va_P g.1 classes [((q 14), aI g 620 tg), ((q 32), aI g 160 sk), ((q 47), aI g 128 nw), (h0, .inr (10, mob q rf n mm mb u3.1 u3.2 av ev wi mn tp tc sc nf fd me mp xn mt wh tq u22.1 u22.2.1 ig)), ((q 2), aI g 600 bs), ((q 16), aI g 620 on), ((q 17), aI g 620 tw), ((q 50), aI g 600 u22.2.2)] H := hP
          have hD : va_D A [((q 14), aI g 620 tg), ((q 32), aI g 160 sk), ((q 47), aI g 128 nw), (h0, .inr (10, mob q rf n mm mb u3.1 u3.2 av ev wi mn tp tc sc nf fd me mp xn mt wh tq u22.1 u22.2.1 ig)), ((q 2), aI g 600 bs), ((q 16), aI g 620 on), ((q 17), aI g 620 tw), ((q 50), aI g 600 u22.2.2)] := hD
          have hP : va_P g.1 classes [(h0, .inr (10, mob q rf n mm mb u3.1 u3.2 av ev wi mn tp tc sc nf fd me mp xn mt wh tq u22.1 u22.2.1 ig)), ((q 2), aI g 600 bs), ((q 14), aI g 620 tg), ((q 16), aI g 620 on), ((q 17), aI g 620 tw), ((q 32), aI g 160 sk), ((q 47), aI g 128 nw), ((q 50), aI g 600 u22.2.2)] H := hP.sub [3, 4, 0, 5, 6, 1, 2, 7] rfl
          have hD : va_D A [(h0, .inr (10, mob q rf n mm mb u3.1 u3.2 av ev wi mn tp tc sc nf fd me mp xn mt wh tq u22.1 u22.2.1 ig)), ((q 2), aI g 600 bs), ((q 14), aI g 620 tg), ((q 16), aI g 620 on), ((q 17), aI g 620 tw), ((q 32), aI g 160 sk), ((q 47), aI g 128 nw), ((q 50), aI g 600 u22.2.2)] := hD.sub [3, 4, 0, 5, 6, 1, 2, 7] (by decide) rfl
          obtain ⟨hp22_0, hp22_1, hp22_2⟩ := hr21
          refine lv_aload_n hx hb d_Mod_call_76 rfl (lv_at hl 0 rfl) ?_
          refine va_get (D := g.1) (ci := 10) (v := .int (nI u22.1)) (C := R_Mod) (T := F_Mod) (N := 61) hx hb hts in_Mod hown hK hP 0 rfl rfl 49 (by decide) (hts _ wd_1299) (fun _ h9 => h9) rfl d_Mod_call_77 ?_
          refine lv_iconst (v := 1) hx hb d_Mod_call_80 (by decide) ?_
          refine lv_isub hx hb d_Mod_call_81 ?_
          refine tw_ri (e2 := (nI u22.1) - 1) rfl ?_
          refine lv_istore_n hx hb d_Mod_call_82 rfl hl (by decide) rfl (fun ls hl => ?_)
          have hl : lv_has ls 4 [(3, .int ((nI u22.1) - 1)), (0, .ref h0), (1, .int (nI c1)), (2, .int (nI k))] := hl
          have loop83 : ∀ (kq : Nat) (q9z : Nat) (fa9 : Int32) (fp9 : Int32) (tq9 : Nat) (ls : Array Slot) (H : Heap) (locs : List Loc) , q9z = kq → (hc9 : fa9 = 0 → u3.1 = 0) → (ht9 : tq9 ≤ 64) → (hq9 : q9z ≤ u22.1) → lv_has ls 4 [(3, .int (nI q9z - 1)), (0, .ref h0), (1, .int (nI c1)), (2, .int (nI k))] → va_P g.1 classes [(h0, .inr (10, mob q rf n mm mb fa9 fp9 av ev wi mn tp tc sc nf fd me mp xn mt wh tq9 u22.1 u22.2.1 ig)), ((q 2), aI g 600 bs), ((q 14), aI g 620 tg), ((q 16), aI g 620 on), ((q 17), aI g 620 tw), ((q 32), aI g 160 sk), ((q 47), aI g 128 nw), ((q 50), aI g 600 u22.2.2)] H → va_D A [(h0, .inr (10, mob q rf n mm mb fa9 fp9 av ev wi mn tp tc sc nf fd me mp xn mt wh tq9 u22.1 u22.2.1 ig)), ((q 2), aI g 600 bs), ((q 14), aI g 620 tg), ((q 16), aI g 620 on), ((q 17), aI g 620 tw), ((q 32), aI g 160 sk), ((q 47), aI g 128 nw), ((q 50), aI g 600 u22.2.2)] → va_S A s.heap H locs → W p l e ({ frames := 5, cells := 0, slots := 0, locals := 117 }) s m [.ref h0, .int (nI c1), .int (nI k)].toArray below meth c H locs 0 0 (MQ below (tw_Qv g (fun (u : Int32 × Int32 × Nat × Nat × Int32 × (Nat → Int32) × (Nat → Int32)) => (u.1 = 0 → fa = 0) ∧ (u.2.2.1 ≤ 64) ∧ (NOW u.2.2.2.2.2.1)) (fun u : Int32 × Int32 × Nat × Nat × Int32 × (Nat → Int32) × (Nat → Int32) => [(h0, .inr (10, mob q rf n mm mb u.1 u.2.1 av ev wi mn tp tc sc nf fd me mp xn mt wh u.2.2.1 u.2.2.2.1 u.2.2.2.2.1 ig)), ((q 2), aI g 600 bs), ((q 14), aI g 620 tg), ((q 16), aI g 620 on), ((q 17), aI g 620 tw), ((q 32), aI g 160 sk), ((q 47), aI g 128 u.2.2.2.2.2.1), ((q 50), aI g 600 u.2.2.2.2.2.2)]) A) [.ref h0, .int (nI c1), .int (nI k)].toArray s 0 0 A) (F0 m 83 ls []) := by
            intro kq
            induction kq using Nat.strongRecOn with
            | _ kq ih =>
              intro q9z fa9 fp9 tq9 ls H locs hk hc9 ht9 hq9 hl hP hD hS
              refine lv_iload_n hx hb d_Mod_call_83 rfl (lv_at hl 0 rfl) ?_
              refine lv_if_lt (tgt := 103) hx hb d_Mod_call_84 (by decide) (fun h84 => ?_) (fun h84 => ?_)
              · refine lv_iload_n hx hb d_Mod_call_103 rfl (lv_at hl 2 rfl) ?_
                refine lv_sipush (v := 184) hx hb d_Mod_call_104 (by decide) ?_
                refine lv_icmp_eq (tgt := 115) hx hb d_Mod_call_107 (by decide) (fun h107 => ?_) (fun h107 => ?_)
                · refine lv_aload_n hx hb d_Mod_call_115 rfl (lv_at hl 1 rfl) ?_
                  refine lv_aload_n hx hb d_Mod_call_116 rfl (lv_at hl 1 rfl) ?_
                  refine va_get (D := g.1) (ci := 10) (v := .int u22.2.1) (C := R_Mod) (T := F_Mod) (N := 61) hx hb hts in_Mod hown hK hP 0 rfl rfl 51 (by decide) (hts _ wd_1301) (fun _ h9 => h9) rfl d_Mod_call_117 ?_
                  refine tw_wv (wr := [((q 2), aI g 600 bs), ((q 14), aI g 620 tg), ((q 16), aI g 620 on), ((q 17), aI g 620 tw), ((q 50), aI g 600 u22.2.2)]) (tw_runV (ws := [(h0, .inr (10, mob q rf n mm mb fa9 fp9 av ev wi mn tp tc sc nf fd me mp xn mt wh tq9 u22.1 u22.2.1 ig)), ((q 2), aI g 600 bs), ((q 14), aI g 620 tg), ((q 16), aI g 620 on), ((q 17), aI g 620 tw), ((q 32), aI g 160 sk), ((q 47), aI g 128 nw), ((q 50), aI g 600 u22.2.2)]) (wc := [(h0, .inr (10, mob q rf n mm mb fa9 fp9 av ev wi mn tp tc sc nf fd me mp xn mt wh tq9 u22.1 u22.2.1 ig)), ((q 32), aI g 160 sk), ((q 47), aI g 128 nw)]) (As := [.int u22.2.1]) (rest := []) E hB hK hZ (g_Mod_giveAnswer l g H.size h0 q rf n mm mb av ev wi mn tp tc sc nf fd me mp xn mt wh u22.1 u22.2.1 ig sk fa9 fp9 tq9 nw u22.2.1 s1 hNW (by omega) (by omega) hsk (by omega) (kn3 hp22_2)) mc_Mod_giveAnswer mi_Mod_giveAnswer me_Mod_giveAnswer wd_1692 hP hD hS hA [0, 5, 6] rfl (by decide) 0 rfl rfl rfl rfl rfl (by decide) rfl hl.1 rfl (Nat.le_of_ble_eq_true rfl) (by decide) d_Mod_call_120) hP hD hS hA [0, 5, 6] [1, 2, 3, 4, 7] rfl rfl (by decide) (by decide) (fun u24 H locs hr23 hP hD hS => ?_)
                  try dsimp only at hr23
                  have hP : va_P g.1 classes [((q 2), aI g 600 bs), ((q 14), aI g 620 tg), ((q 16), aI g 620 on), ((q 17), aI g 620 tw), ((q 50), aI g 600 u22.2.2), (h0, .inr (10, mob q rf n mm mb u24.1 u24.2.1 av ev wi mn tp tc sc nf fd me mp xn mt wh u24.2.2.1 u22.1 u22.2.1 ig)), ((q 32), aI g 160 sk), ((q 47), aI g 128 u24.2.2.2)] H := hP
                  have hD : va_D A [((q 2), aI g 600 bs), ((q 14), aI g 620 tg), ((q 16), aI g 620 on), ((q 17), aI g 620 tw), ((q 50), aI g 600 u22.2.2), (h0, .inr (10, mob q rf n mm mb u24.1 u24.2.1 av ev wi mn tp tc sc nf fd me mp xn mt wh u24.2.2.1 u22.1 u22.2.1 ig)), ((q 32), aI g 160 sk), ((q 47), aI g 128 u24.2.2.2)] := hD
                  have hP : va_P g.1 classes [(h0, .inr (10, mob q rf n mm mb u24.1 u24.2.1 av ev wi mn tp tc sc nf fd me mp xn mt wh u24.2.2.1 u22.1 u22.2.1 ig)), ((q 2), aI g 600 bs), ((q 14), aI g 620 tg), ((q 16), aI g 620 on), ((q 17), aI g 620 tw), ((q 32), aI g 160 sk), ((q 47), aI g 128 u24.2.2.2), ((q 50), aI g 600 u22.2.2)] H := hP.sub [5, 0, 1, 2, 3, 6, 7, 4] rfl
                  have hD : va_D A [(h0, .inr (10, mob q rf n mm mb u24.1 u24.2.1 av ev wi mn tp tc sc nf fd me mp xn mt wh u24.2.2.1 u22.1 u22.2.1 ig)), ((q 2), aI g 600 bs), ((q 14), aI g 620 tg), ((q 16), aI g 620 on), ((q 17), aI g 620 tw), ((q 32), aI g 160 sk), ((q 47), aI g 128 u24.2.2.2), ((q 50), aI g 600 u22.2.2)] := hD.sub [5, 0, 1, 2, 3, 6, 7, 4] (by decide) rfl
                  obtain ⟨hp24_0, hp24_1, hp24_2⟩ := hr23
                  exact tw_vret E hS (u24.1, u24.2.1, u24.2.2.1, u22.1, u22.2.1, u24.2.2.2, u22.2.2) (⟨(fun _ => hz19), (by first | omega | (dsimp only <;> omega)), hp24_2⟩) hP hD d_Mod_call_123
                · refine lv_aload_n hx hb d_Mod_call_110 rfl (lv_at hl 1 rfl) ?_
                  refine lv_iconst (v := 4) hx hb d_Mod_call_111 (by decide) ?_
                  refine tw_wv (wr := [((q 2), aI g 600 bs), ((q 14), aI g 620 tg), ((q 16), aI g 620 on), ((q 17), aI g 620 tw), ((q 32), aI g 160 sk), ((q 50), aI g 600 u22.2.2)]) (tw_runV (ws := [(h0, .inr (10, mob q rf n mm mb fa9 fp9 av ev wi mn tp tc sc nf fd me mp xn mt wh tq9 u22.1 u22.2.1 ig)), ((q 2), aI g 600 bs), ((q 14), aI g 620 tg), ((q 16), aI g 620 on), ((q 17), aI g 620 tw), ((q 32), aI g 160 sk), ((q 47), aI g 128 nw), ((q 50), aI g 600 u22.2.2)]) (wc := [(h0, .inr (10, mob q rf n mm mb fa9 fp9 av ev wi mn tp tc sc nf fd me mp xn mt wh tq9 u22.1 u22.2.1 ig)), ((q 47), aI g 128 nw)]) (As := [.int 4]) (rest := []) E hB hK hZ (g_Mod_take l g H.size h0 q rf n mm mb av ev wi mn tp tc sc nf fd me mp xn mt wh u22.1 u22.2.1 ig nw fa9 fp9 tq9 4 hNW (by omega)) mc_Mod_take mi_Mod_take me_Mod_take wd_1668 hP hD hS hA [0, 6] rfl (by decide) 0 rfl rfl rfl rfl rfl (by decide) rfl hl.1 rfl (Nat.le_of_ble_eq_true rfl) (by decide) d_Mod_call_112) hP hD hS hA [0, 6] [1, 2, 3, 4, 5, 7] rfl rfl (by decide) (by decide) (fun u26 H locs hr25 hP hD hS => ?_)
                  try dsimp only at hr25
                  have hP : va_P g.1 classes [((q 2), aI g 600 bs), ((q 14), aI g 620 tg), ((q 16), aI g 620 on), ((q 17), aI g 620 tw), ((q 32), aI g 160 sk), ((q 50), aI g 600 u22.2.2), (h0, .inr (10, mob q rf n mm mb u26.1 u26.2.1 av ev wi mn tp tc sc nf fd me mp xn mt wh u26.2.2 u22.1 u22.2.1 ig)), ((q 47), aI g 128 nw)] H := hP
                  have hD : va_D A [((q 2), aI g 600 bs), ((q 14), aI g 620 tg), ((q 16), aI g 620 on), ((q 17), aI g 620 tw), ((q 32), aI g 160 sk), ((q 50), aI g 600 u22.2.2), (h0, .inr (10, mob q rf n mm mb u26.1 u26.2.1 av ev wi mn tp tc sc nf fd me mp xn mt wh u26.2.2 u22.1 u22.2.1 ig)), ((q 47), aI g 128 nw)] := hD
                  have hP : va_P g.1 classes [(h0, .inr (10, mob q rf n mm mb u26.1 u26.2.1 av ev wi mn tp tc sc nf fd me mp xn mt wh u26.2.2 u22.1 u22.2.1 ig)), ((q 2), aI g 600 bs), ((q 14), aI g 620 tg), ((q 16), aI g 620 on), ((q 17), aI g 620 tw), ((q 32), aI g 160 sk), ((q 47), aI g 128 nw), ((q 50), aI g 600 u22.2.2)] H := hP.sub [6, 0, 1, 2, 3, 4, 7, 5] rfl
                  have hD : va_D A [(h0, .inr (10, mob q rf n mm mb u26.1 u26.2.1 av ev wi mn tp tc sc nf fd me mp xn mt wh u26.2.2 u22.1 u22.2.1 ig)), ((q 2), aI g 600 bs), ((q 14), aI g 620 tg), ((q 16), aI g 620 on), ((q 17), aI g 620 tw), ((q 32), aI g 160 sk), ((q 47), aI g 128 nw), ((q 50), aI g 600 u22.2.2)] := hD.sub [6, 0, 1, 2, 3, 4, 7, 5] (by decide) rfl
                  obtain ⟨hp26_0, hp26_1, hp26_2⟩ := hr25
                  refine lv_aload_n hx hb d_Mod_call_115 rfl (lv_at hl 1 rfl) ?_
                  refine lv_aload_n hx hb d_Mod_call_116 rfl (lv_at hl 1 rfl) ?_
                  refine va_get (D := g.1) (ci := 10) (v := .int u22.2.1) (C := R_Mod) (T := F_Mod) (N := 61) hx hb hts in_Mod hown hK hP 0 rfl rfl 51 (by decide) (hts _ wd_1301) (fun _ h9 => h9) rfl d_Mod_call_117 ?_
                  refine tw_wv (wr := [((q 2), aI g 600 bs), ((q 14), aI g 620 tg), ((q 16), aI g 620 on), ((q 17), aI g 620 tw), ((q 50), aI g 600 u22.2.2)]) (tw_runV (ws := [(h0, .inr (10, mob q rf n mm mb u26.1 u26.2.1 av ev wi mn tp tc sc nf fd me mp xn mt wh u26.2.2 u22.1 u22.2.1 ig)), ((q 2), aI g 600 bs), ((q 14), aI g 620 tg), ((q 16), aI g 620 on), ((q 17), aI g 620 tw), ((q 32), aI g 160 sk), ((q 47), aI g 128 nw), ((q 50), aI g 600 u22.2.2)]) (wc := [(h0, .inr (10, mob q rf n mm mb u26.1 u26.2.1 av ev wi mn tp tc sc nf fd me mp xn mt wh u26.2.2 u22.1 u22.2.1 ig)), ((q 32), aI g 160 sk), ((q 47), aI g 128 nw)]) (As := [.int u22.2.1]) (rest := []) E hB hK hZ (g_Mod_giveAnswer l g H.size h0 q rf n mm mb av ev wi mn tp tc sc nf fd me mp xn mt wh u22.1 u22.2.1 ig sk u26.1 u26.2.1 u26.2.2 nw u22.2.1 s1 hNW (by omega) (by omega) hsk (by omega) (kn3 hp22_2)) mc_Mod_giveAnswer mi_Mod_giveAnswer me_Mod_giveAnswer wd_1692 hP hD hS hA [0, 5, 6] rfl (by decide) 0 rfl rfl rfl rfl rfl (by decide) rfl hl.1 rfl (Nat.le_of_ble_eq_true rfl) (by decide) d_Mod_call_120) hP hD hS hA [0, 5, 6] [1, 2, 3, 4, 7] rfl rfl (by decide) (by decide) (fun u28 H locs hr27 hP hD hS => ?_)
                  try dsimp only at hr27
                  have hP : va_P g.1 classes [((q 2), aI g 600 bs), ((q 14), aI g 620 tg), ((q 16), aI g 620 on), ((q 17), aI g 620 tw), ((q 50), aI g 600 u22.2.2), (h0, .inr (10, mob q rf n mm mb u28.1 u28.2.1 av ev wi mn tp tc sc nf fd me mp xn mt wh u28.2.2.1 u22.1 u22.2.1 ig)), ((q 32), aI g 160 sk), ((q 47), aI g 128 u28.2.2.2)] H := hP
                  have hD : va_D A [((q 2), aI g 600 bs), ((q 14), aI g 620 tg), ((q 16), aI g 620 on), ((q 17), aI g 620 tw), ((q 50), aI g 600 u22.2.2), (h0, .inr (10, mob q rf n mm mb u28.1 u28.2.1 av ev wi mn tp tc sc nf fd me mp xn mt wh u28.2.2.1 u22.1 u22.2.1 ig)), ((q 32), aI g 160 sk), ((q 47), aI g 128 u28.2.2.2)] := hD
                  have hP : va_P g.1 classes [(h0, .inr (10, mob q rf n mm mb u28.1 u28.2.1 av ev wi mn tp tc sc nf fd me mp xn mt wh u28.2.2.1 u22.1 u22.2.1 ig)), ((q 2), aI g 600 bs), ((q 14), aI g 620 tg), ((q 16), aI g 620 on), ((q 17), aI g 620 tw), ((q 32), aI g 160 sk), ((q 47), aI g 128 u28.2.2.2), ((q 50), aI g 600 u22.2.2)] H := hP.sub [5, 0, 1, 2, 3, 6, 7, 4] rfl
                  have hD : va_D A [(h0, .inr (10, mob q rf n mm mb u28.1 u28.2.1 av ev wi mn tp tc sc nf fd me mp xn mt wh u28.2.2.1 u22.1 u22.2.1 ig)), ((q 2), aI g 600 bs), ((q 14), aI g 620 tg), ((q 16), aI g 620 on), ((q 17), aI g 620 tw), ((q 32), aI g 160 sk), ((q 47), aI g 128 u28.2.2.2), ((q 50), aI g 600 u22.2.2)] := hD.sub [5, 0, 1, 2, 3, 6, 7, 4] (by decide) rfl
                  obtain ⟨hp28_0, hp28_1, hp28_2⟩ := hr27
                  exact tw_vret E hS (u28.1, u28.2.1, u28.2.2.1, u22.1, u22.2.1, u28.2.2.2, u22.2.2) (⟨(fun _ => hz19), (by first | omega | (dsimp only <;> omega)), hp28_2⟩) hP hD d_Mod_call_123
              · have h84 := sf_neg h84
                refine lv_aload_n hx hb d_Mod_call_87 rfl (lv_at hl 1 rfl) ?_
                refine lv_aload_n hx hb d_Mod_call_88 rfl (lv_at hl 1 rfl) ?_
                refine va_get (D := g.1) (ci := 10) (v := .ref (q 50)) (C := R_Mod) (T := F_Mod) (N := 61) hx hb hts in_Mod hown hK hP 0 rfl rfl 50 (by decide) (hts _ wd_1300) (fun _ h9 => h9) rfl d_Mod_call_89 ?_
                refine lv_iload_n hx hb d_Mod_call_92 rfl (lv_at hl 0 rfl) ?_
                refine va_iald hx hb hK hP 7 0 rfl rfl (by rw [sf_dn h84]; exact vp_in_nI (by omega) (by decide)) d_Mod_call_93 ?_
                refine tw_ri (e2 := u22.2.2 (q9z - 1)) (by rw [sf_dn h84, nI_clamp (by omega)]) ?_
                refine tw_wv (wr := [((q 2), aI g 600 bs), ((q 14), aI g 620 tg), ((q 16), aI g 620 on), ((q 17), aI g 620 tw), ((q 32), aI g 160 sk), ((q 50), aI g 600 u22.2.2)]) (tw_runV (ws := [(h0, .inr (10, mob q rf n mm mb fa9 fp9 av ev wi mn tp tc sc nf fd me mp xn mt wh tq9 u22.1 u22.2.1 ig)), ((q 2), aI g 600 bs), ((q 14), aI g 620 tg), ((q 16), aI g 620 on), ((q 17), aI g 620 tw), ((q 32), aI g 160 sk), ((q 47), aI g 128 nw), ((q 50), aI g 600 u22.2.2)]) (wc := [(h0, .inr (10, mob q rf n mm mb fa9 fp9 av ev wi mn tp tc sc nf fd me mp xn mt wh tq9 u22.1 u22.2.1 ig)), ((q 47), aI g 128 nw)]) (As := [.int (u22.2.2 (q9z - 1))]) (rest := []) E hB hK hZ (g_Mod_take l g H.size h0 q rf n mm mb av ev wi mn tp tc sc nf fd me mp xn mt wh u22.1 u22.2.1 ig nw fa9 fp9 tq9 (u22.2.2 (q9z - 1)) hNW (by omega)) mc_Mod_take mi_Mod_take me_Mod_take wd_1668 hP hD hS hA [0, 6] rfl (by decide) 0 rfl rfl rfl rfl rfl (by decide) rfl hl.1 rfl (Nat.le_of_ble_eq_true rfl) (by decide) d_Mod_call_94) hP hD hS hA [0, 6] [1, 2, 3, 4, 5, 7] rfl rfl (by decide) (by decide) (fun u30 H locs hr29 hP hD hS => ?_)
                try dsimp only at hr29
                have hP : va_P g.1 classes [((q 2), aI g 600 bs), ((q 14), aI g 620 tg), ((q 16), aI g 620 on), ((q 17), aI g 620 tw), ((q 32), aI g 160 sk), ((q 50), aI g 600 u22.2.2), (h0, .inr (10, mob q rf n mm mb u30.1 u30.2.1 av ev wi mn tp tc sc nf fd me mp xn mt wh u30.2.2 u22.1 u22.2.1 ig)), ((q 47), aI g 128 nw)] H := hP
                have hD : va_D A [((q 2), aI g 600 bs), ((q 14), aI g 620 tg), ((q 16), aI g 620 on), ((q 17), aI g 620 tw), ((q 32), aI g 160 sk), ((q 50), aI g 600 u22.2.2), (h0, .inr (10, mob q rf n mm mb u30.1 u30.2.1 av ev wi mn tp tc sc nf fd me mp xn mt wh u30.2.2 u22.1 u22.2.1 ig)), ((q 47), aI g 128 nw)] := hD
                have hP : va_P g.1 classes [(h0, .inr (10, mob q rf n mm mb u30.1 u30.2.1 av ev wi mn tp tc sc nf fd me mp xn mt wh u30.2.2 u22.1 u22.2.1 ig)), ((q 2), aI g 600 bs), ((q 14), aI g 620 tg), ((q 16), aI g 620 on), ((q 17), aI g 620 tw), ((q 32), aI g 160 sk), ((q 47), aI g 128 nw), ((q 50), aI g 600 u22.2.2)] H := hP.sub [6, 0, 1, 2, 3, 4, 7, 5] rfl
                have hD : va_D A [(h0, .inr (10, mob q rf n mm mb u30.1 u30.2.1 av ev wi mn tp tc sc nf fd me mp xn mt wh u30.2.2 u22.1 u22.2.1 ig)), ((q 2), aI g 600 bs), ((q 14), aI g 620 tg), ((q 16), aI g 620 on), ((q 17), aI g 620 tw), ((q 32), aI g 160 sk), ((q 47), aI g 128 nw), ((q 50), aI g 600 u22.2.2)] := hD.sub [6, 0, 1, 2, 3, 4, 7, 5] (by decide) rfl
                obtain ⟨hp30_0, hp30_1, hp30_2⟩ := hr29
                refine lv_iinc (k := 0) (v := nI (q9z - 1) - 1) hx hb d_Mod_call_97 hl rfl (sf_down h84) (by decide) rfl (fun ls hl => ?_)
                have hl : lv_has ls 4 [(3, .int (nI (q9z - 1) - 1)), (0, .ref h0), (1, .int (nI c1)), (2, .int (nI k))] := hl
                refine lv_goto (tgt := 83) hx hb d_Mod_call_100 (by decide) ?_
                have hP : va_P g.1 classes [(h0, .inr (10, mob q rf n mm mb u30.1 u30.2.1 av ev wi mn tp tc sc nf fd me mp xn mt wh u30.2.2 u22.1 u22.2.1 ig)), ((q 2), aI g 600 bs), ((q 14), aI g 620 tg), ((q 16), aI g 620 on), ((q 17), aI g 620 tw), ((q 32), aI g 160 sk), ((q 47), aI g 128 nw), ((q 50), aI g 600 u22.2.2)] H := hP.sub [0, 1, 2, 3, 4, 5, 6, 7] rfl
                have hD : va_D A [(h0, .inr (10, mob q rf n mm mb u30.1 u30.2.1 av ev wi mn tp tc sc nf fd me mp xn mt wh u30.2.2 u22.1 u22.2.1 ig)), ((q 2), aI g 600 bs), ((q 14), aI g 620 tg), ((q 16), aI g 620 on), ((q 17), aI g 620 tw), ((q 32), aI g 160 sk), ((q 47), aI g 128 nw), ((q 50), aI g 600 u22.2.2)] := hD.sub [0, 1, 2, 3, 4, 5, 6, 7] (by decide) rfl
                exact ih _ (by omega) (q9z - 1) u30.1 u30.2.1 u30.2.2 ls _ _ rfl (fun _ => h57) (by omega) (by omega) (lv_sub hl [0, 1, 2, 3] rfl) hP hD hS
          exact loop83 _ u22.1 u3.1 u3.2 tq ls _ _ rfl (fun h => h) (by omega) (Nat.le_refl _) (hl) hP hD hS
        · exact absurd h15 h57
      · refine lv_aload_n hx hb d_Mod_call_43 rfl (lv_at hl 0 rfl) ?_
        refine lv_bipush (v := 10) hx hb d_Mod_call_44 (by decide) ?_
        refine lv_aload_n hx hb d_Mod_call_46 rfl (lv_at hl 0 rfl) ?_
        refine va_get (D := g.1) (ci := 10) (v := .int (nI wh)) (C := R_Mod) (T := F_Mod) (N := 61) hx hb hts in_Mod hown hK hP 0 rfl rfl 45 (by decide) (hts _ wd_1295) (fun _ h9 => h9) rfl d_Mod_call_47 ?_
        refine tw_wv (wr := [((q 2), aI g 600 bs), ((q 14), aI g 620 tg), ((q 16), aI g 620 on), ((q 17), aI g 620 tw), ((q 32), aI g 160 sk), ((q 47), aI g 128 nw), ((q 50), aI g 600 ak)]) (tw_runV (ws := [(h0, .inr (10, mob q rf n mm mb u3.1 u3.2 av ev wi mn tp tc sc nf fd me mp xn mt wh tq ag an ig)), ((q 2), aI g 600 bs), ((q 14), aI g 620 tg), ((q 16), aI g 620 on), ((q 17), aI g 620 tw), ((q 32), aI g 160 sk), ((q 47), aI g 128 nw), ((q 50), aI g 600 ak)]) (wc := [(h0, .inr (10, mob q rf n mm mb u3.1 u3.2 av ev wi mn tp tc sc nf fd me mp xn mt wh tq ag an ig))]) (As := [.int 10, .int (nI wh)]) (rest := []) E hB hK hZ (g_Mod_fail l g H.size h0 q rf n mm mb av ev wi mn tp tc sc nf fd me mp xn mt wh tq ag an ig u3.1 u3.2 10 (nI wh) (by decide)) mc_Mod_fail mi_Mod_fail me_Mod_fail wd_1478 hP hD hS hA [0] rfl (by decide) 0 rfl rfl rfl rfl rfl (by decide) rfl hl.1 rfl (Nat.le_of_ble_eq_true rfl) (by decide) d_Mod_call_50) hP hD hS hA [0] [1, 2, 3, 4, 5, 6, 7] rfl rfl (by decide) (by decide) (fun u32 H locs hr31 hP hD hS => ?_)
        try dsimp only at hr31
        have hP : va_P g.1 classes [((q 2), aI g 600 bs), ((q 14), aI g 620 tg), ((q 16), aI g 620 on), ((q 17), aI g 620 tw), ((q 32), aI g 160 sk), ((q 47), aI g 128 nw), ((q 50), aI g 600 ak), (h0, .inr (10, mob q rf n mm mb u32.1 u32.2 av ev wi mn tp tc sc nf fd me mp xn mt wh tq ag an ig))] H := hP
        have hD : va_D A [((q 2), aI g 600 bs), ((q 14), aI g 620 tg), ((q 16), aI g 620 on), ((q 17), aI g 620 tw), ((q 32), aI g 160 sk), ((q 47), aI g 128 nw), ((q 50), aI g 600 ak), (h0, .inr (10, mob q rf n mm mb u32.1 u32.2 av ev wi mn tp tc sc nf fd me mp xn mt wh tq ag an ig))] := hD
        have hP : va_P g.1 classes [(h0, .inr (10, mob q rf n mm mb u32.1 u32.2 av ev wi mn tp tc sc nf fd me mp xn mt wh tq ag an ig)), ((q 2), aI g 600 bs), ((q 14), aI g 620 tg), ((q 16), aI g 620 on), ((q 17), aI g 620 tw), ((q 32), aI g 160 sk), ((q 47), aI g 128 nw), ((q 50), aI g 600 ak)] H := hP.sub [7, 0, 1, 2, 3, 4, 5, 6] rfl
        have hD : va_D A [(h0, .inr (10, mob q rf n mm mb u32.1 u32.2 av ev wi mn tp tc sc nf fd me mp xn mt wh tq ag an ig)), ((q 2), aI g 600 bs), ((q 14), aI g 620 tg), ((q 16), aI g 620 on), ((q 17), aI g 620 tw), ((q 32), aI g 160 sk), ((q 47), aI g 128 nw), ((q 50), aI g 600 ak)] := hD.sub [7, 0, 1, 2, 3, 4, 5, 6] (by decide) rfl
        have hp32_0 := hr31
        refine lv_aload_n hx hb d_Mod_call_53 rfl (lv_at hl 0 rfl) ?_
        refine va_get (D := g.1) (ci := 10) (v := .int u32.1) (C := R_Mod) (T := F_Mod) (N := 61) hx hb hts in_Mod hown hK hP 0 rfl rfl 8 (by decide) (hts _ wd_1258) (fun _ h9 => h9) rfl d_Mod_call_54 ?_
        refine lv_if_eq (tgt := 61) hx hb d_Mod_call_57 (by decide) (fun h57 => ?_) (fun h57 => ?_)
        · exact absurd h57 hp32_0
        · exact tw_vret E hS (u32.1, u32.2, tq, ag, an, nw, ak) (⟨(fun h => absurd h h57), (by first | omega | (dsimp only <;> omega)), hNW⟩) hP hD d_Mod_call_60
set_option maxHeartbeats 4000000 in
set_option maxRecDepth 100000 in
theorem g_Mod_returns (l : Launch) (g : tw_G) (sz : Nat) (h0 : Nat) (q : Nat → Nat) (rf : Int32) (n : Nat) (mm : Int32) (mb : Int32) (av : Nat) (ev : Nat) (wi : Int32) (mn : Nat) (tp : Int32) (tc : Int32) (sc : Int32) (nf : Nat) (fd : Nat) (me : Nat) (mp : Int32) (xn : Nat) (mt : Nat) (wh : Nat) (ig : Int32) (bs : Nat → Int32) (on : Nat → Int32) (tw : Nat → Int32) (ty : Nat → Int32) (nw : Nat → Int32) (fa : Int32) (fp : Int32) (tq : Nat) (ag : Nat) (an : Int32) (ak : Nat → Int32) (kd1 : Int32) (jt pt lt1 : Nat) (hNW : NOW nw) (htq : tq ≤ 64) (hmt : mt < 160) (hty : ty mt = nI jt) (jt6 : jt < 620) (hj1 : on jt = nI pt) (hj2 : tw jt = nI lt1) (hj3 : pt + lt1 ≤ 600) (hj4 : MTY bs pt (pt + lt1)) : Met l y_Mod_returns [.code y_Mod_returns b_Mod_returns 2 none] ({ frames := 5, cells := 0, slots := 0, locals := 117 }) (tw_P g [.ref h0, .int kd1] [(h0, .inr (10, mob q rf n mm mb fa fp av ev wi mn tp tc sc nf fd me mp xn mt wh tq ag an ig)), ((q 2), aI g 600 bs), ((q 16), aI g 620 on), ((q 17), aI g 620 tw), ((q 30), aI g 160 ty), ((q 47), aI g 128 nw), ((q 50), aI g 600 ak)] sz) (tw_Qv g (fun (u : Int32 × Int32 × Nat × Nat × Int32 × (Nat → Int32)) => (u.1 = 0 → fa = 0) ∧ (u.2.2.1 ≤ 64)) (fun u : Int32 × Int32 × Nat × Nat × Int32 × (Nat → Int32) => [(h0, .inr (10, mob q rf n mm mb u.1 u.2.1 av ev wi mn tp tc sc nf fd me mp xn mt wh u.2.2.1 u.2.2.2.1 u.2.2.2.2.1 ig)), ((q 2), aI g 600 bs), ((q 16), aI g 620 on), ((q 17), aI g 620 tw), ((q 30), aI g 160 ty), ((q 47), aI g 128 nw), ((q 50), aI g 600 u.2.2.2.2.2)]) (va_A [(h0, .inr (10, mob q rf n mm mb fa fp av ev wi mn tp tc sc nf fd me mp xn mt wh tq ag an ig)), ((q 2), aI g 600 bs), ((q 16), aI g 620 on), ((q 17), aI g 620 tw), ((q 30), aI g 160 ty), ((q 47), aI g 128 nw), ((q 50), aI g 600 ak)] sz)) 0 0 (va_A [(h0, .inr (10, mob q rf n mm mb fa fp av ev wi mn tp tc sc nf fd me mp xn mt wh tq ag an ig)), ((q 2), aI g 600 bs), ((q 16), aI g 620 on), ((q 17), aI g 620 tw), ((q 30), aI g 160 ty), ((q 47), aI g 128 nw), ((q 50), aI g 600 ak)] sz) := by
  refine tw_metW (l := l) (g := g) (y := y_Mod_returns) (cc := b_Mod_returns) (maxL := 2) (ret := none) (rm := { frames := 5, cells := 0, slots := 0, locals := 117 }) (mc := 0) (ms := 0) (av := [.ref h0, .int kd1]) (ws := [(h0, .inr (10, mob q rf n mm mb fa fp av ev wi mn tp tc sc nf fd me mp xn mt wh tq ag an ig)), ((q 2), aI g 600 bs), ((q 16), aI g 620 on), ((q 17), aI g 620 tw), ((q 30), aI g 160 ty), ((q 47), aI g 128 nw), ((q 50), aI g 600 ak)]) (sz := sz) (Qc := fun A => (tw_Qv g (fun (u : Int32 × Int32 × Nat × Nat × Int32 × (Nat → Int32)) => (u.1 = 0 → fa = 0) ∧ (u.2.2.1 ≤ 64)) (fun u : Int32 × Int32 × Nat × Nat × Int32 × (Nat → Int32) => [(h0, .inr (10, mob q rf n mm mb u.1 u.2.1 av ev wi mn tp tc sc nf fd me mp xn mt wh u.2.2.1 u.2.2.2.1 u.2.2.2.2.1 ig)), ((q 2), aI g 600 bs), ((q 16), aI g 620 on), ((q 17), aI g 620 tw), ((q 30), aI g 160 ty), ((q 47), aI g 128 nw), ((q 50), aI g 600 u.2.2.2.2.2)]) A)) (by decide) (Nat.le_of_ble_eq_true rfl) ?_
  intro p e s m below meth c ls H A E hB hK hZ hP hD hS hA hl
  obtain ⟨hx, hb, hml, hr, hown, hts, hlocks, hin⟩ := id E
  have hl : lv_has ls 2 [(0, .ref h0), (1, .int kd1)] := hl
  refine lv_iload_n hx hb d_Mod_returns_0 rfl (lv_at hl 1 rfl) ?_
  refine lv_if_eq (tgt := 9) hx hb d_Mod_returns_1 (by decide) (fun h1 => ?_) (fun h1 => ?_)
  · refine lv_aload_n hx hb d_Mod_returns_9 rfl (lv_at hl 0 rfl) ?_
    refine lv_aload_n hx hb d_Mod_returns_10 rfl (lv_at hl 0 rfl) ?_
    refine va_get (D := g.1) (ci := 10) (v := .ref (q 30)) (C := R_Mod) (T := F_Mod) (N := 61) hx hb hts in_Mod hown hK hP 0 rfl rfl 30 (by decide) (hts _ wd_1280) (fun _ h9 => h9) rfl d_Mod_returns_11 ?_
    refine lv_aload_n hx hb d_Mod_returns_14 rfl (lv_at hl 0 rfl) ?_
    refine va_get (D := g.1) (ci := 10) (v := .int (nI mt)) (C := R_Mod) (T := F_Mod) (N := 61) hx hb hts in_Mod hown hK hP 0 rfl rfl 44 (by decide) (hts _ wd_1294) (fun _ h9 => h9) rfl d_Mod_returns_15 ?_
    refine va_iald hx hb hK hP 4 0 rfl rfl (vp_in_nI (by omega) (by decide)) d_Mod_returns_18 ?_
    refine tw_ri (e2 := nI jt) (by rw [nI_clamp (by omega)]; exact hty) ?_
    refine tw_wv (wr := [((q 30), aI g 160 ty), ((q 47), aI g 128 nw)]) (tw_runV (ws := [(h0, .inr (10, mob q rf n mm mb fa fp av ev wi mn tp tc sc nf fd me mp xn mt wh tq ag an ig)), ((q 2), aI g 600 bs), ((q 16), aI g 620 on), ((q 17), aI g 620 tw), ((q 30), aI g 160 ty), ((q 47), aI g 128 nw), ((q 50), aI g 600 ak)]) (wc := [(h0, .inr (10, mob q rf n mm mb fa fp av ev wi mn tp tc sc nf fd me mp xn mt wh tq ag an ig)), ((q 2), aI g 600 bs), ((q 16), aI g 620 on), ((q 17), aI g 620 tw), ((q 50), aI g 600 ak)]) (As := [.int (nI jt)]) (rest := []) E hB hK hZ (g_Mod_readTypes l g H.size h0 q rf n mm mb fa fp av ev wi mn tp tc sc nf fd me mp xn mt wh tq ig bs on tw ag an ak jt pt lt1 (by omega) hj1 hj2 hj3 hj4) mc_Mod_readTypes mi_Mod_readTypes me_Mod_readTypes wd_1628 hP hD hS hA [0, 1, 2, 3, 6] rfl (by decide) 0 rfl rfl rfl rfl rfl (by decide) rfl hl.1 rfl (Nat.le_of_ble_eq_true rfl) (by decide) d_Mod_returns_19) hP hD hS hA [0, 1, 2, 3, 6] [4, 5] rfl rfl (by decide) (by decide) (fun u2 H locs hr1 hP hD hS => ?_)
    try dsimp only at hr1
    have hP : va_P g.1 classes [((q 30), aI g 160 ty), ((q 47), aI g 128 nw), (h0, .inr (10, mob q rf n mm mb fa fp av ev wi mn tp tc sc nf fd me mp xn mt wh tq u2.1 u2.2.1 ig)), ((q 2), aI g 600 bs), ((q 16), aI g 620 on), ((q 17), aI g 620 tw), ((q 50), aI g 600 u2.2.2)] H := hP
    have hD : va_D A [((q 30), aI g 160 ty), ((q 47), aI g 128 nw), (h0, .inr (10, mob q rf n mm mb fa fp av ev wi mn tp tc sc nf fd me mp xn mt wh tq u2.1 u2.2.1 ig)), ((q 2), aI g 600 bs), ((q 16), aI g 620 on), ((q 17), aI g 620 tw), ((q 50), aI g 600 u2.2.2)] := hD
    have hP : va_P g.1 classes [(h0, .inr (10, mob q rf n mm mb fa fp av ev wi mn tp tc sc nf fd me mp xn mt wh tq u2.1 u2.2.1 ig)), ((q 2), aI g 600 bs), ((q 16), aI g 620 on), ((q 17), aI g 620 tw), ((q 30), aI g 160 ty), ((q 47), aI g 128 nw), ((q 50), aI g 600 u2.2.2)] H := hP.sub [2, 3, 4, 5, 0, 1, 6] rfl
    have hD : va_D A [(h0, .inr (10, mob q rf n mm mb fa fp av ev wi mn tp tc sc nf fd me mp xn mt wh tq u2.1 u2.2.1 ig)), ((q 2), aI g 600 bs), ((q 16), aI g 620 on), ((q 17), aI g 620 tw), ((q 30), aI g 160 ty), ((q 47), aI g 128 nw), ((q 50), aI g 600 u2.2.2)] := hD.sub [2, 3, 4, 5, 0, 1, 6] (by decide) rfl
    obtain ⟨hp2_0, hp2_1, hp2_2⟩ := hr1
    refine lv_aload_n hx hb d_Mod_returns_22 rfl (lv_at hl 0 rfl) ?_
    refine va_get (D := g.1) (ci := 10) (v := .int u2.2.1) (C := R_Mod) (T := F_Mod) (N := 61) hx hb hts in_Mod hown hK hP 0 rfl rfl 51 (by decide) (hts _ wd_1301) (fun _ h9 => h9) rfl d_Mod_returns_23 ?_
    refine lv_iload_n hx hb d_Mod_returns_26 rfl (lv_at hl 1 rfl) ?_
    refine lv_icmp_eq (tgt := 40) hx hb d_Mod_returns_27 (by decide) (fun h27 => ?_) (fun h27 => ?_)
    · exact tw_vret E hS (fa, fp, tq, u2.1, u2.2.1, u2.2.2) (⟨(fun h => h), (by first | omega | (dsimp only <;> omega))⟩) hP hD d_Mod_returns_40
    · refine lv_aload_n hx hb d_Mod_returns_30 rfl (lv_at hl 0 rfl) ?_
      refine lv_bipush (v := 23) hx hb d_Mod_returns_31 (by decide) ?_
      refine lv_aload_n hx hb d_Mod_returns_33 rfl (lv_at hl 0 rfl) ?_
      refine va_get (D := g.1) (ci := 10) (v := .int (nI wh)) (C := R_Mod) (T := F_Mod) (N := 61) hx hb hts in_Mod hown hK hP 0 rfl rfl 45 (by decide) (hts _ wd_1295) (fun _ h9 => h9) rfl d_Mod_returns_34 ?_
      refine tw_wv (wr := [((q 2), aI g 600 bs), ((q 16), aI g 620 on), ((q 17), aI g 620 tw), ((q 30), aI g 160 ty), ((q 47), aI g 128 nw), ((q 50), aI g 600 u2.2.2)]) (tw_runV (ws := [(h0, .inr (10, mob q rf n mm mb fa fp av ev wi mn tp tc sc nf fd me mp xn mt wh tq u2.1 u2.2.1 ig)), ((q 2), aI g 600 bs), ((q 16), aI g 620 on), ((q 17), aI g 620 tw), ((q 30), aI g 160 ty), ((q 47), aI g 128 nw), ((q 50), aI g 600 u2.2.2)]) (wc := [(h0, .inr (10, mob q rf n mm mb fa fp av ev wi mn tp tc sc nf fd me mp xn mt wh tq u2.1 u2.2.1 ig))]) (As := [.int 23, .int (nI wh)]) (rest := []) E hB hK hZ (g_Mod_fail l g H.size h0 q rf n mm mb av ev wi mn tp tc sc nf fd me mp xn mt wh tq u2.1 u2.2.1 ig fa fp 23 (nI wh) (by decide)) mc_Mod_fail mi_Mod_fail me_Mod_fail wd_1478 hP hD hS hA [0] rfl (by decide) 0 rfl rfl rfl rfl rfl (by decide) rfl hl.1 rfl (Nat.le_of_ble_eq_true rfl) (by decide) d_Mod_returns_37) hP hD hS hA [0] [1, 2, 3, 4, 5, 6] rfl rfl (by decide) (by decide) (fun u4 H locs hr3 hP hD hS => ?_)
      try dsimp only at hr3
      have hP : va_P g.1 classes [((q 2), aI g 600 bs), ((q 16), aI g 620 on), ((q 17), aI g 620 tw), ((q 30), aI g 160 ty), ((q 47), aI g 128 nw), ((q 50), aI g 600 u2.2.2), (h0, .inr (10, mob q rf n mm mb u4.1 u4.2 av ev wi mn tp tc sc nf fd me mp xn mt wh tq u2.1 u2.2.1 ig))] H := hP
      have hD : va_D A [((q 2), aI g 600 bs), ((q 16), aI g 620 on), ((q 17), aI g 620 tw), ((q 30), aI g 160 ty), ((q 47), aI g 128 nw), ((q 50), aI g 600 u2.2.2), (h0, .inr (10, mob q rf n mm mb u4.1 u4.2 av ev wi mn tp tc sc nf fd me mp xn mt wh tq u2.1 u2.2.1 ig))] := hD
      have hP : va_P g.1 classes [(h0, .inr (10, mob q rf n mm mb u4.1 u4.2 av ev wi mn tp tc sc nf fd me mp xn mt wh tq u2.1 u2.2.1 ig)), ((q 2), aI g 600 bs), ((q 16), aI g 620 on), ((q 17), aI g 620 tw), ((q 30), aI g 160 ty), ((q 47), aI g 128 nw), ((q 50), aI g 600 u2.2.2)] H := hP.sub [6, 0, 1, 2, 3, 4, 5] rfl
      have hD : va_D A [(h0, .inr (10, mob q rf n mm mb u4.1 u4.2 av ev wi mn tp tc sc nf fd me mp xn mt wh tq u2.1 u2.2.1 ig)), ((q 2), aI g 600 bs), ((q 16), aI g 620 on), ((q 17), aI g 620 tw), ((q 30), aI g 160 ty), ((q 47), aI g 128 nw), ((q 50), aI g 600 u2.2.2)] := hD.sub [6, 0, 1, 2, 3, 4, 5] (by decide) rfl
      have hp4_0 := hr3
      exact tw_vret E hS (u4.1, u4.2, tq, u2.1, u2.2.1, u2.2.2) (⟨(fun h => absurd h hp4_0), (by first | omega | (dsimp only <;> omega))⟩) hP hD d_Mod_returns_40
  · refine lv_aload_n hx hb d_Mod_returns_4 rfl (lv_at hl 0 rfl) ?_
    refine lv_iload_n hx hb d_Mod_returns_5 rfl (lv_at hl 1 rfl) ?_
    refine tw_wv (wr := [((q 2), aI g 600 bs), ((q 16), aI g 620 on), ((q 17), aI g 620 tw), ((q 30), aI g 160 ty), ((q 50), aI g 600 ak)]) (tw_runV (ws := [(h0, .inr (10, mob q rf n mm mb fa fp av ev wi mn tp tc sc nf fd me mp xn mt wh tq ag an ig)), ((q 2), aI g 600 bs), ((q 16), aI g 620 on), ((q 17), aI g 620 tw), ((q 30), aI g 160 ty), ((q 47), aI g 128 nw), ((q 50), aI g 600 ak)]) (wc := [(h0, .inr (10, mob q rf n mm mb fa fp av ev wi mn tp tc sc nf fd me mp xn mt wh tq ag an ig)), ((q 47), aI g 128 nw)]) (As := [.int kd1]) (rest := []) E hB hK hZ (g_Mod_take l g H.size h0 q rf n mm mb av ev wi mn tp tc sc nf fd me mp xn mt wh ag an ig nw fa fp tq kd1 hNW (by omega)) mc_Mod_take mi_Mod_take me_Mod_take wd_1668 hP hD hS hA [0, 5] rfl (by decide) 0 rfl rfl rfl rfl rfl (by decide) rfl hl.1 rfl (Nat.le_of_ble_eq_true rfl) (by decide) d_Mod_returns_6) hP hD hS hA [0, 5] [1, 2, 3, 4, 6] rfl rfl (by decide) (by decide) (fun u6 H locs hr5 hP hD hS => ?_)
    try dsimp only at hr5
    have hP : va_P g.1 classes [((q 2), aI g 600 bs), ((q 16), aI g 620 on), ((q 17), aI g 620 tw), ((q 30), aI g 160 ty), ((q 50), aI g 600 ak), (h0, .inr (10, mob q rf n mm mb u6.1 u6.2.1 av ev wi mn tp tc sc nf fd me mp xn mt wh u6.2.2 ag an ig)), ((q 47), aI g 128 nw)] H := hP
    have hD : va_D A [((q 2), aI g 600 bs), ((q 16), aI g 620 on), ((q 17), aI g 620 tw), ((q 30), aI g 160 ty), ((q 50), aI g 600 ak), (h0, .inr (10, mob q rf n mm mb u6.1 u6.2.1 av ev wi mn tp tc sc nf fd me mp xn mt wh u6.2.2 ag an ig)), ((q 47), aI g 128 nw)] := hD
    have hP : va_P g.1 classes [(h0, .inr (10, mob q rf n mm mb u6.1 u6.2.1 av ev wi mn tp tc sc nf fd me mp xn mt wh u6.2.2 ag an ig)), ((q 2), aI g 600 bs), ((q 16), aI g 620 on), ((q 17), aI g 620 tw), ((q 30), aI g 160 ty), ((q 47), aI g 128 nw), ((q 50), aI g 600 ak)] H := hP.sub [5, 0, 1, 2, 3, 6, 4] rfl
    have hD : va_D A [(h0, .inr (10, mob q rf n mm mb u6.1 u6.2.1 av ev wi mn tp tc sc nf fd me mp xn mt wh u6.2.2 ag an ig)), ((q 2), aI g 600 bs), ((q 16), aI g 620 on), ((q 17), aI g 620 tw), ((q 30), aI g 160 ty), ((q 47), aI g 128 nw), ((q 50), aI g 600 ak)] := hD.sub [5, 0, 1, 2, 3, 6, 4] (by decide) rfl
    obtain ⟨hp6_0, hp6_1, hp6_2⟩ := hr5
    refine lv_aload_n hx hb d_Mod_returns_9 rfl (lv_at hl 0 rfl) ?_
    refine lv_aload_n hx hb d_Mod_returns_10 rfl (lv_at hl 0 rfl) ?_
    refine va_get (D := g.1) (ci := 10) (v := .ref (q 30)) (C := R_Mod) (T := F_Mod) (N := 61) hx hb hts in_Mod hown hK hP 0 rfl rfl 30 (by decide) (hts _ wd_1280) (fun _ h9 => h9) rfl d_Mod_returns_11 ?_
    refine lv_aload_n hx hb d_Mod_returns_14 rfl (lv_at hl 0 rfl) ?_
    refine va_get (D := g.1) (ci := 10) (v := .int (nI mt)) (C := R_Mod) (T := F_Mod) (N := 61) hx hb hts in_Mod hown hK hP 0 rfl rfl 44 (by decide) (hts _ wd_1294) (fun _ h9 => h9) rfl d_Mod_returns_15 ?_
    refine va_iald hx hb hK hP 4 0 rfl rfl (vp_in_nI (by omega) (by decide)) d_Mod_returns_18 ?_
    refine tw_ri (e2 := nI jt) (by rw [nI_clamp (by omega)]; exact hty) ?_
    refine tw_wv (wr := [((q 30), aI g 160 ty), ((q 47), aI g 128 nw)]) (tw_runV (ws := [(h0, .inr (10, mob q rf n mm mb u6.1 u6.2.1 av ev wi mn tp tc sc nf fd me mp xn mt wh u6.2.2 ag an ig)), ((q 2), aI g 600 bs), ((q 16), aI g 620 on), ((q 17), aI g 620 tw), ((q 30), aI g 160 ty), ((q 47), aI g 128 nw), ((q 50), aI g 600 ak)]) (wc := [(h0, .inr (10, mob q rf n mm mb u6.1 u6.2.1 av ev wi mn tp tc sc nf fd me mp xn mt wh u6.2.2 ag an ig)), ((q 2), aI g 600 bs), ((q 16), aI g 620 on), ((q 17), aI g 620 tw), ((q 50), aI g 600 ak)]) (As := [.int (nI jt)]) (rest := []) E hB hK hZ (g_Mod_readTypes l g H.size h0 q rf n mm mb u6.1 u6.2.1 av ev wi mn tp tc sc nf fd me mp xn mt wh u6.2.2 ig bs on tw ag an ak jt pt lt1 (by omega) hj1 hj2 hj3 hj4) mc_Mod_readTypes mi_Mod_readTypes me_Mod_readTypes wd_1628 hP hD hS hA [0, 1, 2, 3, 6] rfl (by decide) 0 rfl rfl rfl rfl rfl (by decide) rfl hl.1 rfl (Nat.le_of_ble_eq_true rfl) (by decide) d_Mod_returns_19) hP hD hS hA [0, 1, 2, 3, 6] [4, 5] rfl rfl (by decide) (by decide) (fun u8 H locs hr7 hP hD hS => ?_)
    try dsimp only at hr7
    have hP : va_P g.1 classes [((q 30), aI g 160 ty), ((q 47), aI g 128 nw), (h0, .inr (10, mob q rf n mm mb u6.1 u6.2.1 av ev wi mn tp tc sc nf fd me mp xn mt wh u6.2.2 u8.1 u8.2.1 ig)), ((q 2), aI g 600 bs), ((q 16), aI g 620 on), ((q 17), aI g 620 tw), ((q 50), aI g 600 u8.2.2)] H := hP
    have hD : va_D A [((q 30), aI g 160 ty), ((q 47), aI g 128 nw), (h0, .inr (10, mob q rf n mm mb u6.1 u6.2.1 av ev wi mn tp tc sc nf fd me mp xn mt wh u6.2.2 u8.1 u8.2.1 ig)), ((q 2), aI g 600 bs), ((q 16), aI g 620 on), ((q 17), aI g 620 tw), ((q 50), aI g 600 u8.2.2)] := hD
    have hP : va_P g.1 classes [(h0, .inr (10, mob q rf n mm mb u6.1 u6.2.1 av ev wi mn tp tc sc nf fd me mp xn mt wh u6.2.2 u8.1 u8.2.1 ig)), ((q 2), aI g 600 bs), ((q 16), aI g 620 on), ((q 17), aI g 620 tw), ((q 30), aI g 160 ty), ((q 47), aI g 128 nw), ((q 50), aI g 600 u8.2.2)] H := hP.sub [2, 3, 4, 5, 0, 1, 6] rfl
    have hD : va_D A [(h0, .inr (10, mob q rf n mm mb u6.1 u6.2.1 av ev wi mn tp tc sc nf fd me mp xn mt wh u6.2.2 u8.1 u8.2.1 ig)), ((q 2), aI g 600 bs), ((q 16), aI g 620 on), ((q 17), aI g 620 tw), ((q 30), aI g 160 ty), ((q 47), aI g 128 nw), ((q 50), aI g 600 u8.2.2)] := hD.sub [2, 3, 4, 5, 0, 1, 6] (by decide) rfl
    obtain ⟨hp8_0, hp8_1, hp8_2⟩ := hr7
    refine lv_aload_n hx hb d_Mod_returns_22 rfl (lv_at hl 0 rfl) ?_
    refine va_get (D := g.1) (ci := 10) (v := .int u8.2.1) (C := R_Mod) (T := F_Mod) (N := 61) hx hb hts in_Mod hown hK hP 0 rfl rfl 51 (by decide) (hts _ wd_1301) (fun _ h9 => h9) rfl d_Mod_returns_23 ?_
    refine lv_iload_n hx hb d_Mod_returns_26 rfl (lv_at hl 1 rfl) ?_
    refine lv_icmp_eq (tgt := 40) hx hb d_Mod_returns_27 (by decide) (fun h27 => ?_) (fun h27 => ?_)
    · exact tw_vret E hS (u6.1, u6.2.1, u6.2.2, u8.1, u8.2.1, u8.2.2) (⟨(fun h => (fun h => h) (hp6_0 h)), (by first | omega | (dsimp only <;> omega))⟩) hP hD d_Mod_returns_40
    · refine lv_aload_n hx hb d_Mod_returns_30 rfl (lv_at hl 0 rfl) ?_
      refine lv_bipush (v := 23) hx hb d_Mod_returns_31 (by decide) ?_
      refine lv_aload_n hx hb d_Mod_returns_33 rfl (lv_at hl 0 rfl) ?_
      refine va_get (D := g.1) (ci := 10) (v := .int (nI wh)) (C := R_Mod) (T := F_Mod) (N := 61) hx hb hts in_Mod hown hK hP 0 rfl rfl 45 (by decide) (hts _ wd_1295) (fun _ h9 => h9) rfl d_Mod_returns_34 ?_
      refine tw_wv (wr := [((q 2), aI g 600 bs), ((q 16), aI g 620 on), ((q 17), aI g 620 tw), ((q 30), aI g 160 ty), ((q 47), aI g 128 nw), ((q 50), aI g 600 u8.2.2)]) (tw_runV (ws := [(h0, .inr (10, mob q rf n mm mb u6.1 u6.2.1 av ev wi mn tp tc sc nf fd me mp xn mt wh u6.2.2 u8.1 u8.2.1 ig)), ((q 2), aI g 600 bs), ((q 16), aI g 620 on), ((q 17), aI g 620 tw), ((q 30), aI g 160 ty), ((q 47), aI g 128 nw), ((q 50), aI g 600 u8.2.2)]) (wc := [(h0, .inr (10, mob q rf n mm mb u6.1 u6.2.1 av ev wi mn tp tc sc nf fd me mp xn mt wh u6.2.2 u8.1 u8.2.1 ig))]) (As := [.int 23, .int (nI wh)]) (rest := []) E hB hK hZ (g_Mod_fail l g H.size h0 q rf n mm mb av ev wi mn tp tc sc nf fd me mp xn mt wh u6.2.2 u8.1 u8.2.1 ig u6.1 u6.2.1 23 (nI wh) (by decide)) mc_Mod_fail mi_Mod_fail me_Mod_fail wd_1478 hP hD hS hA [0] rfl (by decide) 0 rfl rfl rfl rfl rfl (by decide) rfl hl.1 rfl (Nat.le_of_ble_eq_true rfl) (by decide) d_Mod_returns_37) hP hD hS hA [0] [1, 2, 3, 4, 5, 6] rfl rfl (by decide) (by decide) (fun u10 H locs hr9 hP hD hS => ?_)
      try dsimp only at hr9
      have hP : va_P g.1 classes [((q 2), aI g 600 bs), ((q 16), aI g 620 on), ((q 17), aI g 620 tw), ((q 30), aI g 160 ty), ((q 47), aI g 128 nw), ((q 50), aI g 600 u8.2.2), (h0, .inr (10, mob q rf n mm mb u10.1 u10.2 av ev wi mn tp tc sc nf fd me mp xn mt wh u6.2.2 u8.1 u8.2.1 ig))] H := hP
      have hD : va_D A [((q 2), aI g 600 bs), ((q 16), aI g 620 on), ((q 17), aI g 620 tw), ((q 30), aI g 160 ty), ((q 47), aI g 128 nw), ((q 50), aI g 600 u8.2.2), (h0, .inr (10, mob q rf n mm mb u10.1 u10.2 av ev wi mn tp tc sc nf fd me mp xn mt wh u6.2.2 u8.1 u8.2.1 ig))] := hD
      have hP : va_P g.1 classes [(h0, .inr (10, mob q rf n mm mb u10.1 u10.2 av ev wi mn tp tc sc nf fd me mp xn mt wh u6.2.2 u8.1 u8.2.1 ig)), ((q 2), aI g 600 bs), ((q 16), aI g 620 on), ((q 17), aI g 620 tw), ((q 30), aI g 160 ty), ((q 47), aI g 128 nw), ((q 50), aI g 600 u8.2.2)] H := hP.sub [6, 0, 1, 2, 3, 4, 5] rfl
      have hD : va_D A [(h0, .inr (10, mob q rf n mm mb u10.1 u10.2 av ev wi mn tp tc sc nf fd me mp xn mt wh u6.2.2 u8.1 u8.2.1 ig)), ((q 2), aI g 600 bs), ((q 16), aI g 620 on), ((q 17), aI g 620 tw), ((q 30), aI g 160 ty), ((q 47), aI g 128 nw), ((q 50), aI g 600 u8.2.2)] := hD.sub [6, 0, 1, 2, 3, 4, 5] (by decide) rfl
      have hp10_0 := hr9
      exact tw_vret E hS (u10.1, u10.2, u6.2.2, u8.1, u8.2.1, u8.2.2) (⟨(fun h => absurd h hp10_0), (by first | omega | (dsimp only <;> omega))⟩) hP hD d_Mod_returns_40
set_option maxHeartbeats 4000000 in
set_option maxRecDepth 100000 in
theorem g_Mod_isLongOnTop (l : Launch) (g : tw_G) (sz : Nat) (h0 : Nat) (q : Nat → Nat) (rf : Int32) (n : Nat) (mm : Int32) (mb : Int32) (fa : Int32) (fp : Int32) (av : Nat) (ev : Nat) (wi : Int32) (mn : Nat) (tp : Int32) (tc : Int32) (sc : Int32) (nf : Nat) (fd : Nat) (me : Nat) (mp : Int32) (xn : Nat) (mt : Nat) (wh : Nat) (tq : Nat) (ag : Nat) (an : Int32) (ig : Int32) (nw : Nat → Int32) (htq : tq ≤ 64) : Met l y_Mod_isLongOnTop [.code y_Mod_isLongOnTop b_Mod_isLongOnTop 1 (some .boolean)] ({ frames := 0, cells := 0, slots := 0, locals := 0 }) (tw_P g [.ref h0] [(h0, .inr (10, mob q rf n mm mb fa fp av ev wi mn tp tc sc nf fd me mp xn mt wh tq ag an ig)), ((q 47), aI g 128 nw)] sz) (vp_Si (fun (r : Int32) => (r = 0 ∨ r = 1))) 0 0 (fun _ => False) := by
  refine tw_met (l := l) (g := g) (y := y_Mod_isLongOnTop) (cc := b_Mod_isLongOnTop) (maxL := 1) (ret := (some .boolean)) (rm := { frames := 0, cells := 0, slots := 0, locals := 0 }) (mc := 0) (ms := 0) (av := [.ref h0]) (ws := [(h0, .inr (10, mob q rf n mm mb fa fp av ev wi mn tp tc sc nf fd me mp xn mt wh tq ag an ig)), ((q 47), aI g 128 nw)]) (sz := sz) (Qc := fun _ => (vp_Si (fun (r : Int32) => (r = 0 ∨ r = 1)))) (free := fun _ _ => False) (by decide) (Nat.le_of_ble_eq_true rfl) ?_
  intro p e s m below meth c ls A E hB hK hZ hP hD hS hA hl
  obtain ⟨hx, hb, hml, hr, hown, hts, hlocks, hin⟩ := id E
  have hl : lv_has ls 1 [(0, .ref h0)] := hl
  refine lv_aload_n hx hb d_Mod_isLongOnTop_0 rfl (lv_at hl 0 rfl) ?_
  refine va_get (D := g.1) (ci := 10) (v := .int (nI tq)) (C := R_Mod) (T := F_Mod) (N := 61) hx hb hts in_Mod hown hK hP 0 rfl rfl 46 (by decide) (hts _ wd_1296) (fun _ h9 => h9) rfl d_Mod_isLongOnTop_1 ?_
  refine lv_if_le (tgt := 29) hx hb d_Mod_isLongOnTop_4 (by decide) (fun h4 => ?_) (fun h4 => ?_)
  · refine lv_iconst (v := 0) hx hb d_Mod_isLongOnTop_29 (by decide) ?_
    exact tw_zsret E (by decide) (by decide) d_Mod_isLongOnTop_30
  · refine lv_aload_n hx hb d_Mod_isLongOnTop_7 rfl (lv_at hl 0 rfl) ?_
    refine va_get (D := g.1) (ci := 10) (v := .ref (q 47)) (C := R_Mod) (T := F_Mod) (N := 61) hx hb hts in_Mod hown hK hP 0 rfl rfl 47 (by decide) (hts _ wd_1297) (fun _ h9 => h9) rfl d_Mod_isLongOnTop_8 ?_
    refine lv_bipush (v := 64) hx hb d_Mod_isLongOnTop_11 (by decide) ?_
    refine lv_aload_n hx hb d_Mod_isLongOnTop_13 rfl (lv_at hl 0 rfl) ?_
    refine va_get (D := g.1) (ci := 10) (v := .int (nI tq)) (C := R_Mod) (T := F_Mod) (N := 61) hx hb hts in_Mod hown hK hP 0 rfl rfl 46 (by decide) (hts _ wd_1296) (fun _ h9 => h9) rfl d_Mod_isLongOnTop_14 ?_
    refine lv_iadd hx hb d_Mod_isLongOnTop_17 ?_
    refine tw_ri (e2 := nI (64 + tq)) (nI_add 64 tq) ?_
    refine lv_iconst (v := 1) hx hb d_Mod_isLongOnTop_18 (by decide) ?_
    refine lv_isub hx hb d_Mod_isLongOnTop_19 ?_
    refine tw_ri (e2 := nI (64 + tq - 1)) (pk_sub (b := 1) (by omega)) ?_
    refine va_iald hx hb hK hP 1 0 rfl rfl (vp_in_nI (by omega) (by decide)) d_Mod_isLongOnTop_20 ?_
    obtain ⟨x1, ex1⟩ : ∃ z : Int32, nw ((nI (64 + tq - 1)).toNatClampNeg) = z := ⟨_, rfl⟩
    refine tw_ri (e2 := x1) ex1 ?_
    refine lv_iconst (v := 3) hx hb d_Mod_isLongOnTop_21 (by decide) ?_
    refine lv_icmp_ne (tgt := 29) hx hb d_Mod_isLongOnTop_22 (by decide) (fun h22 => ?_) (fun h22 => ?_)
    · refine lv_iconst (v := 0) hx hb d_Mod_isLongOnTop_29 (by decide) ?_
      exact tw_zsret E (by decide) (by decide) d_Mod_isLongOnTop_30
    · refine lv_iconst (v := 1) hx hb d_Mod_isLongOnTop_25 (by decide) ?_
      refine lv_goto (tgt := 30) hx hb d_Mod_isLongOnTop_26 (by decide) ?_
      exact tw_zsret E (by decide) (by decide) d_Mod_isLongOnTop_30
set_option maxHeartbeats 4000000 in
set_option maxRecDepth 100000 in
theorem g_Mod_arrange (l : Launch) (g : tw_G) (sz : Nat) (h0 : Nat) (q : Nat → Nat) (rf : Int32) (n : Nat) (mm : Int32) (mb : Int32) (av : Nat) (ev : Nat) (wi : Int32) (mn : Nat) (tp : Int32) (tc : Int32) (sc : Int32) (nf : Nat) (fd : Nat) (me : Nat) (mp : Int32) (xn : Nat) (mt : Nat) (wh : Nat) (ag : Nat) (an : Int32) (ig : Int32) (sk : Nat → Int32) (fa : Int32) (fp : Int32) (tq : Nat) (nw : Nat → Int32) (cn : Nat) (s1 : Nat) (hNW : NOW nw) (htq : tq ≤ 64) (hmt : mt < 160) (hsk : sk mt = nI s1) (hs64 : s1 ≤ 64) : Met l y_Mod_arrange [.code y_Mod_arrange b_Mod_arrange 4 none] ({ frames := 2, cells := 0, slots := 0, locals := 44 }) (tw_P g [.ref h0, .int (nI cn)] [(h0, .inr (10, mob q rf n mm mb fa fp av ev wi mn tp tc sc nf fd me mp xn mt wh tq ag an ig)), ((q 32), aI g 160 sk), ((q 47), aI g 128 nw)] sz) (tw_Qv g (fun (u : Int32 × Int32 × Nat × (Nat → Int32)) => (u.1 = 0 → fa = 0) ∧ (u.2.2.1 ≤ 64) ∧ (NOW u.2.2.2)) (fun u : Int32 × Int32 × Nat × (Nat → Int32) => [(h0, .inr (10, mob q rf n mm mb u.1 u.2.1 av ev wi mn tp tc sc nf fd me mp xn mt wh u.2.2.1 ag an ig)), ((q 32), aI g 160 sk), ((q 47), aI g 128 u.2.2.2)]) (va_A [(h0, .inr (10, mob q rf n mm mb fa fp av ev wi mn tp tc sc nf fd me mp xn mt wh tq ag an ig)), ((q 32), aI g 160 sk), ((q 47), aI g 128 nw)] sz)) 0 0 (va_A [(h0, .inr (10, mob q rf n mm mb fa fp av ev wi mn tp tc sc nf fd me mp xn mt wh tq ag an ig)), ((q 32), aI g 160 sk), ((q 47), aI g 128 nw)] sz) := by
  refine tw_metW (l := l) (g := g) (y := y_Mod_arrange) (cc := b_Mod_arrange) (maxL := 4) (ret := none) (rm := { frames := 2, cells := 0, slots := 0, locals := 44 }) (mc := 0) (ms := 0) (av := [.ref h0, .int (nI cn)]) (ws := [(h0, .inr (10, mob q rf n mm mb fa fp av ev wi mn tp tc sc nf fd me mp xn mt wh tq ag an ig)), ((q 32), aI g 160 sk), ((q 47), aI g 128 nw)]) (sz := sz) (Qc := fun A => (tw_Qv g (fun (u : Int32 × Int32 × Nat × (Nat → Int32)) => (u.1 = 0 → fa = 0) ∧ (u.2.2.1 ≤ 64) ∧ (NOW u.2.2.2)) (fun u : Int32 × Int32 × Nat × (Nat → Int32) => [(h0, .inr (10, mob q rf n mm mb u.1 u.2.1 av ev wi mn tp tc sc nf fd me mp xn mt wh u.2.2.1 ag an ig)), ((q 32), aI g 160 sk), ((q 47), aI g 128 u.2.2.2)]) A)) (by decide) (Nat.le_of_ble_eq_true rfl) ?_
  intro p e s m below meth c ls H A E hB hK hZ hP hD hS hA hl
  obtain ⟨hx, hb, hml, hr, hown, hts, hlocks, hin⟩ := id E
  have hl : lv_has ls 4 [(0, .ref h0), (1, .int (nI cn))] := hl
  refine lv_iload_n hx hb d_Mod_arrange_0 rfl (lv_at hl 1 rfl) ?_
  refine lv_bipush (v := 87) hx hb d_Mod_arrange_1 (by decide) ?_
  refine lv_icmp_ne (tgt := 14) hx hb d_Mod_arrange_3 (by decide) (fun h3 => ?_) (fun h3 => ?_)
  · refine lv_iload_n hx hb d_Mod_arrange_14 rfl (lv_at hl 1 rfl) ?_
    refine lv_bipush (v := 89) hx hb d_Mod_arrange_15 (by decide) ?_
    refine lv_icmp_ne (tgt := 38) hx hb d_Mod_arrange_17 (by decide) (fun h17 => ?_) (fun h17 => ?_)
    · refine lv_iload_n hx hb d_Mod_arrange_38 rfl (lv_at hl 1 rfl) ?_
      refine lv_bipush (v := 95) hx hb d_Mod_arrange_39 (by decide) ?_
      refine lv_icmp_ne (tgt := 67) hx hb d_Mod_arrange_41 (by decide) (fun h41 => ?_) (fun h41 => ?_)
      · refine lv_aload_n hx hb d_Mod_arrange_67 rfl (lv_at hl 0 rfl) ?_
        refine tw_si (tw_runV (ws := [(h0, .inr (10, mob q rf n mm mb fa fp av ev wi mn tp tc sc nf fd me mp xn mt wh tq ag an ig)), ((q 32), aI g 160 sk), ((q 47), aI g 128 nw)]) (wc := [(h0, .inr (10, mob q rf n mm mb fa fp av ev wi mn tp tc sc nf fd me mp xn mt wh tq ag an ig)), ((q 47), aI g 128 nw)]) (As := []) (rest := []) E hB hK hZ (g_Mod_isLongOnTop l g H.size h0 q rf n mm mb fa fp av ev wi mn tp tc sc nf fd me mp xn mt wh tq ag an ig nw (by omega)) mc_Mod_isLongOnTop mi_Mod_isLongOnTop me_Mod_isLongOnTop wd_1704 hP hD hS hA [0, 2] rfl (by decide) 0 rfl rfl rfl rfl rfl (by decide) rfl hl.1 rfl (Nat.le_of_ble_eq_true rfl) (by decide) d_Mod_arrange_68) (fun r1 hr1 => ?_)
        have hB1 := hr1
        refine lv_if_eq (tgt := 98) hx hb d_Mod_arrange_71 (by decide) (fun h71 => ?_) (fun h71 => ?_)
        · refine lv_aload_n hx hb d_Mod_arrange_98 rfl (lv_at hl 0 rfl) ?_
          refine tw_wi (wr := [((q 32), aI g 160 sk)]) (tw_runV (ws := [(h0, .inr (10, mob q rf n mm mb fa fp av ev wi mn tp tc sc nf fd me mp xn mt wh tq ag an ig)), ((q 32), aI g 160 sk), ((q 47), aI g 128 nw)]) (wc := [(h0, .inr (10, mob q rf n mm mb fa fp av ev wi mn tp tc sc nf fd me mp xn mt wh tq ag an ig)), ((q 47), aI g 128 nw)]) (As := []) (rest := []) E hB hK hZ (g_Mod_takeSingle l g H.size h0 q rf n mm mb av ev wi mn tp tc sc nf fd me mp xn mt wh ag an ig nw fa fp tq hNW (by omega)) mc_Mod_takeSingle mi_Mod_takeSingle me_Mod_takeSingle wd_1700 hP hD hS hA [0, 2] rfl (by decide) 0 rfl rfl rfl rfl rfl (by decide) rfl hl.1 rfl (Nat.le_of_ble_eq_true rfl) (by decide) d_Mod_arrange_99) hP hD hS hA [0, 2] [1] rfl rfl (by decide) (by decide) (fun r2 u3 H locs hr2 hP hD hS => ?_)
          try dsimp only at hr2
          have hP : va_P g.1 classes [((q 32), aI g 160 sk), (h0, .inr (10, mob q rf n mm mb u3.1 u3.2.1 av ev wi mn tp tc sc nf fd me mp xn mt wh u3.2.2 ag an ig)), ((q 47), aI g 128 nw)] H := hP
          have hD : va_D A [((q 32), aI g 160 sk), (h0, .inr (10, mob q rf n mm mb u3.1 u3.2.1 av ev wi mn tp tc sc nf fd me mp xn mt wh u3.2.2 ag an ig)), ((q 47), aI g 128 nw)] := hD
          have hP : va_P g.1 classes [(h0, .inr (10, mob q rf n mm mb u3.1 u3.2.1 av ev wi mn tp tc sc nf fd me mp xn mt wh u3.2.2 ag an ig)), ((q 32), aI g 160 sk), ((q 47), aI g 128 nw)] H := hP.sub [1, 0, 2] rfl
          have hD : va_D A [(h0, .inr (10, mob q rf n mm mb u3.1 u3.2.1 av ev wi mn tp tc sc nf fd me mp xn mt wh u3.2.2 ag an ig)), ((q 32), aI g 160 sk), ((q 47), aI g 128 nw)] := hD.sub [1, 0, 2] (by decide) rfl
          obtain ⟨hp3_0, hp3_1, hp3_2, hp3_3⟩ := hr2
          refine lv_istore_n hx hb d_Mod_arrange_102 rfl hl (by decide) rfl (fun ls hl => ?_)
          have hl : lv_has ls 4 [(2, .int r2), (0, .ref h0), (1, .int (nI cn))] := hl
          refine lv_aload_n hx hb d_Mod_arrange_103 rfl (lv_at hl 1 rfl) ?_
          refine tw_wi (wr := [((q 32), aI g 160 sk)]) (tw_runV (ws := [(h0, .inr (10, mob q rf n mm mb u3.1 u3.2.1 av ev wi mn tp tc sc nf fd me mp xn mt wh u3.2.2 ag an ig)), ((q 32), aI g 160 sk), ((q 47), aI g 128 nw)]) (wc := [(h0, .inr (10, mob q rf n mm mb u3.1 u3.2.1 av ev wi mn tp tc sc nf fd me mp xn mt wh u3.2.2 ag an ig)), ((q 47), aI g 128 nw)]) (As := []) (rest := []) E hB hK hZ (g_Mod_takeSingle l g H.size h0 q rf n mm mb av ev wi mn tp tc sc nf fd me mp xn mt wh ag an ig nw u3.1 u3.2.1 u3.2.2 hNW (by omega)) mc_Mod_takeSingle mi_Mod_takeSingle me_Mod_takeSingle wd_1700 hP hD hS hA [0, 2] rfl (by decide) 0 rfl rfl rfl rfl rfl (by decide) rfl hl.1 rfl (Nat.le_of_ble_eq_true rfl) (by decide) d_Mod_arrange_104) hP hD hS hA [0, 2] [1] rfl rfl (by decide) (by decide) (fun r4 u5 H locs hr4 hP hD hS => ?_)
          try dsimp only at hr4
          have hP : va_P g.1 classes [((q 32), aI g 160 sk), (h0, .inr (10, mob q rf n mm mb u5.1 u5.2.1 av ev wi mn tp tc sc nf fd me mp xn mt wh u5.2.2 ag an ig)), ((q 47), aI g 128 nw)] H := hP
          have hD : va_D A [((q 32), aI g 160 sk), (h0, .inr (10, mob q rf n mm mb u5.1 u5.2.1 av ev wi mn tp tc sc nf fd me mp xn mt wh u5.2.2 ag an ig)), ((q 47), aI g 128 nw)] := hD
          have hP : va_P g.1 classes [(h0, .inr (10, mob q rf n mm mb u5.1 u5.2.1 av ev wi mn tp tc sc nf fd me mp xn mt wh u5.2.2 ag an ig)), ((q 32), aI g 160 sk), ((q 47), aI g 128 nw)] H := hP.sub [1, 0, 2] rfl
          have hD : va_D A [(h0, .inr (10, mob q rf n mm mb u5.1 u5.2.1 av ev wi mn tp tc sc nf fd me mp xn mt wh u5.2.2 ag an ig)), ((q 32), aI g 160 sk), ((q 47), aI g 128 nw)] := hD.sub [1, 0, 2] (by decide) rfl
          obtain ⟨hp5_0, hp5_1, hp5_2, hp5_3⟩ := hr4
          refine lv_istore_n hx hb d_Mod_arrange_107 rfl hl (by decide) rfl (fun ls hl => ?_)
          have hl : lv_has ls 4 [(3, .int r4), (2, .int r2), (0, .ref h0), (1, .int (nI cn))] := hl
          refine lv_iload_n hx hb d_Mod_arrange_108 rfl (lv_at hl 3 rfl) ?_
          refine lv_bipush (v := 92) hx hb d_Mod_arrange_109 (by decide) ?_
          refine lv_icmp_ne (tgt := 134) hx hb d_Mod_arrange_111 (by decide) (fun h111 => ?_) (fun h111 => ?_)
          · exact tw_vret E hS (u5.1, u5.2.1, u5.2.2, nw) (⟨(fun h => (fun h => (fun h => h) (hp3_0 h)) (hp5_0 h)), (by first | omega | (dsimp only <;> omega)), hNW⟩) hP hD d_Mod_arrange_134
          · refine lv_aload_n hx hb d_Mod_arrange_114 rfl (lv_at hl 2 rfl) ?_
            refine lv_iload_n hx hb d_Mod_arrange_115 rfl (lv_at hl 0 rfl) ?_
            refine tw_wv (wr := []) (tw_runV (ws := [(h0, .inr (10, mob q rf n mm mb u5.1 u5.2.1 av ev wi mn tp tc sc nf fd me mp xn mt wh u5.2.2 ag an ig)), ((q 32), aI g 160 sk), ((q 47), aI g 128 nw)]) (wc := [(h0, .inr (10, mob q rf n mm mb u5.1 u5.2.1 av ev wi mn tp tc sc nf fd me mp xn mt wh u5.2.2 ag an ig)), ((q 32), aI g 160 sk), ((q 47), aI g 128 nw)]) (As := [.int r4]) (rest := []) E hB hK hZ (g_Mod_give l g H.size h0 q rf n mm mb av ev wi mn tp tc sc nf fd me mp xn mt wh ag an ig sk u5.1 u5.2.1 u5.2.2 nw r4 s1 hNW (by omega) (by omega) hsk (by omega) (fun h => hp5_3 ((fun h => h) h))) mc_Mod_give mi_Mod_give me_Mod_give wd_1648 hP hD hS hA [0, 1, 2] rfl (by decide) 0 rfl rfl rfl rfl rfl (by decide) rfl hl.1 rfl (Nat.le_of_ble_eq_true rfl) (by decide) d_Mod_arrange_116) hP hD hS hA [0, 1, 2] [] rfl rfl (by decide) (by decide) (fun u7 H locs hr6 hP hD hS => ?_)
            try dsimp only at hr6
            have hP : va_P g.1 classes [(h0, .inr (10, mob q rf n mm mb u7.1 u7.2.1 av ev wi mn tp tc sc nf fd me mp xn mt wh u7.2.2.1 ag an ig)), ((q 32), aI g 160 sk), ((q 47), aI g 128 u7.2.2.2)] H := hP
            have hD : va_D A [(h0, .inr (10, mob q rf n mm mb u7.1 u7.2.1 av ev wi mn tp tc sc nf fd me mp xn mt wh u7.2.2.1 ag an ig)), ((q 32), aI g 160 sk), ((q 47), aI g 128 u7.2.2.2)] := hD
            have hP : va_P g.1 classes [(h0, .inr (10, mob q rf n mm mb u7.1 u7.2.1 av ev wi mn tp tc sc nf fd me mp xn mt wh u7.2.2.1 ag an ig)), ((q 32), aI g 160 sk), ((q 47), aI g 128 u7.2.2.2)] H := hP.sub [0, 1, 2] rfl
            have hD : va_D A [(h0, .inr (10, mob q rf n mm mb u7.1 u7.2.1 av ev wi mn tp tc sc nf fd me mp xn mt wh u7.2.2.1 ag an ig)), ((q 32), aI g 160 sk), ((q 47), aI g 128 u7.2.2.2)] := hD.sub [0, 1, 2] (by decide) rfl
            obtain ⟨hp7_0, hp7_1, hp7_2⟩ := hr6
            refine lv_aload_n hx hb d_Mod_arrange_119 rfl (lv_at hl 2 rfl) ?_
            refine lv_iload_n hx hb d_Mod_arrange_120 rfl (lv_at hl 1 rfl) ?_
            refine tw_wv (wr := []) (tw_runV (ws := [(h0, .inr (10, mob q rf n mm mb u7.1 u7.2.1 av ev wi mn tp tc sc nf fd me mp xn mt wh u7.2.2.1 ag an ig)), ((q 32), aI g 160 sk), ((q 47), aI g 128 u7.2.2.2)]) (wc := [(h0, .inr (10, mob q rf n mm mb u7.1 u7.2.1 av ev wi mn tp tc sc nf fd me mp xn mt wh u7.2.2.1 ag an ig)), ((q 32), aI g 160 sk), ((q 47), aI g 128 u7.2.2.2)]) (As := [.int r2]) (rest := []) E hB hK hZ (g_Mod_give l g H.size h0 q rf n mm mb av ev wi mn tp tc sc nf fd me mp xn mt wh ag an ig sk u7.1 u7.2.1 u7.2.2.1 u7.2.2.2 r2 s1 hp7_2 (by omega) (by omega) hsk (by omega) (fun h => hp3_3 ((fun h => (fun h => (fun h => h) (hp5_0 h)) (hp7_0 h)) h))) mc_Mod_give mi_Mod_give me_Mod_give wd_1648 hP hD hS hA [0, 1, 2] rfl (by decide) 0 rfl rfl rfl rfl rfl (by decide) rfl hl.1 rfl (Nat.le_of_ble_eq_true rfl) (by decide) d_Mod_arrange_121) hP hD hS hA [0, 1, 2] [] rfl rfl (by decide) (by decide) (fun u9 H locs hr8 hP hD hS => ?_)
            try dsimp only at hr8
            have hP : va_P g.1 classes [(h0, .inr (10, mob q rf n mm mb u9.1 u9.2.1 av ev wi mn tp tc sc nf fd me mp xn mt wh u9.2.2.1 ag an ig)), ((q 32), aI g 160 sk), ((q 47), aI g 128 u9.2.2.2)] H := hP
            have hD : va_D A [(h0, .inr (10, mob q rf n mm mb u9.1 u9.2.1 av ev wi mn tp tc sc nf fd me mp xn mt wh u9.2.2.1 ag an ig)), ((q 32), aI g 160 sk), ((q 47), aI g 128 u9.2.2.2)] := hD
            have hP : va_P g.1 classes [(h0, .inr (10, mob q rf n mm mb u9.1 u9.2.1 av ev wi mn tp tc sc nf fd me mp xn mt wh u9.2.2.1 ag an ig)), ((q 32), aI g 160 sk), ((q 47), aI g 128 u9.2.2.2)] H := hP.sub [0, 1, 2] rfl
            have hD : va_D A [(h0, .inr (10, mob q rf n mm mb u9.1 u9.2.1 av ev wi mn tp tc sc nf fd me mp xn mt wh u9.2.2.1 ag an ig)), ((q 32), aI g 160 sk), ((q 47), aI g 128 u9.2.2.2)] := hD.sub [0, 1, 2] (by decide) rfl
            obtain ⟨hp9_0, hp9_1, hp9_2⟩ := hr8
            refine lv_aload_n hx hb d_Mod_arrange_124 rfl (lv_at hl 2 rfl) ?_
            refine lv_iload_n hx hb d_Mod_arrange_125 rfl (lv_at hl 0 rfl) ?_
            refine tw_wv (wr := []) (tw_runV (ws := [(h0, .inr (10, mob q rf n mm mb u9.1 u9.2.1 av ev wi mn tp tc sc nf fd me mp xn mt wh u9.2.2.1 ag an ig)), ((q 32), aI g 160 sk), ((q 47), aI g 128 u9.2.2.2)]) (wc := [(h0, .inr (10, mob q rf n mm mb u9.1 u9.2.1 av ev wi mn tp tc sc nf fd me mp xn mt wh u9.2.2.1 ag an ig)), ((q 32), aI g 160 sk), ((q 47), aI g 128 u9.2.2.2)]) (As := [.int r4]) (rest := []) E hB hK hZ (g_Mod_give l g H.size h0 q rf n mm mb av ev wi mn tp tc sc nf fd me mp xn mt wh ag an ig sk u9.1 u9.2.1 u9.2.2.1 u9.2.2.2 r4 s1 hp9_2 (by omega) (by omega) hsk (by omega) (fun h => hp5_3 ((fun h => (fun h => (fun h => h) (hp7_0 h)) (hp9_0 h)) h))) mc_Mod_give mi_Mod_give me_Mod_give wd_1648 hP hD hS hA [0, 1, 2] rfl (by decide) 0 rfl rfl rfl rfl rfl (by decide) rfl hl.1 rfl (Nat.le_of_ble_eq_true rfl) (by decide) d_Mod_arrange_126) hP hD hS hA [0, 1, 2] [] rfl rfl (by decide) (by decide) (fun u11 H locs hr10 hP hD hS => ?_)
            try dsimp only at hr10
            have hP : va_P g.1 classes [(h0, .inr (10, mob q rf n mm mb u11.1 u11.2.1 av ev wi mn tp tc sc nf fd me mp xn mt wh u11.2.2.1 ag an ig)), ((q 32), aI g 160 sk), ((q 47), aI g 128 u11.2.2.2)] H := hP
            have hD : va_D A [(h0, .inr (10, mob q rf n mm mb u11.1 u11.2.1 av ev wi mn tp tc sc nf fd me mp xn mt wh u11.2.2.1 ag an ig)), ((q 32), aI g 160 sk), ((q 47), aI g 128 u11.2.2.2)] := hD
            have hP : va_P g.1 classes [(h0, .inr (10, mob q rf n mm mb u11.1 u11.2.1 av ev wi mn tp tc sc nf fd me mp xn mt wh u11.2.2.1 ag an ig)), ((q 32), aI g 160 sk), ((q 47), aI g 128 u11.2.2.2)] H := hP.sub [0, 1, 2] rfl
            have hD : va_D A [(h0, .inr (10, mob q rf n mm mb u11.1 u11.2.1 av ev wi mn tp tc sc nf fd me mp xn mt wh u11.2.2.1 ag an ig)), ((q 32), aI g 160 sk), ((q 47), aI g 128 u11.2.2.2)] := hD.sub [0, 1, 2] (by decide) rfl
            obtain ⟨hp11_0, hp11_1, hp11_2⟩ := hr10
            refine lv_aload_n hx hb d_Mod_arrange_129 rfl (lv_at hl 2 rfl) ?_
            refine lv_iload_n hx hb d_Mod_arrange_130 rfl (lv_at hl 1 rfl) ?_
            refine tw_wv (wr := []) (tw_runV (ws := [(h0, .inr (10, mob q rf n mm mb u11.1 u11.2.1 av ev wi mn tp tc sc nf fd me mp xn mt wh u11.2.2.1 ag an ig)), ((q 32), aI g 160 sk), ((q 47), aI g 128 u11.2.2.2)]) (wc := [(h0, .inr (10, mob q rf n mm mb u11.1 u11.2.1 av ev wi mn tp tc sc nf fd me mp xn mt wh u11.2.2.1 ag an ig)), ((q 32), aI g 160 sk), ((q 47), aI g 128 u11.2.2.2)]) (As := [.int r2]) (rest := []) E hB hK hZ (g_Mod_give l g H.size h0 q rf n mm mb av ev wi mn tp tc sc nf fd me mp xn mt wh ag an ig sk u11.1 u11.2.1 u11.2.2.1 u11.2.2.2 r2 s1 hp11_2 (by omega) (by omega) hsk (by omega) (fun h => hp3_3 ((fun h => (fun h => (fun h => (fun h => (fun h => h) (hp5_0 h)) (hp7_0 h)) (hp9_0 h)) (hp11_0 h)) h))) mc_Mod_give mi_Mod_give me_Mod_give wd_1648 hP hD hS hA [0, 1, 2] rfl (by decide) 0 rfl rfl rfl rfl rfl (by decide) rfl hl.1 rfl (Nat.le_of_ble_eq_true rfl) (by decide) d_Mod_arrange_131) hP hD hS hA [0, 1, 2] [] rfl rfl (by decide) (by decide) (fun u13 H locs hr12 hP hD hS => ?_)
            try dsimp only at hr12
            have hP : va_P g.1 classes [(h0, .inr (10, mob q rf n mm mb u13.1 u13.2.1 av ev wi mn tp tc sc nf fd me mp xn mt wh u13.2.2.1 ag an ig)), ((q 32), aI g 160 sk), ((q 47), aI g 128 u13.2.2.2)] H := hP
            have hD : va_D A [(h0, .inr (10, mob q rf n mm mb u13.1 u13.2.1 av ev wi mn tp tc sc nf fd me mp xn mt wh u13.2.2.1 ag an ig)), ((q 32), aI g 160 sk), ((q 47), aI g 128 u13.2.2.2)] := hD
            have hP : va_P g.1 classes [(h0, .inr (10, mob q rf n mm mb u13.1 u13.2.1 av ev wi mn tp tc sc nf fd me mp xn mt wh u13.2.2.1 ag an ig)), ((q 32), aI g 160 sk), ((q 47), aI g 128 u13.2.2.2)] H := hP.sub [0, 1, 2] rfl
            have hD : va_D A [(h0, .inr (10, mob q rf n mm mb u13.1 u13.2.1 av ev wi mn tp tc sc nf fd me mp xn mt wh u13.2.2.1 ag an ig)), ((q 32), aI g 160 sk), ((q 47), aI g 128 u13.2.2.2)] := hD.sub [0, 1, 2] (by decide) rfl
            obtain ⟨hp13_0, hp13_1, hp13_2⟩ := hr12
            exact tw_vret E hS (u13.1, u13.2.1, u13.2.2.1, u13.2.2.2) (⟨(fun h => (fun h => (fun h => (fun h => (fun h => (fun h => (fun h => h) (hp3_0 h)) (hp5_0 h)) (hp7_0 h)) (hp9_0 h)) (hp11_0 h)) (hp13_0 h)), (by first | omega | (dsimp only <;> omega)), hp13_2⟩) hP hD d_Mod_arrange_134
        · refine lv_aload_n hx hb d_Mod_arrange_74 rfl (lv_at hl 0 rfl) ?_
          refine lv_iconst (v := 2) hx hb d_Mod_arrange_75 (by decide) ?_
          refine tw_wv (wr := [((q 32), aI g 160 sk)]) (tw_runV (ws := [(h0, .inr (10, mob q rf n mm mb fa fp av ev wi mn tp tc sc nf fd me mp xn mt wh tq ag an ig)), ((q 32), aI g 160 sk), ((q 47), aI g 128 nw)]) (wc := [(h0, .inr (10, mob q rf n mm mb fa fp av ev wi mn tp tc sc nf fd me mp xn mt wh tq ag an ig)), ((q 47), aI g 128 nw)]) (As := [.int 2]) (rest := []) E hB hK hZ (g_Mod_take l g H.size h0 q rf n mm mb av ev wi mn tp tc sc nf fd me mp xn mt wh ag an ig nw fa fp tq 2 hNW (by omega)) mc_Mod_take mi_Mod_take me_Mod_take wd_1668 hP hD hS hA [0, 2] rfl (by decide) 0 rfl rfl rfl rfl rfl (by decide) rfl hl.1 rfl (Nat.le_of_ble_eq_true rfl) (by decide) d_Mod_arrange_76) hP hD hS hA [0, 2] [1] rfl rfl (by decide) (by decide) (fun u15 H locs hr14 hP hD hS => ?_)
          try dsimp only at hr14
          have hP : va_P g.1 classes [((q 32), aI g 160 sk), (h0, .inr (10, mob q rf n mm mb u15.1 u15.2.1 av ev wi mn tp tc sc nf fd me mp xn mt wh u15.2.2 ag an ig)), ((q 47), aI g 128 nw)] H := hP
          have hD : va_D A [((q 32), aI g 160 sk), (h0, .inr (10, mob q rf n mm mb u15.1 u15.2.1 av ev wi mn tp tc sc nf fd me mp xn mt wh u15.2.2 ag an ig)), ((q 47), aI g 128 nw)] := hD
          have hP : va_P g.1 classes [(h0, .inr (10, mob q rf n mm mb u15.1 u15.2.1 av ev wi mn tp tc sc nf fd me mp xn mt wh u15.2.2 ag an ig)), ((q 32), aI g 160 sk), ((q 47), aI g 128 nw)] H := hP.sub [1, 0, 2] rfl
          have hD : va_D A [(h0, .inr (10, mob q rf n mm mb u15.1 u15.2.1 av ev wi mn tp tc sc nf fd me mp xn mt wh u15.2.2 ag an ig)), ((q 32), aI g 160 sk), ((q 47), aI g 128 nw)] := hD.sub [1, 0, 2] (by decide) rfl
          obtain ⟨hp15_0, hp15_1, hp15_2⟩ := hr14
          refine lv_iload_n hx hb d_Mod_arrange_79 rfl (lv_at hl 1 rfl) ?_
          refine lv_bipush (v := 92) hx hb d_Mod_arrange_80 (by decide) ?_
          refine lv_icmp_ne (tgt := 134) hx hb d_Mod_arrange_82 (by decide) (fun h82 => ?_) (fun h82 => ?_)
          · exact tw_vret E hS (u15.1, u15.2.1, u15.2.2, nw) (⟨(fun h => (fun h => h) (hp15_0 h)), (by first | omega | (dsimp only <;> omega)), hNW⟩) hP hD d_Mod_arrange_134
          · refine lv_aload_n hx hb d_Mod_arrange_85 rfl (lv_at hl 0 rfl) ?_
            refine lv_iconst (v := 2) hx hb d_Mod_arrange_86 (by decide) ?_
            refine tw_wv (wr := []) (tw_runV (ws := [(h0, .inr (10, mob q rf n mm mb u15.1 u15.2.1 av ev wi mn tp tc sc nf fd me mp xn mt wh u15.2.2 ag an ig)), ((q 32), aI g 160 sk), ((q 47), aI g 128 nw)]) (wc := [(h0, .inr (10, mob q rf n mm mb u15.1 u15.2.1 av ev wi mn tp tc sc nf fd me mp xn mt wh u15.2.2 ag an ig)), ((q 32), aI g 160 sk), ((q 47), aI g 128 nw)]) (As := [.int 2]) (rest := []) E hB hK hZ (g_Mod_give l g H.size h0 q rf n mm mb av ev wi mn tp tc sc nf fd me mp xn mt wh ag an ig sk u15.1 u15.2.1 u15.2.2 nw 2 s1 hNW (by omega) (by omega) hsk (by omega) (fun _ => by decide)) mc_Mod_give mi_Mod_give me_Mod_give wd_1648 hP hD hS hA [0, 1, 2] rfl (by decide) 0 rfl rfl rfl rfl rfl (by decide) rfl hl.1 rfl (Nat.le_of_ble_eq_true rfl) (by decide) d_Mod_arrange_87) hP hD hS hA [0, 1, 2] [] rfl rfl (by decide) (by decide) (fun u17 H locs hr16 hP hD hS => ?_)
            try dsimp only at hr16
            have hP : va_P g.1 classes [(h0, .inr (10, mob q rf n mm mb u17.1 u17.2.1 av ev wi mn tp tc sc nf fd me mp xn mt wh u17.2.2.1 ag an ig)), ((q 32), aI g 160 sk), ((q 47), aI g 128 u17.2.2.2)] H := hP
            have hD : va_D A [(h0, .inr (10, mob q rf n mm mb u17.1 u17.2.1 av ev wi mn tp tc sc nf fd me mp xn mt wh u17.2.2.1 ag an ig)), ((q 32), aI g 160 sk), ((q 47), aI g 128 u17.2.2.2)] := hD
            have hP : va_P g.1 classes [(h0, .inr (10, mob q rf n mm mb u17.1 u17.2.1 av ev wi mn tp tc sc nf fd me mp xn mt wh u17.2.2.1 ag an ig)), ((q 32), aI g 160 sk), ((q 47), aI g 128 u17.2.2.2)] H := hP.sub [0, 1, 2] rfl
            have hD : va_D A [(h0, .inr (10, mob q rf n mm mb u17.1 u17.2.1 av ev wi mn tp tc sc nf fd me mp xn mt wh u17.2.2.1 ag an ig)), ((q 32), aI g 160 sk), ((q 47), aI g 128 u17.2.2.2)] := hD.sub [0, 1, 2] (by decide) rfl
            obtain ⟨hp17_0, hp17_1, hp17_2⟩ := hr16
            refine lv_aload_n hx hb d_Mod_arrange_90 rfl (lv_at hl 0 rfl) ?_
            refine lv_iconst (v := 2) hx hb d_Mod_arrange_91 (by decide) ?_
            refine tw_wv (wr := []) (tw_runV (ws := [(h0, .inr (10, mob q rf n mm mb u17.1 u17.2.1 av ev wi mn tp tc sc nf fd me mp xn mt wh u17.2.2.1 ag an ig)), ((q 32), aI g 160 sk), ((q 47), aI g 128 u17.2.2.2)]) (wc := [(h0, .inr (10, mob q rf n mm mb u17.1 u17.2.1 av ev wi mn tp tc sc nf fd me mp xn mt wh u17.2.2.1 ag an ig)), ((q 32), aI g 160 sk), ((q 47), aI g 128 u17.2.2.2)]) (As := [.int 2]) (rest := []) E hB hK hZ (g_Mod_give l g H.size h0 q rf n mm mb av ev wi mn tp tc sc nf fd me mp xn mt wh ag an ig sk u17.1 u17.2.1 u17.2.2.1 u17.2.2.2 2 s1 hp17_2 (by omega) (by omega) hsk (by omega) (fun _ => by decide)) mc_Mod_give mi_Mod_give me_Mod_give wd_1648 hP hD hS hA [0, 1, 2] rfl (by decide) 0 rfl rfl rfl rfl rfl (by decide) rfl hl.1 rfl (Nat.le_of_ble_eq_true rfl) (by decide) d_Mod_arrange_92) hP hD hS hA [0, 1, 2] [] rfl rfl (by decide) (by decide) (fun u19 H locs hr18 hP hD hS => ?_)
            try dsimp only at hr18
            have hP : va_P g.1 classes [(h0, .inr (10, mob q rf n mm mb u19.1 u19.2.1 av ev wi mn tp tc sc nf fd me mp xn mt wh u19.2.2.1 ag an ig)), ((q 32), aI g 160 sk), ((q 47), aI g 128 u19.2.2.2)] H := hP
            have hD : va_D A [(h0, .inr (10, mob q rf n mm mb u19.1 u19.2.1 av ev wi mn tp tc sc nf fd me mp xn mt wh u19.2.2.1 ag an ig)), ((q 32), aI g 160 sk), ((q 47), aI g 128 u19.2.2.2)] := hD
            have hP : va_P g.1 classes [(h0, .inr (10, mob q rf n mm mb u19.1 u19.2.1 av ev wi mn tp tc sc nf fd me mp xn mt wh u19.2.2.1 ag an ig)), ((q 32), aI g 160 sk), ((q 47), aI g 128 u19.2.2.2)] H := hP.sub [0, 1, 2] rfl
            have hD : va_D A [(h0, .inr (10, mob q rf n mm mb u19.1 u19.2.1 av ev wi mn tp tc sc nf fd me mp xn mt wh u19.2.2.1 ag an ig)), ((q 32), aI g 160 sk), ((q 47), aI g 128 u19.2.2.2)] := hD.sub [0, 1, 2] (by decide) rfl
            obtain ⟨hp19_0, hp19_1, hp19_2⟩ := hr18
            refine lv_goto (tgt := 134) hx hb d_Mod_arrange_95 (by decide) ?_
            exact tw_vret E hS (u19.1, u19.2.1, u19.2.2.1, u19.2.2.2) (⟨(fun h => (fun h => (fun h => (fun h => h) (hp15_0 h)) (hp17_0 h)) (hp19_0 h)), (by first | omega | (dsimp only <;> omega)), hp19_2⟩) hP hD d_Mod_arrange_134
      · refine lv_aload_n hx hb d_Mod_arrange_44 rfl (lv_at hl 0 rfl) ?_
        refine tw_wi (wr := [((q 32), aI g 160 sk)]) (tw_runV (ws := [(h0, .inr (10, mob q rf n mm mb fa fp av ev wi mn tp tc sc nf fd me mp xn mt wh tq ag an ig)), ((q 32), aI g 160 sk), ((q 47), aI g 128 nw)]) (wc := [(h0, .inr (10, mob q rf n mm mb fa fp av ev wi mn tp tc sc nf fd me mp xn mt wh tq ag an ig)), ((q 47), aI g 128 nw)]) (As := []) (rest := []) E hB hK hZ (g_Mod_takeSingle l g H.size h0 q rf n mm mb av ev wi mn tp tc sc nf fd me mp xn mt wh ag an ig nw fa fp tq hNW (by omega)) mc_Mod_takeSingle mi_Mod_takeSingle me_Mod_takeSingle wd_1700 hP hD hS hA [0, 2] rfl (by decide) 0 rfl rfl rfl rfl rfl (by decide) rfl hl.1 rfl (Nat.le_of_ble_eq_true rfl) (by decide) d_Mod_arrange_45) hP hD hS hA [0, 2] [1] rfl rfl (by decide) (by decide) (fun r20 u21 H locs hr20 hP hD hS => ?_)
        try dsimp only at hr20
        have hP : va_P g.1 classes [((q 32), aI g 160 sk), (h0, .inr (10, mob q rf n mm mb u21.1 u21.2.1 av ev wi mn tp tc sc nf fd me mp xn mt wh u21.2.2 ag an ig)), ((q 47), aI g 128 nw)] H := hP
        have hD : va_D A [((q 32), aI g 160 sk), (h0, .inr (10, mob q rf n mm mb u21.1 u21.2.1 av ev wi mn tp tc sc nf fd me mp xn mt wh u21.2.2 ag an ig)), ((q 47), aI g 128 nw)] := hD
        have hP : va_P g.1 classes [(h0, .inr (10, mob q rf n mm mb u21.1 u21.2.1 av ev wi mn tp tc sc nf fd me mp xn mt wh u21.2.2 ag an ig)), ((q 32), aI g 160 sk), ((q 47), aI g 128 nw)] H := hP.sub [1, 0, 2] rfl
        have hD : va_D A [(h0, .inr (10, mob q rf n mm mb u21.1 u21.2.1 av ev wi mn tp tc sc nf fd me mp xn mt wh u21.2.2 ag an ig)), ((q 32), aI g 160 sk), ((q 47), aI g 128 nw)] := hD.sub [1, 0, 2] (by decide) rfl
        obtain ⟨hp21_0, hp21_1, hp21_2, hp21_3⟩ := hr20
        refine lv_istore_n hx hb d_Mod_arrange_48 rfl hl (by decide) rfl (fun ls hl => ?_)
        have hl : lv_has ls 4 [(2, .int r20), (0, .ref h0), (1, .int (nI cn))] := hl
        refine lv_aload_n hx hb d_Mod_arrange_49 rfl (lv_at hl 1 rfl) ?_
        refine tw_wi (wr := [((q 32), aI g 160 sk)]) (tw_runV (ws := [(h0, .inr (10, mob q rf n mm mb u21.1 u21.2.1 av ev wi mn tp tc sc nf fd me mp xn mt wh u21.2.2 ag an ig)), ((q 32), aI g 160 sk), ((q 47), aI g 128 nw)]) (wc := [(h0, .inr (10, mob q rf n mm mb u21.1 u21.2.1 av ev wi mn tp tc sc nf fd me mp xn mt wh u21.2.2 ag an ig)), ((q 47), aI g 128 nw)]) (As := []) (rest := []) E hB hK hZ (g_Mod_takeSingle l g H.size h0 q rf n mm mb av ev wi mn tp tc sc nf fd me mp xn mt wh ag an ig nw u21.1 u21.2.1 u21.2.2 hNW (by omega)) mc_Mod_takeSingle mi_Mod_takeSingle me_Mod_takeSingle wd_1700 hP hD hS hA [0, 2] rfl (by decide) 0 rfl rfl rfl rfl rfl (by decide) rfl hl.1 rfl (Nat.le_of_ble_eq_true rfl) (by decide) d_Mod_arrange_50) hP hD hS hA [0, 2] [1] rfl rfl (by decide) (by decide) (fun r22 u23 H locs hr22 hP hD hS => ?_)
        try dsimp only at hr22
        have hP : va_P g.1 classes [((q 32), aI g 160 sk), (h0, .inr (10, mob q rf n mm mb u23.1 u23.2.1 av ev wi mn tp tc sc nf fd me mp xn mt wh u23.2.2 ag an ig)), ((q 47), aI g 128 nw)] H := hP
        have hD : va_D A [((q 32), aI g 160 sk), (h0, .inr (10, mob q rf n mm mb u23.1 u23.2.1 av ev wi mn tp tc sc nf fd me mp xn mt wh u23.2.2 ag an ig)), ((q 47), aI g 128 nw)] := hD
        have hP : va_P g.1 classes [(h0, .inr (10, mob q rf n mm mb u23.1 u23.2.1 av ev wi mn tp tc sc nf fd me mp xn mt wh u23.2.2 ag an ig)), ((q 32), aI g 160 sk), ((q 47), aI g 128 nw)] H := hP.sub [1, 0, 2] rfl
        have hD : va_D A [(h0, .inr (10, mob q rf n mm mb u23.1 u23.2.1 av ev wi mn tp tc sc nf fd me mp xn mt wh u23.2.2 ag an ig)), ((q 32), aI g 160 sk), ((q 47), aI g 128 nw)] := hD.sub [1, 0, 2] (by decide) rfl
        obtain ⟨hp23_0, hp23_1, hp23_2, hp23_3⟩ := hr22
        refine lv_istore_n hx hb d_Mod_arrange_53 rfl hl (by decide) rfl (fun ls hl => ?_)
        have hl : lv_has ls 4 [(3, .int r22), (2, .int r20), (0, .ref h0), (1, .int (nI cn))] := hl
        refine lv_aload_n hx hb d_Mod_arrange_54 rfl (lv_at hl 2 rfl) ?_
        refine lv_iload_n hx hb d_Mod_arrange_55 rfl (lv_at hl 1 rfl) ?_
        refine tw_wv (wr := []) (tw_runV (ws := [(h0, .inr (10, mob q rf n mm mb u23.1 u23.2.1 av ev wi mn tp tc sc nf fd me mp xn mt wh u23.2.2 ag an ig)), ((q 32), aI g 160 sk), ((q 47), aI g 128 nw)]) (wc := [(h0, .inr (10, mob q rf n mm mb u23.1 u23.2.1 av ev wi mn tp tc sc nf fd me mp xn mt wh u23.2.2 ag an ig)), ((q 32), aI g 160 sk), ((q 47), aI g 128 nw)]) (As := [.int r20]) (rest := []) E hB hK hZ (g_Mod_give l g H.size h0 q rf n mm mb av ev wi mn tp tc sc nf fd me mp xn mt wh ag an ig sk u23.1 u23.2.1 u23.2.2 nw r20 s1 hNW (by omega) (by omega) hsk (by omega) (fun h => hp21_3 ((fun h => (fun h => h) (hp23_0 h)) h))) mc_Mod_give mi_Mod_give me_Mod_give wd_1648 hP hD hS hA [0, 1, 2] rfl (by decide) 0 rfl rfl rfl rfl rfl (by decide) rfl hl.1 rfl (Nat.le_of_ble_eq_true rfl) (by decide) d_Mod_arrange_56) hP hD hS hA [0, 1, 2] [] rfl rfl (by decide) (by decide) (fun u25 H locs hr24 hP hD hS => ?_)
        try dsimp only at hr24
        have hP : va_P g.1 classes [(h0, .inr (10, mob q rf n mm mb u25.1 u25.2.1 av ev wi mn tp tc sc nf fd me mp xn mt wh u25.2.2.1 ag an ig)), ((q 32), aI g 160 sk), ((q 47), aI g 128 u25.2.2.2)] H := hP
        have hD : va_D A [(h0, .inr (10, mob q rf n mm mb u25.1 u25.2.1 av ev wi mn tp tc sc nf fd me mp xn mt wh u25.2.2.1 ag an ig)), ((q 32), aI g 160 sk), ((q 47), aI g 128 u25.2.2.2)] := hD
        have hP : va_P g.1 classes [(h0, .inr (10, mob q rf n mm mb u25.1 u25.2.1 av ev wi mn tp tc sc nf fd me mp xn mt wh u25.2.2.1 ag an ig)), ((q 32), aI g 160 sk), ((q 47), aI g 128 u25.2.2.2)] H := hP.sub [0, 1, 2] rfl
        have hD : va_D A [(h0, .inr (10, mob q rf n mm mb u25.1 u25.2.1 av ev wi mn tp tc sc nf fd me mp xn mt wh u25.2.2.1 ag an ig)), ((q 32), aI g 160 sk), ((q 47), aI g 128 u25.2.2.2)] := hD.sub [0, 1, 2] (by decide) rfl
        obtain ⟨hp25_0, hp25_1, hp25_2⟩ := hr24
        refine lv_aload_n hx hb d_Mod_arrange_59 rfl (lv_at hl 2 rfl) ?_
        refine lv_iload_n hx hb d_Mod_arrange_60 rfl (lv_at hl 0 rfl) ?_
        refine tw_wv (wr := []) (tw_runV (ws := [(h0, .inr (10, mob q rf n mm mb u25.1 u25.2.1 av ev wi mn tp tc sc nf fd me mp xn mt wh u25.2.2.1 ag an ig)), ((q 32), aI g 160 sk), ((q 47), aI g 128 u25.2.2.2)]) (wc := [(h0, .inr (10, mob q rf n mm mb u25.1 u25.2.1 av ev wi mn tp tc sc nf fd me mp xn mt wh u25.2.2.1 ag an ig)), ((q 32), aI g 160 sk), ((q 47), aI g 128 u25.2.2.2)]) (As := [.int r22]) (rest := []) E hB hK hZ (g_Mod_give l g H.size h0 q rf n mm mb av ev wi mn tp tc sc nf fd me mp xn mt wh ag an ig sk u25.1 u25.2.1 u25.2.2.1 u25.2.2.2 r22 s1 hp25_2 (by omega) (by omega) hsk (by omega) (fun h => hp23_3 ((fun h => (fun h => h) (hp25_0 h)) h))) mc_Mod_give mi_Mod_give me_Mod_give wd_1648 hP hD hS hA [0, 1, 2] rfl (by decide) 0 rfl rfl rfl rfl rfl (by decide) rfl hl.1 rfl (Nat.le_of_ble_eq_true rfl) (by decide) d_Mod_arrange_61) hP hD hS hA [0, 1, 2] [] rfl rfl (by decide) (by decide) (fun u27 H locs hr26 hP hD hS => ?_)
        try dsimp only at hr26
        have hP : va_P g.1 classes [(h0, .inr (10, mob q rf n mm mb u27.1 u27.2.1 av ev wi mn tp tc sc nf fd me mp xn mt wh u27.2.2.1 ag an ig)), ((q 32), aI g 160 sk), ((q 47), aI g 128 u27.2.2.2)] H := hP
        have hD : va_D A [(h0, .inr (10, mob q rf n mm mb u27.1 u27.2.1 av ev wi mn tp tc sc nf fd me mp xn mt wh u27.2.2.1 ag an ig)), ((q 32), aI g 160 sk), ((q 47), aI g 128 u27.2.2.2)] := hD
        have hP : va_P g.1 classes [(h0, .inr (10, mob q rf n mm mb u27.1 u27.2.1 av ev wi mn tp tc sc nf fd me mp xn mt wh u27.2.2.1 ag an ig)), ((q 32), aI g 160 sk), ((q 47), aI g 128 u27.2.2.2)] H := hP.sub [0, 1, 2] rfl
        have hD : va_D A [(h0, .inr (10, mob q rf n mm mb u27.1 u27.2.1 av ev wi mn tp tc sc nf fd me mp xn mt wh u27.2.2.1 ag an ig)), ((q 32), aI g 160 sk), ((q 47), aI g 128 u27.2.2.2)] := hD.sub [0, 1, 2] (by decide) rfl
        obtain ⟨hp27_0, hp27_1, hp27_2⟩ := hr26
        refine lv_goto (tgt := 134) hx hb d_Mod_arrange_64 (by decide) ?_
        exact tw_vret E hS (u27.1, u27.2.1, u27.2.2.1, u27.2.2.2) (⟨(fun h => (fun h => (fun h => (fun h => (fun h => h) (hp21_0 h)) (hp23_0 h)) (hp25_0 h)) (hp27_0 h)), (by first | omega | (dsimp only <;> omega)), hp27_2⟩) hP hD d_Mod_arrange_134
    · refine lv_aload_n hx hb d_Mod_arrange_20 rfl (lv_at hl 0 rfl) ?_
      refine tw_wi (wr := [((q 32), aI g 160 sk)]) (tw_runV (ws := [(h0, .inr (10, mob q rf n mm mb fa fp av ev wi mn tp tc sc nf fd me mp xn mt wh tq ag an ig)), ((q 32), aI g 160 sk), ((q 47), aI g 128 nw)]) (wc := [(h0, .inr (10, mob q rf n mm mb fa fp av ev wi mn tp tc sc nf fd me mp xn mt wh tq ag an ig)), ((q 47), aI g 128 nw)]) (As := []) (rest := []) E hB hK hZ (g_Mod_takeSingle l g H.size h0 q rf n mm mb av ev wi mn tp tc sc nf fd me mp xn mt wh ag an ig nw fa fp tq hNW (by omega)) mc_Mod_takeSingle mi_Mod_takeSingle me_Mod_takeSingle wd_1700 hP hD hS hA [0, 2] rfl (by decide) 0 rfl rfl rfl rfl rfl (by decide) rfl hl.1 rfl (Nat.le_of_ble_eq_true rfl) (by decide) d_Mod_arrange_21) hP hD hS hA [0, 2] [1] rfl rfl (by decide) (by decide) (fun r28 u29 H locs hr28 hP hD hS => ?_)
      try dsimp only at hr28
      have hP : va_P g.1 classes [((q 32), aI g 160 sk), (h0, .inr (10, mob q rf n mm mb u29.1 u29.2.1 av ev wi mn tp tc sc nf fd me mp xn mt wh u29.2.2 ag an ig)), ((q 47), aI g 128 nw)] H := hP
      have hD : va_D A [((q 32), aI g 160 sk), (h0, .inr (10, mob q rf n mm mb u29.1 u29.2.1 av ev wi mn tp tc sc nf fd me mp xn mt wh u29.2.2 ag an ig)), ((q 47), aI g 128 nw)] := hD
      have hP : va_P g.1 classes [(h0, .inr (10, mob q rf n mm mb u29.1 u29.2.1 av ev wi mn tp tc sc nf fd me mp xn mt wh u29.2.2 ag an ig)), ((q 32), aI g 160 sk), ((q 47), aI g 128 nw)] H := hP.sub [1, 0, 2] rfl
      have hD : va_D A [(h0, .inr (10, mob q rf n mm mb u29.1 u29.2.1 av ev wi mn tp tc sc nf fd me mp xn mt wh u29.2.2 ag an ig)), ((q 32), aI g 160 sk), ((q 47), aI g 128 nw)] := hD.sub [1, 0, 2] (by decide) rfl
      obtain ⟨hp29_0, hp29_1, hp29_2, hp29_3⟩ := hr28
      refine lv_istore_n hx hb d_Mod_arrange_24 rfl hl (by decide) rfl (fun ls hl => ?_)
      have hl : lv_has ls 4 [(2, .int r28), (0, .ref h0), (1, .int (nI cn))] := hl
      refine lv_aload_n hx hb d_Mod_arrange_25 rfl (lv_at hl 1 rfl) ?_
      refine lv_iload_n hx hb d_Mod_arrange_26 rfl (lv_at hl 0 rfl) ?_
      refine tw_wv (wr := []) (tw_runV (ws := [(h0, .inr (10, mob q rf n mm mb u29.1 u29.2.1 av ev wi mn tp tc sc nf fd me mp xn mt wh u29.2.2 ag an ig)), ((q 32), aI g 160 sk), ((q 47), aI g 128 nw)]) (wc := [(h0, .inr (10, mob q rf n mm mb u29.1 u29.2.1 av ev wi mn tp tc sc nf fd me mp xn mt wh u29.2.2 ag an ig)), ((q 32), aI g 160 sk), ((q 47), aI g 128 nw)]) (As := [.int r28]) (rest := []) E hB hK hZ (g_Mod_give l g H.size h0 q rf n mm mb av ev wi mn tp tc sc nf fd me mp xn mt wh ag an ig sk u29.1 u29.2.1 u29.2.2 nw r28 s1 hNW (by omega) (by omega) hsk (by omega) (fun h => hp29_3 ((fun h => h) h))) mc_Mod_give mi_Mod_give me_Mod_give wd_1648 hP hD hS hA [0, 1, 2] rfl (by decide) 0 rfl rfl rfl rfl rfl (by decide) rfl hl.1 rfl (Nat.le_of_ble_eq_true rfl) (by decide) d_Mod_arrange_27) hP hD hS hA [0, 1, 2] [] rfl rfl (by decide) (by decide) (fun u31 H locs hr30 hP hD hS => ?_)
      try dsimp only at hr30
      have hP : va_P g.1 classes [(h0, .inr (10, mob q rf n mm mb u31.1 u31.2.1 av ev wi mn tp tc sc nf fd me mp xn mt wh u31.2.2.1 ag an ig)), ((q 32), aI g 160 sk), ((q 47), aI g 128 u31.2.2.2)] H := hP
      have hD : va_D A [(h0, .inr (10, mob q rf n mm mb u31.1 u31.2.1 av ev wi mn tp tc sc nf fd me mp xn mt wh u31.2.2.1 ag an ig)), ((q 32), aI g 160 sk), ((q 47), aI g 128 u31.2.2.2)] := hD
      have hP : va_P g.1 classes [(h0, .inr (10, mob q rf n mm mb u31.1 u31.2.1 av ev wi mn tp tc sc nf fd me mp xn mt wh u31.2.2.1 ag an ig)), ((q 32), aI g 160 sk), ((q 47), aI g 128 u31.2.2.2)] H := hP.sub [0, 1, 2] rfl
      have hD : va_D A [(h0, .inr (10, mob q rf n mm mb u31.1 u31.2.1 av ev wi mn tp tc sc nf fd me mp xn mt wh u31.2.2.1 ag an ig)), ((q 32), aI g 160 sk), ((q 47), aI g 128 u31.2.2.2)] := hD.sub [0, 1, 2] (by decide) rfl
      obtain ⟨hp31_0, hp31_1, hp31_2⟩ := hr30
      refine lv_aload_n hx hb d_Mod_arrange_30 rfl (lv_at hl 1 rfl) ?_
      refine lv_iload_n hx hb d_Mod_arrange_31 rfl (lv_at hl 0 rfl) ?_
      refine tw_wv (wr := []) (tw_runV (ws := [(h0, .inr (10, mob q rf n mm mb u31.1 u31.2.1 av ev wi mn tp tc sc nf fd me mp xn mt wh u31.2.2.1 ag an ig)), ((q 32), aI g 160 sk), ((q 47), aI g 128 u31.2.2.2)]) (wc := [(h0, .inr (10, mob q rf n mm mb u31.1 u31.2.1 av ev wi mn tp tc sc nf fd me mp xn mt wh u31.2.2.1 ag an ig)), ((q 32), aI g 160 sk), ((q 47), aI g 128 u31.2.2.2)]) (As := [.int r28]) (rest := []) E hB hK hZ (g_Mod_give l g H.size h0 q rf n mm mb av ev wi mn tp tc sc nf fd me mp xn mt wh ag an ig sk u31.1 u31.2.1 u31.2.2.1 u31.2.2.2 r28 s1 hp31_2 (by omega) (by omega) hsk (by omega) (fun h => hp29_3 ((fun h => (fun h => h) (hp31_0 h)) h))) mc_Mod_give mi_Mod_give me_Mod_give wd_1648 hP hD hS hA [0, 1, 2] rfl (by decide) 0 rfl rfl rfl rfl rfl (by decide) rfl hl.1 rfl (Nat.le_of_ble_eq_true rfl) (by decide) d_Mod_arrange_32) hP hD hS hA [0, 1, 2] [] rfl rfl (by decide) (by decide) (fun u33 H locs hr32 hP hD hS => ?_)
      try dsimp only at hr32
      have hP : va_P g.1 classes [(h0, .inr (10, mob q rf n mm mb u33.1 u33.2.1 av ev wi mn tp tc sc nf fd me mp xn mt wh u33.2.2.1 ag an ig)), ((q 32), aI g 160 sk), ((q 47), aI g 128 u33.2.2.2)] H := hP
      have hD : va_D A [(h0, .inr (10, mob q rf n mm mb u33.1 u33.2.1 av ev wi mn tp tc sc nf fd me mp xn mt wh u33.2.2.1 ag an ig)), ((q 32), aI g 160 sk), ((q 47), aI g 128 u33.2.2.2)] := hD
      have hP : va_P g.1 classes [(h0, .inr (10, mob q rf n mm mb u33.1 u33.2.1 av ev wi mn tp tc sc nf fd me mp xn mt wh u33.2.2.1 ag an ig)), ((q 32), aI g 160 sk), ((q 47), aI g 128 u33.2.2.2)] H := hP.sub [0, 1, 2] rfl
      have hD : va_D A [(h0, .inr (10, mob q rf n mm mb u33.1 u33.2.1 av ev wi mn tp tc sc nf fd me mp xn mt wh u33.2.2.1 ag an ig)), ((q 32), aI g 160 sk), ((q 47), aI g 128 u33.2.2.2)] := hD.sub [0, 1, 2] (by decide) rfl
      obtain ⟨hp33_0, hp33_1, hp33_2⟩ := hr32
      refine lv_goto (tgt := 134) hx hb d_Mod_arrange_35 (by decide) ?_
      exact tw_vret E hS (u33.1, u33.2.1, u33.2.2.1, u33.2.2.2) (⟨(fun h => (fun h => (fun h => (fun h => h) (hp29_0 h)) (hp31_0 h)) (hp33_0 h)), (by first | omega | (dsimp only <;> omega)), hp33_2⟩) hP hD d_Mod_arrange_134
  · refine lv_aload_n hx hb d_Mod_arrange_6 rfl (lv_at hl 0 rfl) ?_
    refine tw_wi (wr := [((q 32), aI g 160 sk)]) (tw_runV (ws := [(h0, .inr (10, mob q rf n mm mb fa fp av ev wi mn tp tc sc nf fd me mp xn mt wh tq ag an ig)), ((q 32), aI g 160 sk), ((q 47), aI g 128 nw)]) (wc := [(h0, .inr (10, mob q rf n mm mb fa fp av ev wi mn tp tc sc nf fd me mp xn mt wh tq ag an ig)), ((q 47), aI g 128 nw)]) (As := []) (rest := []) E hB hK hZ (g_Mod_takeSingle l g H.size h0 q rf n mm mb av ev wi mn tp tc sc nf fd me mp xn mt wh ag an ig nw fa fp tq hNW (by omega)) mc_Mod_takeSingle mi_Mod_takeSingle me_Mod_takeSingle wd_1700 hP hD hS hA [0, 2] rfl (by decide) 0 rfl rfl rfl rfl rfl (by decide) rfl hl.1 rfl (Nat.le_of_ble_eq_true rfl) (by decide) d_Mod_arrange_7) hP hD hS hA [0, 2] [1] rfl rfl (by decide) (by decide) (fun r34 u35 H locs hr34 hP hD hS => ?_)
    try dsimp only at hr34
    have hP : va_P g.1 classes [((q 32), aI g 160 sk), (h0, .inr (10, mob q rf n mm mb u35.1 u35.2.1 av ev wi mn tp tc sc nf fd me mp xn mt wh u35.2.2 ag an ig)), ((q 47), aI g 128 nw)] H := hP
    have hD : va_D A [((q 32), aI g 160 sk), (h0, .inr (10, mob q rf n mm mb u35.1 u35.2.1 av ev wi mn tp tc sc nf fd me mp xn mt wh u35.2.2 ag an ig)), ((q 47), aI g 128 nw)] := hD
    have hP : va_P g.1 classes [(h0, .inr (10, mob q rf n mm mb u35.1 u35.2.1 av ev wi mn tp tc sc nf fd me mp xn mt wh u35.2.2 ag an ig)), ((q 32), aI g 160 sk), ((q 47), aI g 128 nw)] H := hP.sub [1, 0, 2] rfl
    have hD : va_D A [(h0, .inr (10, mob q rf n mm mb u35.1 u35.2.1 av ev wi mn tp tc sc nf fd me mp xn mt wh u35.2.2 ag an ig)), ((q 32), aI g 160 sk), ((q 47), aI g 128 nw)] := hD.sub [1, 0, 2] (by decide) rfl
    obtain ⟨hp35_0, hp35_1, hp35_2, hp35_3⟩ := hr34
    refine lv_pop hx hb d_Mod_arrange_10 rfl ?_
    refine lv_goto (tgt := 134) hx hb d_Mod_arrange_11 (by decide) ?_
    exact tw_vret E hS (u35.1, u35.2.1, u35.2.2, nw) (⟨(fun h => (fun h => h) (hp35_0 h)), (by first | omega | (dsimp only <;> omega)), hNW⟩) hP hD d_Mod_arrange_134
set_option maxHeartbeats 4000000 in
set_option maxRecDepth 100000 in
theorem g_Mod_reckon (l : Launch) (g : tw_G) (sz : Nat) (h0 : Nat) (q : Nat → Nat) (rf : Int32) (n : Nat) (mm : Int32) (mb : Int32) (av : Nat) (ev : Nat) (wi : Int32) (mn : Nat) (tp : Int32) (tc : Int32) (sc : Int32) (nf : Nat) (fd : Nat) (me : Nat) (mp : Int32) (xn : Nat) (mt : Nat) (wh : Nat) (ag : Nat) (an : Int32) (ig : Int32) (sk : Nat → Int32) (fa : Int32) (fp : Int32) (tq : Nat) (nw : Nat → Int32) (cn : Nat) (s1 : Nat) (hNW : NOW nw) (htq : tq ≤ 64) (hmt : mt < 160) (hsk : sk mt = nI s1) (hs64 : s1 ≤ 64) : Met l y_Mod_reckon [.code y_Mod_reckon b_Mod_reckon 3 none] ({ frames := 2, cells := 0, slots := 0, locals := 44 }) (tw_P g [.ref h0, .int (nI cn)] [(h0, .inr (10, mob q rf n mm mb fa fp av ev wi mn tp tc sc nf fd me mp xn mt wh tq ag an ig)), ((q 32), aI g 160 sk), ((q 47), aI g 128 nw)] sz) (tw_Qv g (fun (u : Int32 × Int32 × Nat × (Nat → Int32)) => (u.1 = 0 → fa = 0) ∧ (u.2.2.1 ≤ 64) ∧ (NOW u.2.2.2)) (fun u : Int32 × Int32 × Nat × (Nat → Int32) => [(h0, .inr (10, mob q rf n mm mb u.1 u.2.1 av ev wi mn tp tc sc nf fd me mp xn mt wh u.2.2.1 ag an ig)), ((q 32), aI g 160 sk), ((q 47), aI g 128 u.2.2.2)]) (va_A [(h0, .inr (10, mob q rf n mm mb fa fp av ev wi mn tp tc sc nf fd me mp xn mt wh tq ag an ig)), ((q 32), aI g 160 sk), ((q 47), aI g 128 nw)] sz)) 0 0 (va_A [(h0, .inr (10, mob q rf n mm mb fa fp av ev wi mn tp tc sc nf fd me mp xn mt wh tq ag an ig)), ((q 32), aI g 160 sk), ((q 47), aI g 128 nw)] sz) := by
  refine tw_metW (l := l) (g := g) (y := y_Mod_reckon) (cc := b_Mod_reckon) (maxL := 3) (ret := none) (rm := { frames := 2, cells := 0, slots := 0, locals := 44 }) (mc := 0) (ms := 0) (av := [.ref h0, .int (nI cn)]) (ws := [(h0, .inr (10, mob q rf n mm mb fa fp av ev wi mn tp tc sc nf fd me mp xn mt wh tq ag an ig)), ((q 32), aI g 160 sk), ((q 47), aI g 128 nw)]) (sz := sz) (Qc := fun A => (tw_Qv g (fun (u : Int32 × Int32 × Nat × (Nat → Int32)) => (u.1 = 0 → fa = 0) ∧ (u.2.2.1 ≤ 64) ∧ (NOW u.2.2.2)) (fun u : Int32 × Int32 × Nat × (Nat → Int32) => [(h0, .inr (10, mob q rf n mm mb u.1 u.2.1 av ev wi mn tp tc sc nf fd me mp xn mt wh u.2.2.1 ag an ig)), ((q 32), aI g 160 sk), ((q 47), aI g 128 u.2.2.2)]) A)) (by decide) (Nat.le_of_ble_eq_true rfl) ?_
  intro p e s m below meth c ls H A E hB hK hZ hP hD hS hA hl
  obtain ⟨hx, hb, hml, hr, hown, hts, hlocks, hin⟩ := id E
  have hl : lv_has ls 3 [(0, .ref h0), (1, .int (nI cn))] := hl
  refine lv_iload_n hx hb d_Mod_reckon_0 rfl (lv_at hl 1 rfl) ?_
  refine tw_si (tw_runS (ws := [(h0, .inr (10, mob q rf n mm mb fa fp av ev wi mn tp tc sc nf fd me mp xn mt wh tq ag an ig)), ((q 32), aI g 160 sk), ((q 47), aI g 128 nw)]) (wc := []) (As := [.int (nI cn)]) (rest := []) E hB hK hZ (g_Mod_isIntegers l g H.size (nI cn)) mc_Mod_isIntegers ms_Mod_isIntegers wd_1606 hP hD hS hA [] rfl (by decide) rfl rfl (by decide) rfl hl.1 rfl (Nat.le_of_ble_eq_true rfl) (by decide) d_Mod_reckon_1) (fun r1 hr1 => ?_)
  have hB1 := hr1
  refine lv_if_eq (tgt := 25) hx hb d_Mod_reckon_4 (by decide) (fun h4 => ?_) (fun h4 => ?_)
  · refine lv_iload_n hx hb d_Mod_reckon_25 rfl (lv_at hl 1 rfl) ?_
    refine tw_si (tw_runS (ws := [(h0, .inr (10, mob q rf n mm mb fa fp av ev wi mn tp tc sc nf fd me mp xn mt wh tq ag an ig)), ((q 32), aI g 160 sk), ((q 47), aI g 128 nw)]) (wc := []) (As := [.int (nI cn)]) (rest := []) E hB hK hZ (g_Mod_isLongs l g H.size (nI cn)) mc_Mod_isLongs ms_Mod_isLongs wd_1609 hP hD hS hA [] rfl (by decide) rfl rfl (by decide) rfl hl.1 rfl (Nat.le_of_ble_eq_true rfl) (by decide) d_Mod_reckon_26) (fun r2 hr2 => ?_)
    have hB2 := hr2
    refine lv_if_eq (tgt := 50) hx hb d_Mod_reckon_29 (by decide) (fun h29 => ?_) (fun h29 => ?_)
    · refine lv_iload_n hx hb d_Mod_reckon_50 rfl (lv_at hl 1 rfl) ?_
      refine lv_bipush (v := 121) hx hb d_Mod_reckon_51 (by decide) ?_
      refine lv_icmp_eq (tgt := 68) hx hb d_Mod_reckon_53 (by decide) (fun h53 => ?_) (fun h53 => ?_)
      · refine lv_aload_n hx hb d_Mod_reckon_68 rfl (lv_at hl 0 rfl) ?_
        refine lv_iconst (v := 1) hx hb d_Mod_reckon_69 (by decide) ?_
        refine tw_wv (wr := [((q 32), aI g 160 sk)]) (tw_runV (ws := [(h0, .inr (10, mob q rf n mm mb fa fp av ev wi mn tp tc sc nf fd me mp xn mt wh tq ag an ig)), ((q 32), aI g 160 sk), ((q 47), aI g 128 nw)]) (wc := [(h0, .inr (10, mob q rf n mm mb fa fp av ev wi mn tp tc sc nf fd me mp xn mt wh tq ag an ig)), ((q 47), aI g 128 nw)]) (As := [.int 1]) (rest := []) E hB hK hZ (g_Mod_take l g H.size h0 q rf n mm mb av ev wi mn tp tc sc nf fd me mp xn mt wh ag an ig nw fa fp tq 1 hNW (by omega)) mc_Mod_take mi_Mod_take me_Mod_take wd_1668 hP hD hS hA [0, 2] rfl (by decide) 0 rfl rfl rfl rfl rfl (by decide) rfl hl.1 rfl (Nat.le_of_ble_eq_true rfl) (by decide) d_Mod_reckon_70) hP hD hS hA [0, 2] [1] rfl rfl (by decide) (by decide) (fun u4 H locs hr3 hP hD hS => ?_)
        try dsimp only at hr3
        have hP : va_P g.1 classes [((q 32), aI g 160 sk), (h0, .inr (10, mob q rf n mm mb u4.1 u4.2.1 av ev wi mn tp tc sc nf fd me mp xn mt wh u4.2.2 ag an ig)), ((q 47), aI g 128 nw)] H := hP
        have hD : va_D A [((q 32), aI g 160 sk), (h0, .inr (10, mob q rf n mm mb u4.1 u4.2.1 av ev wi mn tp tc sc nf fd me mp xn mt wh u4.2.2 ag an ig)), ((q 47), aI g 128 nw)] := hD
        have hP : va_P g.1 classes [(h0, .inr (10, mob q rf n mm mb u4.1 u4.2.1 av ev wi mn tp tc sc nf fd me mp xn mt wh u4.2.2 ag an ig)), ((q 32), aI g 160 sk), ((q 47), aI g 128 nw)] H := hP.sub [1, 0, 2] rfl
        have hD : va_D A [(h0, .inr (10, mob q rf n mm mb u4.1 u4.2.1 av ev wi mn tp tc sc nf fd me mp xn mt wh u4.2.2 ag an ig)), ((q 32), aI g 160 sk), ((q 47), aI g 128 nw)] := hD.sub [1, 0, 2] (by decide) rfl
        obtain ⟨hp4_0, hp4_1, hp4_2⟩ := hr3
        refine lv_aload_n hx hb d_Mod_reckon_73 rfl (lv_at hl 0 rfl) ?_
        refine lv_iconst (v := 2) hx hb d_Mod_reckon_74 (by decide) ?_
        refine tw_wv (wr := [((q 32), aI g 160 sk)]) (tw_runV (ws := [(h0, .inr (10, mob q rf n mm mb u4.1 u4.2.1 av ev wi mn tp tc sc nf fd me mp xn mt wh u4.2.2 ag an ig)), ((q 32), aI g 160 sk), ((q 47), aI g 128 nw)]) (wc := [(h0, .inr (10, mob q rf n mm mb u4.1 u4.2.1 av ev wi mn tp tc sc nf fd me mp xn mt wh u4.2.2 ag an ig)), ((q 47), aI g 128 nw)]) (As := [.int 2]) (rest := []) E hB hK hZ (g_Mod_take l g H.size h0 q rf n mm mb av ev wi mn tp tc sc nf fd me mp xn mt wh ag an ig nw u4.1 u4.2.1 u4.2.2 2 hNW (by omega)) mc_Mod_take mi_Mod_take me_Mod_take wd_1668 hP hD hS hA [0, 2] rfl (by decide) 0 rfl rfl rfl rfl rfl (by decide) rfl hl.1 rfl (Nat.le_of_ble_eq_true rfl) (by decide) d_Mod_reckon_75) hP hD hS hA [0, 2] [1] rfl rfl (by decide) (by decide) (fun u6 H locs hr5 hP hD hS => ?_)
        try dsimp only at hr5
        have hP : va_P g.1 classes [((q 32), aI g 160 sk), (h0, .inr (10, mob q rf n mm mb u6.1 u6.2.1 av ev wi mn tp tc sc nf fd me mp xn mt wh u6.2.2 ag an ig)), ((q 47), aI g 128 nw)] H := hP
        have hD : va_D A [((q 32), aI g 160 sk), (h0, .inr (10, mob q rf n mm mb u6.1 u6.2.1 av ev wi mn tp tc sc nf fd me mp xn mt wh u6.2.2 ag an ig)), ((q 47), aI g 128 nw)] := hD
        have hP : va_P g.1 classes [(h0, .inr (10, mob q rf n mm mb u6.1 u6.2.1 av ev wi mn tp tc sc nf fd me mp xn mt wh u6.2.2 ag an ig)), ((q 32), aI g 160 sk), ((q 47), aI g 128 nw)] H := hP.sub [1, 0, 2] rfl
        have hD : va_D A [(h0, .inr (10, mob q rf n mm mb u6.1 u6.2.1 av ev wi mn tp tc sc nf fd me mp xn mt wh u6.2.2 ag an ig)), ((q 32), aI g 160 sk), ((q 47), aI g 128 nw)] := hD.sub [1, 0, 2] (by decide) rfl
        obtain ⟨hp6_0, hp6_1, hp6_2⟩ := hr5
        refine lv_aload_n hx hb d_Mod_reckon_78 rfl (lv_at hl 0 rfl) ?_
        refine lv_iconst (v := 2) hx hb d_Mod_reckon_79 (by decide) ?_
        refine tw_wv (wr := []) (tw_runV (ws := [(h0, .inr (10, mob q rf n mm mb u6.1 u6.2.1 av ev wi mn tp tc sc nf fd me mp xn mt wh u6.2.2 ag an ig)), ((q 32), aI g 160 sk), ((q 47), aI g 128 nw)]) (wc := [(h0, .inr (10, mob q rf n mm mb u6.1 u6.2.1 av ev wi mn tp tc sc nf fd me mp xn mt wh u6.2.2 ag an ig)), ((q 32), aI g 160 sk), ((q 47), aI g 128 nw)]) (As := [.int 2]) (rest := []) E hB hK hZ (g_Mod_give l g H.size h0 q rf n mm mb av ev wi mn tp tc sc nf fd me mp xn mt wh ag an ig sk u6.1 u6.2.1 u6.2.2 nw 2 s1 hNW (by omega) (by omega) hsk (by omega) (fun _ => by decide)) mc_Mod_give mi_Mod_give me_Mod_give wd_1648 hP hD hS hA [0, 1, 2] rfl (by decide) 0 rfl rfl rfl rfl rfl (by decide) rfl hl.1 rfl (Nat.le_of_ble_eq_true rfl) (by decide) d_Mod_reckon_80) hP hD hS hA [0, 1, 2] [] rfl rfl (by decide) (by decide) (fun u8 H locs hr7 hP hD hS => ?_)
        try dsimp only at hr7
        have hP : va_P g.1 classes [(h0, .inr (10, mob q rf n mm mb u8.1 u8.2.1 av ev wi mn tp tc sc nf fd me mp xn mt wh u8.2.2.1 ag an ig)), ((q 32), aI g 160 sk), ((q 47), aI g 128 u8.2.2.2)] H := hP
        have hD : va_D A [(h0, .inr (10, mob q rf n mm mb u8.1 u8.2.1 av ev wi mn tp tc sc nf fd me mp xn mt wh u8.2.2.1 ag an ig)), ((q 32), aI g 160 sk), ((q 47), aI g 128 u8.2.2.2)] := hD
        have hP : va_P g.1 classes [(h0, .inr (10, mob q rf n mm mb u8.1 u8.2.1 av ev wi mn tp tc sc nf fd me mp xn mt wh u8.2.2.1 ag an ig)), ((q 32), aI g 160 sk), ((q 47), aI g 128 u8.2.2.2)] H := hP.sub [0, 1, 2] rfl
        have hD : va_D A [(h0, .inr (10, mob q rf n mm mb u8.1 u8.2.1 av ev wi mn tp tc sc nf fd me mp xn mt wh u8.2.2.1 ag an ig)), ((q 32), aI g 160 sk), ((q 47), aI g 128 u8.2.2.2)] := hD.sub [0, 1, 2] (by decide) rfl
        obtain ⟨hp8_0, hp8_1, hp8_2⟩ := hr7
        refine lv_goto (tgt := 157) hx hb d_Mod_reckon_83 (by decide) ?_
        exact tw_vret E hS (u8.1, u8.2.1, u8.2.2.1, u8.2.2.2) (⟨(fun h => (fun h => (fun h => (fun h => h) (hp4_0 h)) (hp6_0 h)) (hp8_0 h)), (by first | omega | (dsimp only <;> omega)), hp8_2⟩) hP hD d_Mod_reckon_157
      · refine lv_iload_n hx hb d_Mod_reckon_56 rfl (lv_at hl 1 rfl) ?_
        refine lv_bipush (v := 123) hx hb d_Mod_reckon_57 (by decide) ?_
        refine lv_icmp_eq (tgt := 68) hx hb d_Mod_reckon_59 (by decide) (fun h59 => ?_) (fun h59 => ?_)
        · refine lv_aload_n hx hb d_Mod_reckon_68 rfl (lv_at hl 0 rfl) ?_
          refine lv_iconst (v := 1) hx hb d_Mod_reckon_69 (by decide) ?_
          refine tw_wv (wr := [((q 32), aI g 160 sk)]) (tw_runV (ws := [(h0, .inr (10, mob q rf n mm mb fa fp av ev wi mn tp tc sc nf fd me mp xn mt wh tq ag an ig)), ((q 32), aI g 160 sk), ((q 47), aI g 128 nw)]) (wc := [(h0, .inr (10, mob q rf n mm mb fa fp av ev wi mn tp tc sc nf fd me mp xn mt wh tq ag an ig)), ((q 47), aI g 128 nw)]) (As := [.int 1]) (rest := []) E hB hK hZ (g_Mod_take l g H.size h0 q rf n mm mb av ev wi mn tp tc sc nf fd me mp xn mt wh ag an ig nw fa fp tq 1 hNW (by omega)) mc_Mod_take mi_Mod_take me_Mod_take wd_1668 hP hD hS hA [0, 2] rfl (by decide) 0 rfl rfl rfl rfl rfl (by decide) rfl hl.1 rfl (Nat.le_of_ble_eq_true rfl) (by decide) d_Mod_reckon_70) hP hD hS hA [0, 2] [1] rfl rfl (by decide) (by decide) (fun u10 H locs hr9 hP hD hS => ?_)
          try dsimp only at hr9
          have hP : va_P g.1 classes [((q 32), aI g 160 sk), (h0, .inr (10, mob q rf n mm mb u10.1 u10.2.1 av ev wi mn tp tc sc nf fd me mp xn mt wh u10.2.2 ag an ig)), ((q 47), aI g 128 nw)] H := hP
          have hD : va_D A [((q 32), aI g 160 sk), (h0, .inr (10, mob q rf n mm mb u10.1 u10.2.1 av ev wi mn tp tc sc nf fd me mp xn mt wh u10.2.2 ag an ig)), ((q 47), aI g 128 nw)] := hD
          have hP : va_P g.1 classes [(h0, .inr (10, mob q rf n mm mb u10.1 u10.2.1 av ev wi mn tp tc sc nf fd me mp xn mt wh u10.2.2 ag an ig)), ((q 32), aI g 160 sk), ((q 47), aI g 128 nw)] H := hP.sub [1, 0, 2] rfl
          have hD : va_D A [(h0, .inr (10, mob q rf n mm mb u10.1 u10.2.1 av ev wi mn tp tc sc nf fd me mp xn mt wh u10.2.2 ag an ig)), ((q 32), aI g 160 sk), ((q 47), aI g 128 nw)] := hD.sub [1, 0, 2] (by decide) rfl
          obtain ⟨hp10_0, hp10_1, hp10_2⟩ := hr9
          refine lv_aload_n hx hb d_Mod_reckon_73 rfl (lv_at hl 0 rfl) ?_
          refine lv_iconst (v := 2) hx hb d_Mod_reckon_74 (by decide) ?_
          refine tw_wv (wr := [((q 32), aI g 160 sk)]) (tw_runV (ws := [(h0, .inr (10, mob q rf n mm mb u10.1 u10.2.1 av ev wi mn tp tc sc nf fd me mp xn mt wh u10.2.2 ag an ig)), ((q 32), aI g 160 sk), ((q 47), aI g 128 nw)]) (wc := [(h0, .inr (10, mob q rf n mm mb u10.1 u10.2.1 av ev wi mn tp tc sc nf fd me mp xn mt wh u10.2.2 ag an ig)), ((q 47), aI g 128 nw)]) (As := [.int 2]) (rest := []) E hB hK hZ (g_Mod_take l g H.size h0 q rf n mm mb av ev wi mn tp tc sc nf fd me mp xn mt wh ag an ig nw u10.1 u10.2.1 u10.2.2 2 hNW (by omega)) mc_Mod_take mi_Mod_take me_Mod_take wd_1668 hP hD hS hA [0, 2] rfl (by decide) 0 rfl rfl rfl rfl rfl (by decide) rfl hl.1 rfl (Nat.le_of_ble_eq_true rfl) (by decide) d_Mod_reckon_75) hP hD hS hA [0, 2] [1] rfl rfl (by decide) (by decide) (fun u12 H locs hr11 hP hD hS => ?_)
          try dsimp only at hr11
          have hP : va_P g.1 classes [((q 32), aI g 160 sk), (h0, .inr (10, mob q rf n mm mb u12.1 u12.2.1 av ev wi mn tp tc sc nf fd me mp xn mt wh u12.2.2 ag an ig)), ((q 47), aI g 128 nw)] H := hP
          have hD : va_D A [((q 32), aI g 160 sk), (h0, .inr (10, mob q rf n mm mb u12.1 u12.2.1 av ev wi mn tp tc sc nf fd me mp xn mt wh u12.2.2 ag an ig)), ((q 47), aI g 128 nw)] := hD
          have hP : va_P g.1 classes [(h0, .inr (10, mob q rf n mm mb u12.1 u12.2.1 av ev wi mn tp tc sc nf fd me mp xn mt wh u12.2.2 ag an ig)), ((q 32), aI g 160 sk), ((q 47), aI g 128 nw)] H := hP.sub [1, 0, 2] rfl
          have hD : va_D A [(h0, .inr (10, mob q rf n mm mb u12.1 u12.2.1 av ev wi mn tp tc sc nf fd me mp xn mt wh u12.2.2 ag an ig)), ((q 32), aI g 160 sk), ((q 47), aI g 128 nw)] := hD.sub [1, 0, 2] (by decide) rfl
          obtain ⟨hp12_0, hp12_1, hp12_2⟩ := hr11
          refine lv_aload_n hx hb d_Mod_reckon_78 rfl (lv_at hl 0 rfl) ?_
          refine lv_iconst (v := 2) hx hb d_Mod_reckon_79 (by decide) ?_
          refine tw_wv (wr := []) (tw_runV (ws := [(h0, .inr (10, mob q rf n mm mb u12.1 u12.2.1 av ev wi mn tp tc sc nf fd me mp xn mt wh u12.2.2 ag an ig)), ((q 32), aI g 160 sk), ((q 47), aI g 128 nw)]) (wc := [(h0, .inr (10, mob q rf n mm mb u12.1 u12.2.1 av ev wi mn tp tc sc nf fd me mp xn mt wh u12.2.2 ag an ig)), ((q 32), aI g 160 sk), ((q 47), aI g 128 nw)]) (As := [.int 2]) (rest := []) E hB hK hZ (g_Mod_give l g H.size h0 q rf n mm mb av ev wi mn tp tc sc nf fd me mp xn mt wh ag an ig sk u12.1 u12.2.1 u12.2.2 nw 2 s1 hNW (by omega) (by omega) hsk (by omega) (fun _ => by decide)) mc_Mod_give mi_Mod_give me_Mod_give wd_1648 hP hD hS hA [0, 1, 2] rfl (by decide) 0 rfl rfl rfl rfl rfl (by decide) rfl hl.1 rfl (Nat.le_of_ble_eq_true rfl) (by decide) d_Mod_reckon_80) hP hD hS hA [0, 1, 2] [] rfl rfl (by decide) (by decide) (fun u14 H locs hr13 hP hD hS => ?_)
          try dsimp only at hr13
          have hP : va_P g.1 classes [(h0, .inr (10, mob q rf n mm mb u14.1 u14.2.1 av ev wi mn tp tc sc nf fd me mp xn mt wh u14.2.2.1 ag an ig)), ((q 32), aI g 160 sk), ((q 47), aI g 128 u14.2.2.2)] H := hP
          have hD : va_D A [(h0, .inr (10, mob q rf n mm mb u14.1 u14.2.1 av ev wi mn tp tc sc nf fd me mp xn mt wh u14.2.2.1 ag an ig)), ((q 32), aI g 160 sk), ((q 47), aI g 128 u14.2.2.2)] := hD
          have hP : va_P g.1 classes [(h0, .inr (10, mob q rf n mm mb u14.1 u14.2.1 av ev wi mn tp tc sc nf fd me mp xn mt wh u14.2.2.1 ag an ig)), ((q 32), aI g 160 sk), ((q 47), aI g 128 u14.2.2.2)] H := hP.sub [0, 1, 2] rfl
          have hD : va_D A [(h0, .inr (10, mob q rf n mm mb u14.1 u14.2.1 av ev wi mn tp tc sc nf fd me mp xn mt wh u14.2.2.1 ag an ig)), ((q 32), aI g 160 sk), ((q 47), aI g 128 u14.2.2.2)] := hD.sub [0, 1, 2] (by decide) rfl
          obtain ⟨hp14_0, hp14_1, hp14_2⟩ := hr13
          refine lv_goto (tgt := 157) hx hb d_Mod_reckon_83 (by decide) ?_
          exact tw_vret E hS (u14.1, u14.2.1, u14.2.2.1, u14.2.2.2) (⟨(fun h => (fun h => (fun h => (fun h => h) (hp10_0 h)) (hp12_0 h)) (hp14_0 h)), (by first | omega | (dsimp only <;> omega)), hp14_2⟩) hP hD d_Mod_reckon_157
        · refine lv_iload_n hx hb d_Mod_reckon_62 rfl (lv_at hl 1 rfl) ?_
          refine lv_bipush (v := 125) hx hb d_Mod_reckon_63 (by decide) ?_
          refine lv_icmp_ne (tgt := 86) hx hb d_Mod_reckon_65 (by decide) (fun h65 => ?_) (fun h65 => ?_)
          · refine lv_iload_n hx hb d_Mod_reckon_86 rfl (lv_at hl 1 rfl) ?_
            refine lv_sipush (v := 148) hx hb d_Mod_reckon_87 (by decide) ?_
            refine lv_icmp_ne (tgt := 111) hx hb d_Mod_reckon_90 (by decide) (fun h90 => ?_) (fun h90 => ?_)
            · refine lv_iload_n hx hb d_Mod_reckon_111 rfl (lv_at hl 1 rfl) ?_
              refine lv_bipush (v := 117) hx hb d_Mod_reckon_112 (by decide) ?_
              refine lv_icmp_eq (tgt := 124) hx hb d_Mod_reckon_114 (by decide) (fun h114 => ?_) (fun h114 => ?_)
              · refine lv_iconst (v := 2) hx hb d_Mod_reckon_124 (by decide) ?_
                refine lv_goto (tgt := 129) hx hb d_Mod_reckon_125 (by decide) ?_
                refine lv_istore_n hx hb d_Mod_reckon_129 rfl hl (by decide) rfl (fun ls hl => ?_)
                have hl : lv_has ls 3 [(2, .int 2), (0, .ref h0), (1, .int (nI cn))] := hl
                refine lv_aload_n hx hb d_Mod_reckon_130 rfl (lv_at hl 1 rfl) ?_
                refine lv_iload_n hx hb d_Mod_reckon_131 rfl (lv_at hl 0 rfl) ?_
                refine tw_wv (wr := [((q 32), aI g 160 sk)]) (tw_runV (ws := [(h0, .inr (10, mob q rf n mm mb fa fp av ev wi mn tp tc sc nf fd me mp xn mt wh tq ag an ig)), ((q 32), aI g 160 sk), ((q 47), aI g 128 nw)]) (wc := [(h0, .inr (10, mob q rf n mm mb fa fp av ev wi mn tp tc sc nf fd me mp xn mt wh tq ag an ig)), ((q 47), aI g 128 nw)]) (As := [.int 2]) (rest := []) E hB hK hZ (g_Mod_take l g H.size h0 q rf n mm mb av ev wi mn tp tc sc nf fd me mp xn mt wh ag an ig nw fa fp tq 2 hNW (by omega)) mc_Mod_take mi_Mod_take me_Mod_take wd_1668 hP hD hS hA [0, 2] rfl (by decide) 0 rfl rfl rfl rfl rfl (by decide) rfl hl.1 rfl (Nat.le_of_ble_eq_true rfl) (by decide) d_Mod_reckon_132) hP hD hS hA [0, 2] [1] rfl rfl (by decide) (by decide) (fun u16 H locs hr15 hP hD hS => ?_)
                try dsimp only at hr15
                have hP : va_P g.1 classes [((q 32), aI g 160 sk), (h0, .inr (10, mob q rf n mm mb u16.1 u16.2.1 av ev wi mn tp tc sc nf fd me mp xn mt wh u16.2.2 ag an ig)), ((q 47), aI g 128 nw)] H := hP
                have hD : va_D A [((q 32), aI g 160 sk), (h0, .inr (10, mob q rf n mm mb u16.1 u16.2.1 av ev wi mn tp tc sc nf fd me mp xn mt wh u16.2.2 ag an ig)), ((q 47), aI g 128 nw)] := hD
                have hP : va_P g.1 classes [(h0, .inr (10, mob q rf n mm mb u16.1 u16.2.1 av ev wi mn tp tc sc nf fd me mp xn mt wh u16.2.2 ag an ig)), ((q 32), aI g 160 sk), ((q 47), aI g 128 nw)] H := hP.sub [1, 0, 2] rfl
                have hD : va_D A [(h0, .inr (10, mob q rf n mm mb u16.1 u16.2.1 av ev wi mn tp tc sc nf fd me mp xn mt wh u16.2.2 ag an ig)), ((q 32), aI g 160 sk), ((q 47), aI g 128 nw)] := hD.sub [1, 0, 2] (by decide) rfl
                obtain ⟨hp16_0, hp16_1, hp16_2⟩ := hr15
                refine lv_aload_n hx hb d_Mod_reckon_135 rfl (lv_at hl 1 rfl) ?_
                refine lv_iload_n hx hb d_Mod_reckon_136 rfl (lv_at hl 2 rfl) ?_
                refine lv_bipush (v := 117) hx hb d_Mod_reckon_137 (by decide) ?_
                refine lv_icmp_eq (tgt := 149) hx hb d_Mod_reckon_139 (by decide) (fun h139 => ?_) (fun h139 => ?_)
                · refine lv_iconst (v := 2) hx hb d_Mod_reckon_149 (by decide) ?_
                  refine lv_goto (tgt := 154) hx hb d_Mod_reckon_150 (by decide) ?_
                  refine tw_wv (wr := []) (tw_runV (ws := [(h0, .inr (10, mob q rf n mm mb u16.1 u16.2.1 av ev wi mn tp tc sc nf fd me mp xn mt wh u16.2.2 ag an ig)), ((q 32), aI g 160 sk), ((q 47), aI g 128 nw)]) (wc := [(h0, .inr (10, mob q rf n mm mb u16.1 u16.2.1 av ev wi mn tp tc sc nf fd me mp xn mt wh u16.2.2 ag an ig)), ((q 32), aI g 160 sk), ((q 47), aI g 128 nw)]) (As := [.int 2]) (rest := []) E hB hK hZ (g_Mod_give l g H.size h0 q rf n mm mb av ev wi mn tp tc sc nf fd me mp xn mt wh ag an ig sk u16.1 u16.2.1 u16.2.2 nw 2 s1 hNW (by omega) (by omega) hsk (by omega) (fun _ => by decide)) mc_Mod_give mi_Mod_give me_Mod_give wd_1648 hP hD hS hA [0, 1, 2] rfl (by decide) 0 rfl rfl rfl rfl rfl (by decide) rfl hl.1 rfl (Nat.le_of_ble_eq_true rfl) (by decide) d_Mod_reckon_154) hP hD hS hA [0, 1, 2] [] rfl rfl (by decide) (by decide) (fun u18 H locs hr17 hP hD hS => ?_)
                  try dsimp only at hr17
                  have hP : va_P g.1 classes [(h0, .inr (10, mob q rf n mm mb u18.1 u18.2.1 av ev wi mn tp tc sc nf fd me mp xn mt wh u18.2.2.1 ag an ig)), ((q 32), aI g 160 sk), ((q 47), aI g 128 u18.2.2.2)] H := hP
                  have hD : va_D A [(h0, .inr (10, mob q rf n mm mb u18.1 u18.2.1 av ev wi mn tp tc sc nf fd me mp xn mt wh u18.2.2.1 ag an ig)), ((q 32), aI g 160 sk), ((q 47), aI g 128 u18.2.2.2)] := hD
                  have hP : va_P g.1 classes [(h0, .inr (10, mob q rf n mm mb u18.1 u18.2.1 av ev wi mn tp tc sc nf fd me mp xn mt wh u18.2.2.1 ag an ig)), ((q 32), aI g 160 sk), ((q 47), aI g 128 u18.2.2.2)] H := hP.sub [0, 1, 2] rfl
                  have hD : va_D A [(h0, .inr (10, mob q rf n mm mb u18.1 u18.2.1 av ev wi mn tp tc sc nf fd me mp xn mt wh u18.2.2.1 ag an ig)), ((q 32), aI g 160 sk), ((q 47), aI g 128 u18.2.2.2)] := hD.sub [0, 1, 2] (by decide) rfl
                  obtain ⟨hp18_0, hp18_1, hp18_2⟩ := hr17
                  exact tw_vret E hS (u18.1, u18.2.1, u18.2.2.1, u18.2.2.2) (⟨(fun h => (fun h => (fun h => h) (hp16_0 h)) (hp18_0 h)), (by first | omega | (dsimp only <;> omega)), hp18_2⟩) hP hD d_Mod_reckon_157
                · refine lv_iload_n hx hb d_Mod_reckon_142 rfl (lv_at hl 2 rfl) ?_
                  refine lv_sipush (v := 133) hx hb d_Mod_reckon_143 (by decide) ?_
                  refine lv_icmp_ne (tgt := 153) hx hb d_Mod_reckon_146 (by decide) (fun h146 => ?_) (fun h146 => ?_)
                  · refine lv_iconst (v := 1) hx hb d_Mod_reckon_153 (by decide) ?_
                    refine tw_wv (wr := []) (tw_runV (ws := [(h0, .inr (10, mob q rf n mm mb u16.1 u16.2.1 av ev wi mn tp tc sc nf fd me mp xn mt wh u16.2.2 ag an ig)), ((q 32), aI g 160 sk), ((q 47), aI g 128 nw)]) (wc := [(h0, .inr (10, mob q rf n mm mb u16.1 u16.2.1 av ev wi mn tp tc sc nf fd me mp xn mt wh u16.2.2 ag an ig)), ((q 32), aI g 160 sk), ((q 47), aI g 128 nw)]) (As := [.int 1]) (rest := []) E hB hK hZ (g_Mod_give l g H.size h0 q rf n mm mb av ev wi mn tp tc sc nf fd me mp xn mt wh ag an ig sk u16.1 u16.2.1 u16.2.2 nw 1 s1 hNW (by omega) (by omega) hsk (by omega) (fun _ => by decide)) mc_Mod_give mi_Mod_give me_Mod_give wd_1648 hP hD hS hA [0, 1, 2] rfl (by decide) 0 rfl rfl rfl rfl rfl (by decide) rfl hl.1 rfl (Nat.le_of_ble_eq_true rfl) (by decide) d_Mod_reckon_154) hP hD hS hA [0, 1, 2] [] rfl rfl (by decide) (by decide) (fun u20 H locs hr19 hP hD hS => ?_)
                    try dsimp only at hr19
                    have hP : va_P g.1 classes [(h0, .inr (10, mob q rf n mm mb u20.1 u20.2.1 av ev wi mn tp tc sc nf fd me mp xn mt wh u20.2.2.1 ag an ig)), ((q 32), aI g 160 sk), ((q 47), aI g 128 u20.2.2.2)] H := hP
                    have hD : va_D A [(h0, .inr (10, mob q rf n mm mb u20.1 u20.2.1 av ev wi mn tp tc sc nf fd me mp xn mt wh u20.2.2.1 ag an ig)), ((q 32), aI g 160 sk), ((q 47), aI g 128 u20.2.2.2)] := hD
                    have hP : va_P g.1 classes [(h0, .inr (10, mob q rf n mm mb u20.1 u20.2.1 av ev wi mn tp tc sc nf fd me mp xn mt wh u20.2.2.1 ag an ig)), ((q 32), aI g 160 sk), ((q 47), aI g 128 u20.2.2.2)] H := hP.sub [0, 1, 2] rfl
                    have hD : va_D A [(h0, .inr (10, mob q rf n mm mb u20.1 u20.2.1 av ev wi mn tp tc sc nf fd me mp xn mt wh u20.2.2.1 ag an ig)), ((q 32), aI g 160 sk), ((q 47), aI g 128 u20.2.2.2)] := hD.sub [0, 1, 2] (by decide) rfl
                    obtain ⟨hp20_0, hp20_1, hp20_2⟩ := hr19
                    exact tw_vret E hS (u20.1, u20.2.1, u20.2.2.1, u20.2.2.2) (⟨(fun h => (fun h => (fun h => h) (hp16_0 h)) (hp20_0 h)), (by first | omega | (dsimp only <;> omega)), hp20_2⟩) hP hD d_Mod_reckon_157
                  · refine lv_iconst (v := 2) hx hb d_Mod_reckon_149 (by decide) ?_
                    refine lv_goto (tgt := 154) hx hb d_Mod_reckon_150 (by decide) ?_
                    refine tw_wv (wr := []) (tw_runV (ws := [(h0, .inr (10, mob q rf n mm mb u16.1 u16.2.1 av ev wi mn tp tc sc nf fd me mp xn mt wh u16.2.2 ag an ig)), ((q 32), aI g 160 sk), ((q 47), aI g 128 nw)]) (wc := [(h0, .inr (10, mob q rf n mm mb u16.1 u16.2.1 av ev wi mn tp tc sc nf fd me mp xn mt wh u16.2.2 ag an ig)), ((q 32), aI g 160 sk), ((q 47), aI g 128 nw)]) (As := [.int 2]) (rest := []) E hB hK hZ (g_Mod_give l g H.size h0 q rf n mm mb av ev wi mn tp tc sc nf fd me mp xn mt wh ag an ig sk u16.1 u16.2.1 u16.2.2 nw 2 s1 hNW (by omega) (by omega) hsk (by omega) (fun _ => by decide)) mc_Mod_give mi_Mod_give me_Mod_give wd_1648 hP hD hS hA [0, 1, 2] rfl (by decide) 0 rfl rfl rfl rfl rfl (by decide) rfl hl.1 rfl (Nat.le_of_ble_eq_true rfl) (by decide) d_Mod_reckon_154) hP hD hS hA [0, 1, 2] [] rfl rfl (by decide) (by decide) (fun u22 H locs hr21 hP hD hS => ?_)
                    try dsimp only at hr21
                    have hP : va_P g.1 classes [(h0, .inr (10, mob q rf n mm mb u22.1 u22.2.1 av ev wi mn tp tc sc nf fd me mp xn mt wh u22.2.2.1 ag an ig)), ((q 32), aI g 160 sk), ((q 47), aI g 128 u22.2.2.2)] H := hP
                    have hD : va_D A [(h0, .inr (10, mob q rf n mm mb u22.1 u22.2.1 av ev wi mn tp tc sc nf fd me mp xn mt wh u22.2.2.1 ag an ig)), ((q 32), aI g 160 sk), ((q 47), aI g 128 u22.2.2.2)] := hD
                    have hP : va_P g.1 classes [(h0, .inr (10, mob q rf n mm mb u22.1 u22.2.1 av ev wi mn tp tc sc nf fd me mp xn mt wh u22.2.2.1 ag an ig)), ((q 32), aI g 160 sk), ((q 47), aI g 128 u22.2.2.2)] H := hP.sub [0, 1, 2] rfl
                    have hD : va_D A [(h0, .inr (10, mob q rf n mm mb u22.1 u22.2.1 av ev wi mn tp tc sc nf fd me mp xn mt wh u22.2.2.1 ag an ig)), ((q 32), aI g 160 sk), ((q 47), aI g 128 u22.2.2.2)] := hD.sub [0, 1, 2] (by decide) rfl
                    obtain ⟨hp22_0, hp22_1, hp22_2⟩ := hr21
                    exact tw_vret E hS (u22.1, u22.2.1, u22.2.2.1, u22.2.2.2) (⟨(fun h => (fun h => (fun h => h) (hp16_0 h)) (hp22_0 h)), (by first | omega | (dsimp only <;> omega)), hp22_2⟩) hP hD d_Mod_reckon_157
              · refine lv_iload_n hx hb d_Mod_reckon_117 rfl (lv_at hl 1 rfl) ?_
                refine lv_sipush (v := 136) hx hb d_Mod_reckon_118 (by decide) ?_
                refine lv_icmp_ne (tgt := 128) hx hb d_Mod_reckon_121 (by decide) (fun h121 => ?_) (fun h121 => ?_)
                · refine lv_iconst (v := 1) hx hb d_Mod_reckon_128 (by decide) ?_
                  refine lv_istore_n hx hb d_Mod_reckon_129 rfl hl (by decide) rfl (fun ls hl => ?_)
                  have hl : lv_has ls 3 [(2, .int 1), (0, .ref h0), (1, .int (nI cn))] := hl
                  refine lv_aload_n hx hb d_Mod_reckon_130 rfl (lv_at hl 1 rfl) ?_
                  refine lv_iload_n hx hb d_Mod_reckon_131 rfl (lv_at hl 0 rfl) ?_
                  refine tw_wv (wr := [((q 32), aI g 160 sk)]) (tw_runV (ws := [(h0, .inr (10, mob q rf n mm mb fa fp av ev wi mn tp tc sc nf fd me mp xn mt wh tq ag an ig)), ((q 32), aI g 160 sk), ((q 47), aI g 128 nw)]) (wc := [(h0, .inr (10, mob q rf n mm mb fa fp av ev wi mn tp tc sc nf fd me mp xn mt wh tq ag an ig)), ((q 47), aI g 128 nw)]) (As := [.int 1]) (rest := []) E hB hK hZ (g_Mod_take l g H.size h0 q rf n mm mb av ev wi mn tp tc sc nf fd me mp xn mt wh ag an ig nw fa fp tq 1 hNW (by omega)) mc_Mod_take mi_Mod_take me_Mod_take wd_1668 hP hD hS hA [0, 2] rfl (by decide) 0 rfl rfl rfl rfl rfl (by decide) rfl hl.1 rfl (Nat.le_of_ble_eq_true rfl) (by decide) d_Mod_reckon_132) hP hD hS hA [0, 2] [1] rfl rfl (by decide) (by decide) (fun u24 H locs hr23 hP hD hS => ?_)
                  try dsimp only at hr23
                  have hP : va_P g.1 classes [((q 32), aI g 160 sk), (h0, .inr (10, mob q rf n mm mb u24.1 u24.2.1 av ev wi mn tp tc sc nf fd me mp xn mt wh u24.2.2 ag an ig)), ((q 47), aI g 128 nw)] H := hP
                  have hD : va_D A [((q 32), aI g 160 sk), (h0, .inr (10, mob q rf n mm mb u24.1 u24.2.1 av ev wi mn tp tc sc nf fd me mp xn mt wh u24.2.2 ag an ig)), ((q 47), aI g 128 nw)] := hD
                  have hP : va_P g.1 classes [(h0, .inr (10, mob q rf n mm mb u24.1 u24.2.1 av ev wi mn tp tc sc nf fd me mp xn mt wh u24.2.2 ag an ig)), ((q 32), aI g 160 sk), ((q 47), aI g 128 nw)] H := hP.sub [1, 0, 2] rfl
                  have hD : va_D A [(h0, .inr (10, mob q rf n mm mb u24.1 u24.2.1 av ev wi mn tp tc sc nf fd me mp xn mt wh u24.2.2 ag an ig)), ((q 32), aI g 160 sk), ((q 47), aI g 128 nw)] := hD.sub [1, 0, 2] (by decide) rfl
                  obtain ⟨hp24_0, hp24_1, hp24_2⟩ := hr23
                  refine lv_aload_n hx hb d_Mod_reckon_135 rfl (lv_at hl 1 rfl) ?_
                  refine lv_iload_n hx hb d_Mod_reckon_136 rfl (lv_at hl 2 rfl) ?_
                  refine lv_bipush (v := 117) hx hb d_Mod_reckon_137 (by decide) ?_
                  refine lv_icmp_eq (tgt := 149) hx hb d_Mod_reckon_139 (by decide) (fun h139 => ?_) (fun h139 => ?_)
                  · refine lv_iconst (v := 2) hx hb d_Mod_reckon_149 (by decide) ?_
                    refine lv_goto (tgt := 154) hx hb d_Mod_reckon_150 (by decide) ?_
                    refine tw_wv (wr := []) (tw_runV (ws := [(h0, .inr (10, mob q rf n mm mb u24.1 u24.2.1 av ev wi mn tp tc sc nf fd me mp xn mt wh u24.2.2 ag an ig)), ((q 32), aI g 160 sk), ((q 47), aI g 128 nw)]) (wc := [(h0, .inr (10, mob q rf n mm mb u24.1 u24.2.1 av ev wi mn tp tc sc nf fd me mp xn mt wh u24.2.2 ag an ig)), ((q 32), aI g 160 sk), ((q 47), aI g 128 nw)]) (As := [.int 2]) (rest := []) E hB hK hZ (g_Mod_give l g H.size h0 q rf n mm mb av ev wi mn tp tc sc nf fd me mp xn mt wh ag an ig sk u24.1 u24.2.1 u24.2.2 nw 2 s1 hNW (by omega) (by omega) hsk (by omega) (fun _ => by decide)) mc_Mod_give mi_Mod_give me_Mod_give wd_1648 hP hD hS hA [0, 1, 2] rfl (by decide) 0 rfl rfl rfl rfl rfl (by decide) rfl hl.1 rfl (Nat.le_of_ble_eq_true rfl) (by decide) d_Mod_reckon_154) hP hD hS hA [0, 1, 2] [] rfl rfl (by decide) (by decide) (fun u26 H locs hr25 hP hD hS => ?_)
                    try dsimp only at hr25
                    have hP : va_P g.1 classes [(h0, .inr (10, mob q rf n mm mb u26.1 u26.2.1 av ev wi mn tp tc sc nf fd me mp xn mt wh u26.2.2.1 ag an ig)), ((q 32), aI g 160 sk), ((q 47), aI g 128 u26.2.2.2)] H := hP
                    have hD : va_D A [(h0, .inr (10, mob q rf n mm mb u26.1 u26.2.1 av ev wi mn tp tc sc nf fd me mp xn mt wh u26.2.2.1 ag an ig)), ((q 32), aI g 160 sk), ((q 47), aI g 128 u26.2.2.2)] := hD
                    have hP : va_P g.1 classes [(h0, .inr (10, mob q rf n mm mb u26.1 u26.2.1 av ev wi mn tp tc sc nf fd me mp xn mt wh u26.2.2.1 ag an ig)), ((q 32), aI g 160 sk), ((q 47), aI g 128 u26.2.2.2)] H := hP.sub [0, 1, 2] rfl
                    have hD : va_D A [(h0, .inr (10, mob q rf n mm mb u26.1 u26.2.1 av ev wi mn tp tc sc nf fd me mp xn mt wh u26.2.2.1 ag an ig)), ((q 32), aI g 160 sk), ((q 47), aI g 128 u26.2.2.2)] := hD.sub [0, 1, 2] (by decide) rfl
                    obtain ⟨hp26_0, hp26_1, hp26_2⟩ := hr25
                    exact tw_vret E hS (u26.1, u26.2.1, u26.2.2.1, u26.2.2.2) (⟨(fun h => (fun h => (fun h => h) (hp24_0 h)) (hp26_0 h)), (by first | omega | (dsimp only <;> omega)), hp26_2⟩) hP hD d_Mod_reckon_157
                  · refine lv_iload_n hx hb d_Mod_reckon_142 rfl (lv_at hl 2 rfl) ?_
                    refine lv_sipush (v := 133) hx hb d_Mod_reckon_143 (by decide) ?_
                    refine lv_icmp_ne (tgt := 153) hx hb d_Mod_reckon_146 (by decide) (fun h146 => ?_) (fun h146 => ?_)
                    · refine lv_iconst (v := 1) hx hb d_Mod_reckon_153 (by decide) ?_
                      refine tw_wv (wr := []) (tw_runV (ws := [(h0, .inr (10, mob q rf n mm mb u24.1 u24.2.1 av ev wi mn tp tc sc nf fd me mp xn mt wh u24.2.2 ag an ig)), ((q 32), aI g 160 sk), ((q 47), aI g 128 nw)]) (wc := [(h0, .inr (10, mob q rf n mm mb u24.1 u24.2.1 av ev wi mn tp tc sc nf fd me mp xn mt wh u24.2.2 ag an ig)), ((q 32), aI g 160 sk), ((q 47), aI g 128 nw)]) (As := [.int 1]) (rest := []) E hB hK hZ (g_Mod_give l g H.size h0 q rf n mm mb av ev wi mn tp tc sc nf fd me mp xn mt wh ag an ig sk u24.1 u24.2.1 u24.2.2 nw 1 s1 hNW (by omega) (by omega) hsk (by omega) (fun _ => by decide)) mc_Mod_give mi_Mod_give me_Mod_give wd_1648 hP hD hS hA [0, 1, 2] rfl (by decide) 0 rfl rfl rfl rfl rfl (by decide) rfl hl.1 rfl (Nat.le_of_ble_eq_true rfl) (by decide) d_Mod_reckon_154) hP hD hS hA [0, 1, 2] [] rfl rfl (by decide) (by decide) (fun u28 H locs hr27 hP hD hS => ?_)
                      try dsimp only at hr27
                      have hP : va_P g.1 classes [(h0, .inr (10, mob q rf n mm mb u28.1 u28.2.1 av ev wi mn tp tc sc nf fd me mp xn mt wh u28.2.2.1 ag an ig)), ((q 32), aI g 160 sk), ((q 47), aI g 128 u28.2.2.2)] H := hP
                      have hD : va_D A [(h0, .inr (10, mob q rf n mm mb u28.1 u28.2.1 av ev wi mn tp tc sc nf fd me mp xn mt wh u28.2.2.1 ag an ig)), ((q 32), aI g 160 sk), ((q 47), aI g 128 u28.2.2.2)] := hD
                      have hP : va_P g.1 classes [(h0, .inr (10, mob q rf n mm mb u28.1 u28.2.1 av ev wi mn tp tc sc nf fd me mp xn mt wh u28.2.2.1 ag an ig)), ((q 32), aI g 160 sk), ((q 47), aI g 128 u28.2.2.2)] H := hP.sub [0, 1, 2] rfl
                      have hD : va_D A [(h0, .inr (10, mob q rf n mm mb u28.1 u28.2.1 av ev wi mn tp tc sc nf fd me mp xn mt wh u28.2.2.1 ag an ig)), ((q 32), aI g 160 sk), ((q 47), aI g 128 u28.2.2.2)] := hD.sub [0, 1, 2] (by decide) rfl
                      obtain ⟨hp28_0, hp28_1, hp28_2⟩ := hr27
                      exact tw_vret E hS (u28.1, u28.2.1, u28.2.2.1, u28.2.2.2) (⟨(fun h => (fun h => (fun h => h) (hp24_0 h)) (hp28_0 h)), (by first | omega | (dsimp only <;> omega)), hp28_2⟩) hP hD d_Mod_reckon_157
                    · refine lv_iconst (v := 2) hx hb d_Mod_reckon_149 (by decide) ?_
                      refine lv_goto (tgt := 154) hx hb d_Mod_reckon_150 (by decide) ?_
                      refine tw_wv (wr := []) (tw_runV (ws := [(h0, .inr (10, mob q rf n mm mb u24.1 u24.2.1 av ev wi mn tp tc sc nf fd me mp xn mt wh u24.2.2 ag an ig)), ((q 32), aI g 160 sk), ((q 47), aI g 128 nw)]) (wc := [(h0, .inr (10, mob q rf n mm mb u24.1 u24.2.1 av ev wi mn tp tc sc nf fd me mp xn mt wh u24.2.2 ag an ig)), ((q 32), aI g 160 sk), ((q 47), aI g 128 nw)]) (As := [.int 2]) (rest := []) E hB hK hZ (g_Mod_give l g H.size h0 q rf n mm mb av ev wi mn tp tc sc nf fd me mp xn mt wh ag an ig sk u24.1 u24.2.1 u24.2.2 nw 2 s1 hNW (by omega) (by omega) hsk (by omega) (fun _ => by decide)) mc_Mod_give mi_Mod_give me_Mod_give wd_1648 hP hD hS hA [0, 1, 2] rfl (by decide) 0 rfl rfl rfl rfl rfl (by decide) rfl hl.1 rfl (Nat.le_of_ble_eq_true rfl) (by decide) d_Mod_reckon_154) hP hD hS hA [0, 1, 2] [] rfl rfl (by decide) (by decide) (fun u30 H locs hr29 hP hD hS => ?_)
                      try dsimp only at hr29
                      have hP : va_P g.1 classes [(h0, .inr (10, mob q rf n mm mb u30.1 u30.2.1 av ev wi mn tp tc sc nf fd me mp xn mt wh u30.2.2.1 ag an ig)), ((q 32), aI g 160 sk), ((q 47), aI g 128 u30.2.2.2)] H := hP
                      have hD : va_D A [(h0, .inr (10, mob q rf n mm mb u30.1 u30.2.1 av ev wi mn tp tc sc nf fd me mp xn mt wh u30.2.2.1 ag an ig)), ((q 32), aI g 160 sk), ((q 47), aI g 128 u30.2.2.2)] := hD
                      have hP : va_P g.1 classes [(h0, .inr (10, mob q rf n mm mb u30.1 u30.2.1 av ev wi mn tp tc sc nf fd me mp xn mt wh u30.2.2.1 ag an ig)), ((q 32), aI g 160 sk), ((q 47), aI g 128 u30.2.2.2)] H := hP.sub [0, 1, 2] rfl
                      have hD : va_D A [(h0, .inr (10, mob q rf n mm mb u30.1 u30.2.1 av ev wi mn tp tc sc nf fd me mp xn mt wh u30.2.2.1 ag an ig)), ((q 32), aI g 160 sk), ((q 47), aI g 128 u30.2.2.2)] := hD.sub [0, 1, 2] (by decide) rfl
                      obtain ⟨hp30_0, hp30_1, hp30_2⟩ := hr29
                      exact tw_vret E hS (u30.1, u30.2.1, u30.2.2.1, u30.2.2.2) (⟨(fun h => (fun h => (fun h => h) (hp24_0 h)) (hp30_0 h)), (by first | omega | (dsimp only <;> omega)), hp30_2⟩) hP hD d_Mod_reckon_157
                · refine lv_iconst (v := 2) hx hb d_Mod_reckon_124 (by decide) ?_
                  refine lv_goto (tgt := 129) hx hb d_Mod_reckon_125 (by decide) ?_
                  refine lv_istore_n hx hb d_Mod_reckon_129 rfl hl (by decide) rfl (fun ls hl => ?_)
                  have hl : lv_has ls 3 [(2, .int 2), (0, .ref h0), (1, .int (nI cn))] := hl
                  refine lv_aload_n hx hb d_Mod_reckon_130 rfl (lv_at hl 1 rfl) ?_
                  refine lv_iload_n hx hb d_Mod_reckon_131 rfl (lv_at hl 0 rfl) ?_
                  refine tw_wv (wr := [((q 32), aI g 160 sk)]) (tw_runV (ws := [(h0, .inr (10, mob q rf n mm mb fa fp av ev wi mn tp tc sc nf fd me mp xn mt wh tq ag an ig)), ((q 32), aI g 160 sk), ((q 47), aI g 128 nw)]) (wc := [(h0, .inr (10, mob q rf n mm mb fa fp av ev wi mn tp tc sc nf fd me mp xn mt wh tq ag an ig)), ((q 47), aI g 128 nw)]) (As := [.int 2]) (rest := []) E hB hK hZ (g_Mod_take l g H.size h0 q rf n mm mb av ev wi mn tp tc sc nf fd me mp xn mt wh ag an ig nw fa fp tq 2 hNW (by omega)) mc_Mod_take mi_Mod_take me_Mod_take wd_1668 hP hD hS hA [0, 2] rfl (by decide) 0 rfl rfl rfl rfl rfl (by decide) rfl hl.1 rfl (Nat.le_of_ble_eq_true rfl) (by decide) d_Mod_reckon_132) hP hD hS hA [0, 2] [1] rfl rfl (by decide) (by decide) (fun u32 H locs hr31 hP hD hS => ?_)
                  try dsimp only at hr31
                  have hP : va_P g.1 classes [((q 32), aI g 160 sk), (h0, .inr (10, mob q rf n mm mb u32.1 u32.2.1 av ev wi mn tp tc sc nf fd me mp xn mt wh u32.2.2 ag an ig)), ((q 47), aI g 128 nw)] H := hP
                  have hD : va_D A [((q 32), aI g 160 sk), (h0, .inr (10, mob q rf n mm mb u32.1 u32.2.1 av ev wi mn tp tc sc nf fd me mp xn mt wh u32.2.2 ag an ig)), ((q 47), aI g 128 nw)] := hD
                  have hP : va_P g.1 classes [(h0, .inr (10, mob q rf n mm mb u32.1 u32.2.1 av ev wi mn tp tc sc nf fd me mp xn mt wh u32.2.2 ag an ig)), ((q 32), aI g 160 sk), ((q 47), aI g 128 nw)] H := hP.sub [1, 0, 2] rfl
                  have hD : va_D A [(h0, .inr (10, mob q rf n mm mb u32.1 u32.2.1 av ev wi mn tp tc sc nf fd me mp xn mt wh u32.2.2 ag an ig)), ((q 32), aI g 160 sk), ((q 47), aI g 128 nw)] := hD.sub [1, 0, 2] (by decide) rfl
                  obtain ⟨hp32_0, hp32_1, hp32_2⟩ := hr31
                  refine lv_aload_n hx hb d_Mod_reckon_135 rfl (lv_at hl 1 rfl) ?_
                  refine lv_iload_n hx hb d_Mod_reckon_136 rfl (lv_at hl 2 rfl) ?_
                  refine lv_bipush (v := 117) hx hb d_Mod_reckon_137 (by decide) ?_
                  refine lv_icmp_eq (tgt := 149) hx hb d_Mod_reckon_139 (by decide) (fun h139 => ?_) (fun h139 => ?_)
                  · refine lv_iconst (v := 2) hx hb d_Mod_reckon_149 (by decide) ?_
                    refine lv_goto (tgt := 154) hx hb d_Mod_reckon_150 (by decide) ?_
                    refine tw_wv (wr := []) (tw_runV (ws := [(h0, .inr (10, mob q rf n mm mb u32.1 u32.2.1 av ev wi mn tp tc sc nf fd me mp xn mt wh u32.2.2 ag an ig)), ((q 32), aI g 160 sk), ((q 47), aI g 128 nw)]) (wc := [(h0, .inr (10, mob q rf n mm mb u32.1 u32.2.1 av ev wi mn tp tc sc nf fd me mp xn mt wh u32.2.2 ag an ig)), ((q 32), aI g 160 sk), ((q 47), aI g 128 nw)]) (As := [.int 2]) (rest := []) E hB hK hZ (g_Mod_give l g H.size h0 q rf n mm mb av ev wi mn tp tc sc nf fd me mp xn mt wh ag an ig sk u32.1 u32.2.1 u32.2.2 nw 2 s1 hNW (by omega) (by omega) hsk (by omega) (fun _ => by decide)) mc_Mod_give mi_Mod_give me_Mod_give wd_1648 hP hD hS hA [0, 1, 2] rfl (by decide) 0 rfl rfl rfl rfl rfl (by decide) rfl hl.1 rfl (Nat.le_of_ble_eq_true rfl) (by decide) d_Mod_reckon_154) hP hD hS hA [0, 1, 2] [] rfl rfl (by decide) (by decide) (fun u34 H locs hr33 hP hD hS => ?_)
                    try dsimp only at hr33
                    have hP : va_P g.1 classes [(h0, .inr (10, mob q rf n mm mb u34.1 u34.2.1 av ev wi mn tp tc sc nf fd me mp xn mt wh u34.2.2.1 ag an ig)), ((q 32), aI g 160 sk), ((q 47), aI g 128 u34.2.2.2)] H := hP
                    have hD : va_D A [(h0, .inr (10, mob q rf n mm mb u34.1 u34.2.1 av ev wi mn tp tc sc nf fd me mp xn mt wh u34.2.2.1 ag an ig)), ((q 32), aI g 160 sk), ((q 47), aI g 128 u34.2.2.2)] := hD
                    have hP : va_P g.1 classes [(h0, .inr (10, mob q rf n mm mb u34.1 u34.2.1 av ev wi mn tp tc sc nf fd me mp xn mt wh u34.2.2.1 ag an ig)), ((q 32), aI g 160 sk), ((q 47), aI g 128 u34.2.2.2)] H := hP.sub [0, 1, 2] rfl
                    have hD : va_D A [(h0, .inr (10, mob q rf n mm mb u34.1 u34.2.1 av ev wi mn tp tc sc nf fd me mp xn mt wh u34.2.2.1 ag an ig)), ((q 32), aI g 160 sk), ((q 47), aI g 128 u34.2.2.2)] := hD.sub [0, 1, 2] (by decide) rfl
                    obtain ⟨hp34_0, hp34_1, hp34_2⟩ := hr33
                    exact tw_vret E hS (u34.1, u34.2.1, u34.2.2.1, u34.2.2.2) (⟨(fun h => (fun h => (fun h => h) (hp32_0 h)) (hp34_0 h)), (by first | omega | (dsimp only <;> omega)), hp34_2⟩) hP hD d_Mod_reckon_157
                  · refine lv_iload_n hx hb d_Mod_reckon_142 rfl (lv_at hl 2 rfl) ?_
                    refine lv_sipush (v := 133) hx hb d_Mod_reckon_143 (by decide) ?_
                    refine lv_icmp_ne (tgt := 153) hx hb d_Mod_reckon_146 (by decide) (fun h146 => ?_) (fun h146 => ?_)
                    · refine lv_iconst (v := 1) hx hb d_Mod_reckon_153 (by decide) ?_
                      refine tw_wv (wr := []) (tw_runV (ws := [(h0, .inr (10, mob q rf n mm mb u32.1 u32.2.1 av ev wi mn tp tc sc nf fd me mp xn mt wh u32.2.2 ag an ig)), ((q 32), aI g 160 sk), ((q 47), aI g 128 nw)]) (wc := [(h0, .inr (10, mob q rf n mm mb u32.1 u32.2.1 av ev wi mn tp tc sc nf fd me mp xn mt wh u32.2.2 ag an ig)), ((q 32), aI g 160 sk), ((q 47), aI g 128 nw)]) (As := [.int 1]) (rest := []) E hB hK hZ (g_Mod_give l g H.size h0 q rf n mm mb av ev wi mn tp tc sc nf fd me mp xn mt wh ag an ig sk u32.1 u32.2.1 u32.2.2 nw 1 s1 hNW (by omega) (by omega) hsk (by omega) (fun _ => by decide)) mc_Mod_give mi_Mod_give me_Mod_give wd_1648 hP hD hS hA [0, 1, 2] rfl (by decide) 0 rfl rfl rfl rfl rfl (by decide) rfl hl.1 rfl (Nat.le_of_ble_eq_true rfl) (by decide) d_Mod_reckon_154) hP hD hS hA [0, 1, 2] [] rfl rfl (by decide) (by decide) (fun u36 H locs hr35 hP hD hS => ?_)
                      try dsimp only at hr35
                      have hP : va_P g.1 classes [(h0, .inr (10, mob q rf n mm mb u36.1 u36.2.1 av ev wi mn tp tc sc nf fd me mp xn mt wh u36.2.2.1 ag an ig)), ((q 32), aI g 160 sk), ((q 47), aI g 128 u36.2.2.2)] H := hP
                      have hD : va_D A [(h0, .inr (10, mob q rf n mm mb u36.1 u36.2.1 av ev wi mn tp tc sc nf fd me mp xn mt wh u36.2.2.1 ag an ig)), ((q 32), aI g 160 sk), ((q 47), aI g 128 u36.2.2.2)] := hD
                      have hP : va_P g.1 classes [(h0, .inr (10, mob q rf n mm mb u36.1 u36.2.1 av ev wi mn tp tc sc nf fd me mp xn mt wh u36.2.2.1 ag an ig)), ((q 32), aI g 160 sk), ((q 47), aI g 128 u36.2.2.2)] H := hP.sub [0, 1, 2] rfl
                      have hD : va_D A [(h0, .inr (10, mob q rf n mm mb u36.1 u36.2.1 av ev wi mn tp tc sc nf fd me mp xn mt wh u36.2.2.1 ag an ig)), ((q 32), aI g 160 sk), ((q 47), aI g 128 u36.2.2.2)] := hD.sub [0, 1, 2] (by decide) rfl
                      obtain ⟨hp36_0, hp36_1, hp36_2⟩ := hr35
                      exact tw_vret E hS (u36.1, u36.2.1, u36.2.2.1, u36.2.2.2) (⟨(fun h => (fun h => (fun h => h) (hp32_0 h)) (hp36_0 h)), (by first | omega | (dsimp only <;> omega)), hp36_2⟩) hP hD d_Mod_reckon_157
                    · refine lv_iconst (v := 2) hx hb d_Mod_reckon_149 (by decide) ?_
                      refine lv_goto (tgt := 154) hx hb d_Mod_reckon_150 (by decide) ?_
                      refine tw_wv (wr := []) (tw_runV (ws := [(h0, .inr (10, mob q rf n mm mb u32.1 u32.2.1 av ev wi mn tp tc sc nf fd me mp xn mt wh u32.2.2 ag an ig)), ((q 32), aI g 160 sk), ((q 47), aI g 128 nw)]) (wc := [(h0, .inr (10, mob q rf n mm mb u32.1 u32.2.1 av ev wi mn tp tc sc nf fd me mp xn mt wh u32.2.2 ag an ig)), ((q 32), aI g 160 sk), ((q 47), aI g 128 nw)]) (As := [.int 2]) (rest := []) E hB hK hZ (g_Mod_give l g H.size h0 q rf n mm mb av ev wi mn tp tc sc nf fd me mp xn mt wh ag an ig sk u32.1 u32.2.1 u32.2.2 nw 2 s1 hNW (by omega) (by omega) hsk (by omega) (fun _ => by decide)) mc_Mod_give mi_Mod_give me_Mod_give wd_1648 hP hD hS hA [0, 1, 2] rfl (by decide) 0 rfl rfl rfl rfl rfl (by decide) rfl hl.1 rfl (Nat.le_of_ble_eq_true rfl) (by decide) d_Mod_reckon_154) hP hD hS hA [0, 1, 2] [] rfl rfl (by decide) (by decide) (fun u38 H locs hr37 hP hD hS => ?_)
                      try dsimp only at hr37
                      have hP : va_P g.1 classes [(h0, .inr (10, mob q rf n mm mb u38.1 u38.2.1 av ev wi mn tp tc sc nf fd me mp xn mt wh u38.2.2.1 ag an ig)), ((q 32), aI g 160 sk), ((q 47), aI g 128 u38.2.2.2)] H := hP
                      have hD : va_D A [(h0, .inr (10, mob q rf n mm mb u38.1 u38.2.1 av ev wi mn tp tc sc nf fd me mp xn mt wh u38.2.2.1 ag an ig)), ((q 32), aI g 160 sk), ((q 47), aI g 128 u38.2.2.2)] := hD
                      have hP : va_P g.1 classes [(h0, .inr (10, mob q rf n mm mb u38.1 u38.2.1 av ev wi mn tp tc sc nf fd me mp xn mt wh u38.2.2.1 ag an ig)), ((q 32), aI g 160 sk), ((q 47), aI g 128 u38.2.2.2)] H := hP.sub [0, 1, 2] rfl
                      have hD : va_D A [(h0, .inr (10, mob q rf n mm mb u38.1 u38.2.1 av ev wi mn tp tc sc nf fd me mp xn mt wh u38.2.2.1 ag an ig)), ((q 32), aI g 160 sk), ((q 47), aI g 128 u38.2.2.2)] := hD.sub [0, 1, 2] (by decide) rfl
                      obtain ⟨hp38_0, hp38_1, hp38_2⟩ := hr37
                      exact tw_vret E hS (u38.1, u38.2.1, u38.2.2.1, u38.2.2.2) (⟨(fun h => (fun h => (fun h => h) (hp32_0 h)) (hp38_0 h)), (by first | omega | (dsimp only <;> omega)), hp38_2⟩) hP hD d_Mod_reckon_157
            · refine lv_aload_n hx hb d_Mod_reckon_93 rfl (lv_at hl 0 rfl) ?_
              refine lv_iconst (v := 2) hx hb d_Mod_reckon_94 (by decide) ?_
              refine tw_wv (wr := [((q 32), aI g 160 sk)]) (tw_runV (ws := [(h0, .inr (10, mob q rf n mm mb fa fp av ev wi mn tp tc sc nf fd me mp xn mt wh tq ag an ig)), ((q 32), aI g 160 sk), ((q 47), aI g 128 nw)]) (wc := [(h0, .inr (10, mob q rf n mm mb fa fp av ev wi mn tp tc sc nf fd me mp xn mt wh tq ag an ig)), ((q 47), aI g 128 nw)]) (As := [.int 2]) (rest := []) E hB hK hZ (g_Mod_take l g H.size h0 q rf n mm mb av ev wi mn tp tc sc nf fd me mp xn mt wh ag an ig nw fa fp tq 2 hNW (by omega)) mc_Mod_take mi_Mod_take me_Mod_take wd_1668 hP hD hS hA [0, 2] rfl (by decide) 0 rfl rfl rfl rfl rfl (by decide) rfl hl.1 rfl (Nat.le_of_ble_eq_true rfl) (by decide) d_Mod_reckon_95) hP hD hS hA [0, 2] [1] rfl rfl (by decide) (by decide) (fun u40 H locs hr39 hP hD hS => ?_)
              try dsimp only at hr39
              have hP : va_P g.1 classes [((q 32), aI g 160 sk), (h0, .inr (10, mob q rf n mm mb u40.1 u40.2.1 av ev wi mn tp tc sc nf fd me mp xn mt wh u40.2.2 ag an ig)), ((q 47), aI g 128 nw)] H := hP
              have hD : va_D A [((q 32), aI g 160 sk), (h0, .inr (10, mob q rf n mm mb u40.1 u40.2.1 av ev wi mn tp tc sc nf fd me mp xn mt wh u40.2.2 ag an ig)), ((q 47), aI g 128 nw)] := hD
              have hP : va_P g.1 classes [(h0, .inr (10, mob q rf n mm mb u40.1 u40.2.1 av ev wi mn tp tc sc nf fd me mp xn mt wh u40.2.2 ag an ig)), ((q 32), aI g 160 sk), ((q 47), aI g 128 nw)] H := hP.sub [1, 0, 2] rfl
              have hD : va_D A [(h0, .inr (10, mob q rf n mm mb u40.1 u40.2.1 av ev wi mn tp tc sc nf fd me mp xn mt wh u40.2.2 ag an ig)), ((q 32), aI g 160 sk), ((q 47), aI g 128 nw)] := hD.sub [1, 0, 2] (by decide) rfl
              obtain ⟨hp40_0, hp40_1, hp40_2⟩ := hr39
              refine lv_aload_n hx hb d_Mod_reckon_98 rfl (lv_at hl 0 rfl) ?_
              refine lv_iconst (v := 2) hx hb d_Mod_reckon_99 (by decide) ?_
              refine tw_wv (wr := [((q 32), aI g 160 sk)]) (tw_runV (ws := [(h0, .inr (10, mob q rf n mm mb u40.1 u40.2.1 av ev wi mn tp tc sc nf fd me mp xn mt wh u40.2.2 ag an ig)), ((q 32), aI g 160 sk), ((q 47), aI g 128 nw)]) (wc := [(h0, .inr (10, mob q rf n mm mb u40.1 u40.2.1 av ev wi mn tp tc sc nf fd me mp xn mt wh u40.2.2 ag an ig)), ((q 47), aI g 128 nw)]) (As := [.int 2]) (rest := []) E hB hK hZ (g_Mod_take l g H.size h0 q rf n mm mb av ev wi mn tp tc sc nf fd me mp xn mt wh ag an ig nw u40.1 u40.2.1 u40.2.2 2 hNW (by omega)) mc_Mod_take mi_Mod_take me_Mod_take wd_1668 hP hD hS hA [0, 2] rfl (by decide) 0 rfl rfl rfl rfl rfl (by decide) rfl hl.1 rfl (Nat.le_of_ble_eq_true rfl) (by decide) d_Mod_reckon_100) hP hD hS hA [0, 2] [1] rfl rfl (by decide) (by decide) (fun u42 H locs hr41 hP hD hS => ?_)
              try dsimp only at hr41
              have hP : va_P g.1 classes [((q 32), aI g 160 sk), (h0, .inr (10, mob q rf n mm mb u42.1 u42.2.1 av ev wi mn tp tc sc nf fd me mp xn mt wh u42.2.2 ag an ig)), ((q 47), aI g 128 nw)] H := hP
              have hD : va_D A [((q 32), aI g 160 sk), (h0, .inr (10, mob q rf n mm mb u42.1 u42.2.1 av ev wi mn tp tc sc nf fd me mp xn mt wh u42.2.2 ag an ig)), ((q 47), aI g 128 nw)] := hD
              have hP : va_P g.1 classes [(h0, .inr (10, mob q rf n mm mb u42.1 u42.2.1 av ev wi mn tp tc sc nf fd me mp xn mt wh u42.2.2 ag an ig)), ((q 32), aI g 160 sk), ((q 47), aI g 128 nw)] H := hP.sub [1, 0, 2] rfl
              have hD : va_D A [(h0, .inr (10, mob q rf n mm mb u42.1 u42.2.1 av ev wi mn tp tc sc nf fd me mp xn mt wh u42.2.2 ag an ig)), ((q 32), aI g 160 sk), ((q 47), aI g 128 nw)] := hD.sub [1, 0, 2] (by decide) rfl
              obtain ⟨hp42_0, hp42_1, hp42_2⟩ := hr41
              refine lv_aload_n hx hb d_Mod_reckon_103 rfl (lv_at hl 0 rfl) ?_
              refine lv_iconst (v := 1) hx hb d_Mod_reckon_104 (by decide) ?_
              refine tw_wv (wr := []) (tw_runV (ws := [(h0, .inr (10, mob q rf n mm mb u42.1 u42.2.1 av ev wi mn tp tc sc nf fd me mp xn mt wh u42.2.2 ag an ig)), ((q 32), aI g 160 sk), ((q 47), aI g 128 nw)]) (wc := [(h0, .inr (10, mob q rf n mm mb u42.1 u42.2.1 av ev wi mn tp tc sc nf fd me mp xn mt wh u42.2.2 ag an ig)), ((q 32), aI g 160 sk), ((q 47), aI g 128 nw)]) (As := [.int 1]) (rest := []) E hB hK hZ (g_Mod_give l g H.size h0 q rf n mm mb av ev wi mn tp tc sc nf fd me mp xn mt wh ag an ig sk u42.1 u42.2.1 u42.2.2 nw 1 s1 hNW (by omega) (by omega) hsk (by omega) (fun _ => by decide)) mc_Mod_give mi_Mod_give me_Mod_give wd_1648 hP hD hS hA [0, 1, 2] rfl (by decide) 0 rfl rfl rfl rfl rfl (by decide) rfl hl.1 rfl (Nat.le_of_ble_eq_true rfl) (by decide) d_Mod_reckon_105) hP hD hS hA [0, 1, 2] [] rfl rfl (by decide) (by decide) (fun u44 H locs hr43 hP hD hS => ?_)
              try dsimp only at hr43
              have hP : va_P g.1 classes [(h0, .inr (10, mob q rf n mm mb u44.1 u44.2.1 av ev wi mn tp tc sc nf fd me mp xn mt wh u44.2.2.1 ag an ig)), ((q 32), aI g 160 sk), ((q 47), aI g 128 u44.2.2.2)] H := hP
              have hD : va_D A [(h0, .inr (10, mob q rf n mm mb u44.1 u44.2.1 av ev wi mn tp tc sc nf fd me mp xn mt wh u44.2.2.1 ag an ig)), ((q 32), aI g 160 sk), ((q 47), aI g 128 u44.2.2.2)] := hD
              have hP : va_P g.1 classes [(h0, .inr (10, mob q rf n mm mb u44.1 u44.2.1 av ev wi mn tp tc sc nf fd me mp xn mt wh u44.2.2.1 ag an ig)), ((q 32), aI g 160 sk), ((q 47), aI g 128 u44.2.2.2)] H := hP.sub [0, 1, 2] rfl
              have hD : va_D A [(h0, .inr (10, mob q rf n mm mb u44.1 u44.2.1 av ev wi mn tp tc sc nf fd me mp xn mt wh u44.2.2.1 ag an ig)), ((q 32), aI g 160 sk), ((q 47), aI g 128 u44.2.2.2)] := hD.sub [0, 1, 2] (by decide) rfl
              obtain ⟨hp44_0, hp44_1, hp44_2⟩ := hr43
              refine lv_goto (tgt := 157) hx hb d_Mod_reckon_108 (by decide) ?_
              exact tw_vret E hS (u44.1, u44.2.1, u44.2.2.1, u44.2.2.2) (⟨(fun h => (fun h => (fun h => (fun h => h) (hp40_0 h)) (hp42_0 h)) (hp44_0 h)), (by first | omega | (dsimp only <;> omega)), hp44_2⟩) hP hD d_Mod_reckon_157
          · refine lv_aload_n hx hb d_Mod_reckon_68 rfl (lv_at hl 0 rfl) ?_
            refine lv_iconst (v := 1) hx hb d_Mod_reckon_69 (by decide) ?_
            refine tw_wv (wr := [((q 32), aI g 160 sk)]) (tw_runV (ws := [(h0, .inr (10, mob q rf n mm mb fa fp av ev wi mn tp tc sc nf fd me mp xn mt wh tq ag an ig)), ((q 32), aI g 160 sk), ((q 47), aI g 128 nw)]) (wc := [(h0, .inr (10, mob q rf n mm mb fa fp av ev wi mn tp tc sc nf fd me mp xn mt wh tq ag an ig)), ((q 47), aI g 128 nw)]) (As := [.int 1]) (rest := []) E hB hK hZ (g_Mod_take l g H.size h0 q rf n mm mb av ev wi mn tp tc sc nf fd me mp xn mt wh ag an ig nw fa fp tq 1 hNW (by omega)) mc_Mod_take mi_Mod_take me_Mod_take wd_1668 hP hD hS hA [0, 2] rfl (by decide) 0 rfl rfl rfl rfl rfl (by decide) rfl hl.1 rfl (Nat.le_of_ble_eq_true rfl) (by decide) d_Mod_reckon_70) hP hD hS hA [0, 2] [1] rfl rfl (by decide) (by decide) (fun u46 H locs hr45 hP hD hS => ?_)
            try dsimp only at hr45
            have hP : va_P g.1 classes [((q 32), aI g 160 sk), (h0, .inr (10, mob q rf n mm mb u46.1 u46.2.1 av ev wi mn tp tc sc nf fd me mp xn mt wh u46.2.2 ag an ig)), ((q 47), aI g 128 nw)] H := hP
            have hD : va_D A [((q 32), aI g 160 sk), (h0, .inr (10, mob q rf n mm mb u46.1 u46.2.1 av ev wi mn tp tc sc nf fd me mp xn mt wh u46.2.2 ag an ig)), ((q 47), aI g 128 nw)] := hD
            have hP : va_P g.1 classes [(h0, .inr (10, mob q rf n mm mb u46.1 u46.2.1 av ev wi mn tp tc sc nf fd me mp xn mt wh u46.2.2 ag an ig)), ((q 32), aI g 160 sk), ((q 47), aI g 128 nw)] H := hP.sub [1, 0, 2] rfl
            have hD : va_D A [(h0, .inr (10, mob q rf n mm mb u46.1 u46.2.1 av ev wi mn tp tc sc nf fd me mp xn mt wh u46.2.2 ag an ig)), ((q 32), aI g 160 sk), ((q 47), aI g 128 nw)] := hD.sub [1, 0, 2] (by decide) rfl
            obtain ⟨hp46_0, hp46_1, hp46_2⟩ := hr45
            refine lv_aload_n hx hb d_Mod_reckon_73 rfl (lv_at hl 0 rfl) ?_
            refine lv_iconst (v := 2) hx hb d_Mod_reckon_74 (by decide) ?_
            refine tw_wv (wr := [((q 32), aI g 160 sk)]) (tw_runV (ws := [(h0, .inr (10, mob q rf n mm mb u46.1 u46.2.1 av ev wi mn tp tc sc nf fd me mp xn mt wh u46.2.2 ag an ig)), ((q 32), aI g 160 sk), ((q 47), aI g 128 nw)]) (wc := [(h0, .inr (10, mob q rf n mm mb u46.1 u46.2.1 av ev wi mn tp tc sc nf fd me mp xn mt wh u46.2.2 ag an ig)), ((q 47), aI g 128 nw)]) (As := [.int 2]) (rest := []) E hB hK hZ (g_Mod_take l g H.size h0 q rf n mm mb av ev wi mn tp tc sc nf fd me mp xn mt wh ag an ig nw u46.1 u46.2.1 u46.2.2 2 hNW (by omega)) mc_Mod_take mi_Mod_take me_Mod_take wd_1668 hP hD hS hA [0, 2] rfl (by decide) 0 rfl rfl rfl rfl rfl (by decide) rfl hl.1 rfl (Nat.le_of_ble_eq_true rfl) (by decide) d_Mod_reckon_75) hP hD hS hA [0, 2] [1] rfl rfl (by decide) (by decide) (fun u48 H locs hr47 hP hD hS => ?_)
            try dsimp only at hr47
            have hP : va_P g.1 classes [((q 32), aI g 160 sk), (h0, .inr (10, mob q rf n mm mb u48.1 u48.2.1 av ev wi mn tp tc sc nf fd me mp xn mt wh u48.2.2 ag an ig)), ((q 47), aI g 128 nw)] H := hP
            have hD : va_D A [((q 32), aI g 160 sk), (h0, .inr (10, mob q rf n mm mb u48.1 u48.2.1 av ev wi mn tp tc sc nf fd me mp xn mt wh u48.2.2 ag an ig)), ((q 47), aI g 128 nw)] := hD
            have hP : va_P g.1 classes [(h0, .inr (10, mob q rf n mm mb u48.1 u48.2.1 av ev wi mn tp tc sc nf fd me mp xn mt wh u48.2.2 ag an ig)), ((q 32), aI g 160 sk), ((q 47), aI g 128 nw)] H := hP.sub [1, 0, 2] rfl
            have hD : va_D A [(h0, .inr (10, mob q rf n mm mb u48.1 u48.2.1 av ev wi mn tp tc sc nf fd me mp xn mt wh u48.2.2 ag an ig)), ((q 32), aI g 160 sk), ((q 47), aI g 128 nw)] := hD.sub [1, 0, 2] (by decide) rfl
            obtain ⟨hp48_0, hp48_1, hp48_2⟩ := hr47
            refine lv_aload_n hx hb d_Mod_reckon_78 rfl (lv_at hl 0 rfl) ?_
            refine lv_iconst (v := 2) hx hb d_Mod_reckon_79 (by decide) ?_
            refine tw_wv (wr := []) (tw_runV (ws := [(h0, .inr (10, mob q rf n mm mb u48.1 u48.2.1 av ev wi mn tp tc sc nf fd me mp xn mt wh u48.2.2 ag an ig)), ((q 32), aI g 160 sk), ((q 47), aI g 128 nw)]) (wc := [(h0, .inr (10, mob q rf n mm mb u48.1 u48.2.1 av ev wi mn tp tc sc nf fd me mp xn mt wh u48.2.2 ag an ig)), ((q 32), aI g 160 sk), ((q 47), aI g 128 nw)]) (As := [.int 2]) (rest := []) E hB hK hZ (g_Mod_give l g H.size h0 q rf n mm mb av ev wi mn tp tc sc nf fd me mp xn mt wh ag an ig sk u48.1 u48.2.1 u48.2.2 nw 2 s1 hNW (by omega) (by omega) hsk (by omega) (fun _ => by decide)) mc_Mod_give mi_Mod_give me_Mod_give wd_1648 hP hD hS hA [0, 1, 2] rfl (by decide) 0 rfl rfl rfl rfl rfl (by decide) rfl hl.1 rfl (Nat.le_of_ble_eq_true rfl) (by decide) d_Mod_reckon_80) hP hD hS hA [0, 1, 2] [] rfl rfl (by decide) (by decide) (fun u50 H locs hr49 hP hD hS => ?_)
            try dsimp only at hr49
            have hP : va_P g.1 classes [(h0, .inr (10, mob q rf n mm mb u50.1 u50.2.1 av ev wi mn tp tc sc nf fd me mp xn mt wh u50.2.2.1 ag an ig)), ((q 32), aI g 160 sk), ((q 47), aI g 128 u50.2.2.2)] H := hP
            have hD : va_D A [(h0, .inr (10, mob q rf n mm mb u50.1 u50.2.1 av ev wi mn tp tc sc nf fd me mp xn mt wh u50.2.2.1 ag an ig)), ((q 32), aI g 160 sk), ((q 47), aI g 128 u50.2.2.2)] := hD
            have hP : va_P g.1 classes [(h0, .inr (10, mob q rf n mm mb u50.1 u50.2.1 av ev wi mn tp tc sc nf fd me mp xn mt wh u50.2.2.1 ag an ig)), ((q 32), aI g 160 sk), ((q 47), aI g 128 u50.2.2.2)] H := hP.sub [0, 1, 2] rfl
            have hD : va_D A [(h0, .inr (10, mob q rf n mm mb u50.1 u50.2.1 av ev wi mn tp tc sc nf fd me mp xn mt wh u50.2.2.1 ag an ig)), ((q 32), aI g 160 sk), ((q 47), aI g 128 u50.2.2.2)] := hD.sub [0, 1, 2] (by decide) rfl
            obtain ⟨hp50_0, hp50_1, hp50_2⟩ := hr49
            refine lv_goto (tgt := 157) hx hb d_Mod_reckon_83 (by decide) ?_
            exact tw_vret E hS (u50.1, u50.2.1, u50.2.2.1, u50.2.2.2) (⟨(fun h => (fun h => (fun h => (fun h => h) (hp46_0 h)) (hp48_0 h)) (hp50_0 h)), (by first | omega | (dsimp only <;> omega)), hp50_2⟩) hP hD d_Mod_reckon_157
    · refine lv_aload_n hx hb d_Mod_reckon_32 rfl (lv_at hl 0 rfl) ?_
      refine lv_iconst (v := 2) hx hb d_Mod_reckon_33 (by decide) ?_
      refine tw_wv (wr := [((q 32), aI g 160 sk)]) (tw_runV (ws := [(h0, .inr (10, mob q rf n mm mb fa fp av ev wi mn tp tc sc nf fd me mp xn mt wh tq ag an ig)), ((q 32), aI g 160 sk), ((q 47), aI g 128 nw)]) (wc := [(h0, .inr (10, mob q rf n mm mb fa fp av ev wi mn tp tc sc nf fd me mp xn mt wh tq ag an ig)), ((q 47), aI g 128 nw)]) (As := [.int 2]) (rest := []) E hB hK hZ (g_Mod_take l g H.size h0 q rf n mm mb av ev wi mn tp tc sc nf fd me mp xn mt wh ag an ig nw fa fp tq 2 hNW (by omega)) mc_Mod_take mi_Mod_take me_Mod_take wd_1668 hP hD hS hA [0, 2] rfl (by decide) 0 rfl rfl rfl rfl rfl (by decide) rfl hl.1 rfl (Nat.le_of_ble_eq_true rfl) (by decide) d_Mod_reckon_34) hP hD hS hA [0, 2] [1] rfl rfl (by decide) (by decide) (fun u52 H locs hr51 hP hD hS => ?_)
      try dsimp only at hr51
      have hP : va_P g.1 classes [((q 32), aI g 160 sk), (h0, .inr (10, mob q rf n mm mb u52.1 u52.2.1 av ev wi mn tp tc sc nf fd me mp xn mt wh u52.2.2 ag an ig)), ((q 47), aI g 128 nw)] H := hP
      have hD : va_D A [((q 32), aI g 160 sk), (h0, .inr (10, mob q rf n mm mb u52.1 u52.2.1 av ev wi mn tp tc sc nf fd me mp xn mt wh u52.2.2 ag an ig)), ((q 47), aI g 128 nw)] := hD
      have hP : va_P g.1 classes [(h0, .inr (10, mob q rf n mm mb u52.1 u52.2.1 av ev wi mn tp tc sc nf fd me mp xn mt wh u52.2.2 ag an ig)), ((q 32), aI g 160 sk), ((q 47), aI g 128 nw)] H := hP.sub [1, 0, 2] rfl
      have hD : va_D A [(h0, .inr (10, mob q rf n mm mb u52.1 u52.2.1 av ev wi mn tp tc sc nf fd me mp xn mt wh u52.2.2 ag an ig)), ((q 32), aI g 160 sk), ((q 47), aI g 128 nw)] := hD.sub [1, 0, 2] (by decide) rfl
      obtain ⟨hp52_0, hp52_1, hp52_2⟩ := hr51
      refine lv_aload_n hx hb d_Mod_reckon_37 rfl (lv_at hl 0 rfl) ?_
      refine lv_iconst (v := 2) hx hb d_Mod_reckon_38 (by decide) ?_
      refine tw_wv (wr := [((q 32), aI g 160 sk)]) (tw_runV (ws := [(h0, .inr (10, mob q rf n mm mb u52.1 u52.2.1 av ev wi mn tp tc sc nf fd me mp xn mt wh u52.2.2 ag an ig)), ((q 32), aI g 160 sk), ((q 47), aI g 128 nw)]) (wc := [(h0, .inr (10, mob q rf n mm mb u52.1 u52.2.1 av ev wi mn tp tc sc nf fd me mp xn mt wh u52.2.2 ag an ig)), ((q 47), aI g 128 nw)]) (As := [.int 2]) (rest := []) E hB hK hZ (g_Mod_take l g H.size h0 q rf n mm mb av ev wi mn tp tc sc nf fd me mp xn mt wh ag an ig nw u52.1 u52.2.1 u52.2.2 2 hNW (by omega)) mc_Mod_take mi_Mod_take me_Mod_take wd_1668 hP hD hS hA [0, 2] rfl (by decide) 0 rfl rfl rfl rfl rfl (by decide) rfl hl.1 rfl (Nat.le_of_ble_eq_true rfl) (by decide) d_Mod_reckon_39) hP hD hS hA [0, 2] [1] rfl rfl (by decide) (by decide) (fun u54 H locs hr53 hP hD hS => ?_)
      try dsimp only at hr53
      have hP : va_P g.1 classes [((q 32), aI g 160 sk), (h0, .inr (10, mob q rf n mm mb u54.1 u54.2.1 av ev wi mn tp tc sc nf fd me mp xn mt wh u54.2.2 ag an ig)), ((q 47), aI g 128 nw)] H := hP
      have hD : va_D A [((q 32), aI g 160 sk), (h0, .inr (10, mob q rf n mm mb u54.1 u54.2.1 av ev wi mn tp tc sc nf fd me mp xn mt wh u54.2.2 ag an ig)), ((q 47), aI g 128 nw)] := hD
      have hP : va_P g.1 classes [(h0, .inr (10, mob q rf n mm mb u54.1 u54.2.1 av ev wi mn tp tc sc nf fd me mp xn mt wh u54.2.2 ag an ig)), ((q 32), aI g 160 sk), ((q 47), aI g 128 nw)] H := hP.sub [1, 0, 2] rfl
      have hD : va_D A [(h0, .inr (10, mob q rf n mm mb u54.1 u54.2.1 av ev wi mn tp tc sc nf fd me mp xn mt wh u54.2.2 ag an ig)), ((q 32), aI g 160 sk), ((q 47), aI g 128 nw)] := hD.sub [1, 0, 2] (by decide) rfl
      obtain ⟨hp54_0, hp54_1, hp54_2⟩ := hr53
      refine lv_aload_n hx hb d_Mod_reckon_42 rfl (lv_at hl 0 rfl) ?_
      refine lv_iconst (v := 2) hx hb d_Mod_reckon_43 (by decide) ?_
      refine tw_wv (wr := []) (tw_runV (ws := [(h0, .inr (10, mob q rf n mm mb u54.1 u54.2.1 av ev wi mn tp tc sc nf fd me mp xn mt wh u54.2.2 ag an ig)), ((q 32), aI g 160 sk), ((q 47), aI g 128 nw)]) (wc := [(h0, .inr (10, mob q rf n mm mb u54.1 u54.2.1 av ev wi mn tp tc sc nf fd me mp xn mt wh u54.2.2 ag an ig)), ((q 32), aI g 160 sk), ((q 47), aI g 128 nw)]) (As := [.int 2]) (rest := []) E hB hK hZ (g_Mod_give l g H.size h0 q rf n mm mb av ev wi mn tp tc sc nf fd me mp xn mt wh ag an ig sk u54.1 u54.2.1 u54.2.2 nw 2 s1 hNW (by omega) (by omega) hsk (by omega) (fun _ => by decide)) mc_Mod_give mi_Mod_give me_Mod_give wd_1648 hP hD hS hA [0, 1, 2] rfl (by decide) 0 rfl rfl rfl rfl rfl (by decide) rfl hl.1 rfl (Nat.le_of_ble_eq_true rfl) (by decide) d_Mod_reckon_44) hP hD hS hA [0, 1, 2] [] rfl rfl (by decide) (by decide) (fun u56 H locs hr55 hP hD hS => ?_)
      try dsimp only at hr55
      have hP : va_P g.1 classes [(h0, .inr (10, mob q rf n mm mb u56.1 u56.2.1 av ev wi mn tp tc sc nf fd me mp xn mt wh u56.2.2.1 ag an ig)), ((q 32), aI g 160 sk), ((q 47), aI g 128 u56.2.2.2)] H := hP
      have hD : va_D A [(h0, .inr (10, mob q rf n mm mb u56.1 u56.2.1 av ev wi mn tp tc sc nf fd me mp xn mt wh u56.2.2.1 ag an ig)), ((q 32), aI g 160 sk), ((q 47), aI g 128 u56.2.2.2)] := hD
      have hP : va_P g.1 classes [(h0, .inr (10, mob q rf n mm mb u56.1 u56.2.1 av ev wi mn tp tc sc nf fd me mp xn mt wh u56.2.2.1 ag an ig)), ((q 32), aI g 160 sk), ((q 47), aI g 128 u56.2.2.2)] H := hP.sub [0, 1, 2] rfl
      have hD : va_D A [(h0, .inr (10, mob q rf n mm mb u56.1 u56.2.1 av ev wi mn tp tc sc nf fd me mp xn mt wh u56.2.2.1 ag an ig)), ((q 32), aI g 160 sk), ((q 47), aI g 128 u56.2.2.2)] := hD.sub [0, 1, 2] (by decide) rfl
      obtain ⟨hp56_0, hp56_1, hp56_2⟩ := hr55
      refine lv_goto (tgt := 157) hx hb d_Mod_reckon_47 (by decide) ?_
      exact tw_vret E hS (u56.1, u56.2.1, u56.2.2.1, u56.2.2.2) (⟨(fun h => (fun h => (fun h => (fun h => h) (hp52_0 h)) (hp54_0 h)) (hp56_0 h)), (by first | omega | (dsimp only <;> omega)), hp56_2⟩) hP hD d_Mod_reckon_157
  · refine lv_aload_n hx hb d_Mod_reckon_7 rfl (lv_at hl 0 rfl) ?_
    refine lv_iconst (v := 1) hx hb d_Mod_reckon_8 (by decide) ?_
    refine tw_wv (wr := [((q 32), aI g 160 sk)]) (tw_runV (ws := [(h0, .inr (10, mob q rf n mm mb fa fp av ev wi mn tp tc sc nf fd me mp xn mt wh tq ag an ig)), ((q 32), aI g 160 sk), ((q 47), aI g 128 nw)]) (wc := [(h0, .inr (10, mob q rf n mm mb fa fp av ev wi mn tp tc sc nf fd me mp xn mt wh tq ag an ig)), ((q 47), aI g 128 nw)]) (As := [.int 1]) (rest := []) E hB hK hZ (g_Mod_take l g H.size h0 q rf n mm mb av ev wi mn tp tc sc nf fd me mp xn mt wh ag an ig nw fa fp tq 1 hNW (by omega)) mc_Mod_take mi_Mod_take me_Mod_take wd_1668 hP hD hS hA [0, 2] rfl (by decide) 0 rfl rfl rfl rfl rfl (by decide) rfl hl.1 rfl (Nat.le_of_ble_eq_true rfl) (by decide) d_Mod_reckon_9) hP hD hS hA [0, 2] [1] rfl rfl (by decide) (by decide) (fun u58 H locs hr57 hP hD hS => ?_)
    try dsimp only at hr57
    have hP : va_P g.1 classes [((q 32), aI g 160 sk), (h0, .inr (10, mob q rf n mm mb u58.1 u58.2.1 av ev wi mn tp tc sc nf fd me mp xn mt wh u58.2.2 ag an ig)), ((q 47), aI g 128 nw)] H := hP
    have hD : va_D A [((q 32), aI g 160 sk), (h0, .inr (10, mob q rf n mm mb u58.1 u58.2.1 av ev wi mn tp tc sc nf fd me mp xn mt wh u58.2.2 ag an ig)), ((q 47), aI g 128 nw)] := hD
    have hP : va_P g.1 classes [(h0, .inr (10, mob q rf n mm mb u58.1 u58.2.1 av ev wi mn tp tc sc nf fd me mp xn mt wh u58.2.2 ag an ig)), ((q 32), aI g 160 sk), ((q 47), aI g 128 nw)] H := hP.sub [1, 0, 2] rfl
    have hD : va_D A [(h0, .inr (10, mob q rf n mm mb u58.1 u58.2.1 av ev wi mn tp tc sc nf fd me mp xn mt wh u58.2.2 ag an ig)), ((q 32), aI g 160 sk), ((q 47), aI g 128 nw)] := hD.sub [1, 0, 2] (by decide) rfl
    obtain ⟨hp58_0, hp58_1, hp58_2⟩ := hr57
    refine lv_aload_n hx hb d_Mod_reckon_12 rfl (lv_at hl 0 rfl) ?_
    refine lv_iconst (v := 1) hx hb d_Mod_reckon_13 (by decide) ?_
    refine tw_wv (wr := [((q 32), aI g 160 sk)]) (tw_runV (ws := [(h0, .inr (10, mob q rf n mm mb u58.1 u58.2.1 av ev wi mn tp tc sc nf fd me mp xn mt wh u58.2.2 ag an ig)), ((q 32), aI g 160 sk), ((q 47), aI g 128 nw)]) (wc := [(h0, .inr (10, mob q rf n mm mb u58.1 u58.2.1 av ev wi mn tp tc sc nf fd me mp xn mt wh u58.2.2 ag an ig)), ((q 47), aI g 128 nw)]) (As := [.int 1]) (rest := []) E hB hK hZ (g_Mod_take l g H.size h0 q rf n mm mb av ev wi mn tp tc sc nf fd me mp xn mt wh ag an ig nw u58.1 u58.2.1 u58.2.2 1 hNW (by omega)) mc_Mod_take mi_Mod_take me_Mod_take wd_1668 hP hD hS hA [0, 2] rfl (by decide) 0 rfl rfl rfl rfl rfl (by decide) rfl hl.1 rfl (Nat.le_of_ble_eq_true rfl) (by decide) d_Mod_reckon_14) hP hD hS hA [0, 2] [1] rfl rfl (by decide) (by decide) (fun u60 H locs hr59 hP hD hS => ?_)
    try dsimp only at hr59
    have hP : va_P g.1 classes [((q 32), aI g 160 sk), (h0, .inr (10, mob q rf n mm mb u60.1 u60.2.1 av ev wi mn tp tc sc nf fd me mp xn mt wh u60.2.2 ag an ig)), ((q 47), aI g 128 nw)] H := hP
    have hD : va_D A [((q 32), aI g 160 sk), (h0, .inr (10, mob q rf n mm mb u60.1 u60.2.1 av ev wi mn tp tc sc nf fd me mp xn mt wh u60.2.2 ag an ig)), ((q 47), aI g 128 nw)] := hD
    have hP : va_P g.1 classes [(h0, .inr (10, mob q rf n mm mb u60.1 u60.2.1 av ev wi mn tp tc sc nf fd me mp xn mt wh u60.2.2 ag an ig)), ((q 32), aI g 160 sk), ((q 47), aI g 128 nw)] H := hP.sub [1, 0, 2] rfl
    have hD : va_D A [(h0, .inr (10, mob q rf n mm mb u60.1 u60.2.1 av ev wi mn tp tc sc nf fd me mp xn mt wh u60.2.2 ag an ig)), ((q 32), aI g 160 sk), ((q 47), aI g 128 nw)] := hD.sub [1, 0, 2] (by decide) rfl
    obtain ⟨hp60_0, hp60_1, hp60_2⟩ := hr59
    refine lv_aload_n hx hb d_Mod_reckon_17 rfl (lv_at hl 0 rfl) ?_
    refine lv_iconst (v := 1) hx hb d_Mod_reckon_18 (by decide) ?_
    refine tw_wv (wr := []) (tw_runV (ws := [(h0, .inr (10, mob q rf n mm mb u60.1 u60.2.1 av ev wi mn tp tc sc nf fd me mp xn mt wh u60.2.2 ag an ig)), ((q 32), aI g 160 sk), ((q 47), aI g 128 nw)]) (wc := [(h0, .inr (10, mob q rf n mm mb u60.1 u60.2.1 av ev wi mn tp tc sc nf fd me mp xn mt wh u60.2.2 ag an ig)), ((q 32), aI g 160 sk), ((q 47), aI g 128 nw)]) (As := [.int 1]) (rest := []) E hB hK hZ (g_Mod_give l g H.size h0 q rf n mm mb av ev wi mn tp tc sc nf fd me mp xn mt wh ag an ig sk u60.1 u60.2.1 u60.2.2 nw 1 s1 hNW (by omega) (by omega) hsk (by omega) (fun _ => by decide)) mc_Mod_give mi_Mod_give me_Mod_give wd_1648 hP hD hS hA [0, 1, 2] rfl (by decide) 0 rfl rfl rfl rfl rfl (by decide) rfl hl.1 rfl (Nat.le_of_ble_eq_true rfl) (by decide) d_Mod_reckon_19) hP hD hS hA [0, 1, 2] [] rfl rfl (by decide) (by decide) (fun u62 H locs hr61 hP hD hS => ?_)
    try dsimp only at hr61
    have hP : va_P g.1 classes [(h0, .inr (10, mob q rf n mm mb u62.1 u62.2.1 av ev wi mn tp tc sc nf fd me mp xn mt wh u62.2.2.1 ag an ig)), ((q 32), aI g 160 sk), ((q 47), aI g 128 u62.2.2.2)] H := hP
    have hD : va_D A [(h0, .inr (10, mob q rf n mm mb u62.1 u62.2.1 av ev wi mn tp tc sc nf fd me mp xn mt wh u62.2.2.1 ag an ig)), ((q 32), aI g 160 sk), ((q 47), aI g 128 u62.2.2.2)] := hD
    have hP : va_P g.1 classes [(h0, .inr (10, mob q rf n mm mb u62.1 u62.2.1 av ev wi mn tp tc sc nf fd me mp xn mt wh u62.2.2.1 ag an ig)), ((q 32), aI g 160 sk), ((q 47), aI g 128 u62.2.2.2)] H := hP.sub [0, 1, 2] rfl
    have hD : va_D A [(h0, .inr (10, mob q rf n mm mb u62.1 u62.2.1 av ev wi mn tp tc sc nf fd me mp xn mt wh u62.2.2.1 ag an ig)), ((q 32), aI g 160 sk), ((q 47), aI g 128 u62.2.2.2)] := hD.sub [0, 1, 2] (by decide) rfl
    obtain ⟨hp62_0, hp62_1, hp62_2⟩ := hr61
    refine lv_goto (tgt := 157) hx hb d_Mod_reckon_22 (by decide) ?_
    exact tw_vret E hS (u62.1, u62.2.1, u62.2.2.1, u62.2.2.2) (⟨(fun h => (fun h => (fun h => (fun h => h) (hp58_0 h)) (hp60_0 h)) (hp62_0 h)), (by first | omega | (dsimp only <;> omega)), hp62_2⟩) hP hD d_Mod_reckon_157
end
section
theorem nI_mod4 : ∀ a, a < 64 → nI a - nI a / 4 * 4 = nI (a % 4) := by decide +kernel
theorem fo_20 {c n : Nat} (h : fof (nI c) = nI n) (hc : nI c = 20) (hn : n ≤ 2) : n = 2 := by
  rw [hc] at h
  have e : fof 20 = nI 2 := by decide
  exact (tn_eq (e.symm.trans h) (by decide) (by omega)).symm
theorem fo_132 {c n : Nat} (h : fof (nI c) = nI n) (hc : nI c = 132) (hn : n ≤ 2) : n = 2 := by
  rw [hc] at h
  have e : fof 132 = nI 2 := by decide
  exact (tn_eq (e.symm.trans h) (by decide) (by omega)).symm
end
section
theorem d_Mod_simple_0 : decode b_Mod_simple 0 = .ok (.aload_n 0, 1) := by decide +kernel
theorem d_Mod_simple_1 : decode b_Mod_simple 1 = .ok (.getfield 309, 3) := by decide +kernel
theorem d_Mod_simple_4 : decode b_Mod_simple 4 = .ok (.iconst 1, 1) := by decide +kernel
theorem d_Mod_simple_5 : decode b_Mod_simple 5 = .ok (.iadd, 1) := by decide +kernel
theorem d_Mod_simple_6 : decode b_Mod_simple 6 = .ok (.sipush 600, 3) := by decide +kernel
theorem d_Mod_simple_9 : decode b_Mod_simple 9 = .ok (.if_icmp .ge 17, 3) := by decide +kernel
theorem d_Mod_simple_12 : decode b_Mod_simple 12 = .ok (.aload_n 0, 1) := by decide +kernel
theorem d_Mod_simple_13 : decode b_Mod_simple 13 = .ok (.getfield 7, 3) := by decide +kernel
theorem d_Mod_simple_16 : decode b_Mod_simple 16 = .ok (.aload_n 0, 1) := by decide +kernel
theorem d_Mod_simple_17 : decode b_Mod_simple 17 = .ok (.getfield 309, 3) := by decide +kernel
theorem d_Mod_simple_20 : decode b_Mod_simple 20 = .ok (.iconst 1, 1) := by decide +kernel
theorem d_Mod_simple_21 : decode b_Mod_simple 21 = .ok (.iadd, 1) := by decide +kernel
theorem d_Mod_simple_22 : decode b_Mod_simple 22 = .ok (.iaload, 1) := by decide +kernel
theorem d_Mod_simple_23 : decode b_Mod_simple 23 = .ok (.goto 4, 3) := by decide +kernel
theorem d_Mod_simple_26 : decode b_Mod_simple 26 = .ok (.iconst 0, 1) := by decide +kernel
theorem d_Mod_simple_27 : decode b_Mod_simple 27 = .ok (.istore_n 2, 1) := by decide +kernel
theorem d_Mod_simple_28 : decode b_Mod_simple 28 = .ok (.iload_n 1, 1) := by decide +kernel
theorem d_Mod_simple_29 : decode b_Mod_simple 29 = .ok (.iconst 1, 1) := by decide +kernel
theorem d_Mod_simple_30 : decode b_Mod_simple 30 = .ok (.if_icmp .ne 11, 3) := by decide +kernel
theorem d_Mod_simple_33 : decode b_Mod_simple 33 = .ok (.aload_n 0, 1) := by decide +kernel
theorem d_Mod_simple_34 : decode b_Mod_simple 34 = .ok (.iconst 4, 1) := by decide +kernel
theorem d_Mod_simple_35 : decode b_Mod_simple 35 = .ok (.invokevirtual 321, 3) := by decide +kernel
theorem d_Mod_simple_38 : decode b_Mod_simple 38 = .ok (.goto 361, 3) := by decide +kernel
theorem d_Mod_simple_41 : decode b_Mod_simple 41 = .ok (.iload_n 1, 1) := by decide +kernel
theorem d_Mod_simple_42 : decode b_Mod_simple 42 = .ok (.iconst 2, 1) := by decide +kernel
theorem d_Mod_simple_43 : decode b_Mod_simple 43 = .ok (.bipush 8, 2) := by decide +kernel
theorem d_Mod_simple_45 : decode b_Mod_simple 45 = .ok (.invokestatic 136, 3) := by decide +kernel
theorem d_Mod_simple_48 : decode b_Mod_simple 48 = .ok (.ifCond .ne 15, 3) := by decide +kernel
theorem d_Mod_simple_51 : decode b_Mod_simple 51 = .ok (.iload_n 1, 1) := by decide +kernel
theorem d_Mod_simple_52 : decode b_Mod_simple 52 = .ok (.bipush 16, 2) := by decide +kernel
theorem d_Mod_simple_54 : decode b_Mod_simple 54 = .ok (.if_icmp .eq 9, 3) := by decide +kernel
theorem d_Mod_simple_57 : decode b_Mod_simple 57 = .ok (.iload_n 1, 1) := by decide +kernel
theorem d_Mod_simple_58 : decode b_Mod_simple 58 = .ok (.bipush 17, 2) := by decide +kernel
theorem d_Mod_simple_60 : decode b_Mod_simple 60 = .ok (.if_icmp .ne 11, 3) := by decide +kernel
theorem d_Mod_simple_63 : decode b_Mod_simple 63 = .ok (.aload_n 0, 1) := by decide +kernel
theorem d_Mod_simple_64 : decode b_Mod_simple 64 = .ok (.iconst 1, 1) := by decide +kernel
theorem d_Mod_simple_65 : decode b_Mod_simple 65 = .ok (.invokevirtual 321, 3) := by decide +kernel
theorem d_Mod_simple_68 : decode b_Mod_simple 68 = .ok (.goto 331, 3) := by decide +kernel
theorem d_Mod_simple_71 : decode b_Mod_simple 71 = .ok (.iload_n 1, 1) := by decide +kernel
theorem d_Mod_simple_72 : decode b_Mod_simple 72 = .ok (.bipush 9, 2) := by decide +kernel
theorem d_Mod_simple_74 : decode b_Mod_simple 74 = .ok (.if_icmp .eq 9, 3) := by decide +kernel
theorem d_Mod_simple_77 : decode b_Mod_simple 77 = .ok (.iload_n 1, 1) := by decide +kernel
theorem d_Mod_simple_78 : decode b_Mod_simple 78 = .ok (.bipush 10, 2) := by decide +kernel
theorem d_Mod_simple_80 : decode b_Mod_simple 80 = .ok (.if_icmp .ne 11, 3) := by decide +kernel
theorem d_Mod_simple_83 : decode b_Mod_simple 83 = .ok (.aload_n 0, 1) := by decide +kernel
theorem d_Mod_simple_84 : decode b_Mod_simple 84 = .ok (.iconst 2, 1) := by decide +kernel
theorem d_Mod_simple_85 : decode b_Mod_simple 85 = .ok (.invokevirtual 321, 3) := by decide +kernel
theorem d_Mod_simple_88 : decode b_Mod_simple 88 = .ok (.goto 311, 3) := by decide +kernel
theorem d_Mod_simple_91 : decode b_Mod_simple 91 = .ok (.iload_n 1, 1) := by decide +kernel
theorem d_Mod_simple_92 : decode b_Mod_simple 92 = .ok (.bipush 18, 2) := by decide +kernel
theorem d_Mod_simple_94 : decode b_Mod_simple 94 = .ok (.if_icmp .ne 52, 3) := by decide +kernel
theorem d_Mod_simple_97 : decode b_Mod_simple 97 = .ok (.aload_n 0, 1) := by decide +kernel
theorem d_Mod_simple_98 : decode b_Mod_simple 98 = .ok (.aload_n 0, 1) := by decide +kernel
theorem d_Mod_simple_99 : decode b_Mod_simple 99 = .ok (.iload_n 2, 1) := by decide +kernel
theorem d_Mod_simple_100 : decode b_Mod_simple 100 = .ok (.iconst 3, 1) := by decide +kernel
theorem d_Mod_simple_101 : decode b_Mod_simple 101 = .ok (.invokevirtual 184, 3) := by decide +kernel
theorem d_Mod_simple_104 : decode b_Mod_simple 104 = .ok (.ifCond .ne 13, 3) := by decide +kernel
theorem d_Mod_simple_107 : decode b_Mod_simple 107 = .ok (.aload_n 0, 1) := by decide +kernel
theorem d_Mod_simple_108 : decode b_Mod_simple 108 = .ok (.iload_n 2, 1) := by decide +kernel
theorem d_Mod_simple_109 : decode b_Mod_simple 109 = .ok (.bipush 8, 2) := by decide +kernel
theorem d_Mod_simple_111 : decode b_Mod_simple 111 = .ok (.invokevirtual 184, 3) := by decide +kernel
theorem d_Mod_simple_114 : decode b_Mod_simple 114 = .ok (.ifCond .eq 7, 3) := by decide +kernel
theorem d_Mod_simple_117 : decode b_Mod_simple 117 = .ok (.iconst 1, 1) := by decide +kernel
theorem d_Mod_simple_118 : decode b_Mod_simple 118 = .ok (.goto 4, 3) := by decide +kernel
theorem d_Mod_simple_121 : decode b_Mod_simple 121 = .ok (.iconst 0, 1) := by decide +kernel
theorem d_Mod_simple_122 : decode b_Mod_simple 122 = .ok (.invokevirtual 330, 3) := by decide +kernel
theorem d_Mod_simple_125 : decode b_Mod_simple 125 = .ok (.aload_n 0, 1) := by decide +kernel
theorem d_Mod_simple_126 : decode b_Mod_simple 126 = .ok (.aload_n 0, 1) := by decide +kernel
theorem d_Mod_simple_127 : decode b_Mod_simple 127 = .ok (.iload_n 2, 1) := by decide +kernel
theorem d_Mod_simple_128 : decode b_Mod_simple 128 = .ok (.iconst 3, 1) := by decide +kernel
theorem d_Mod_simple_129 : decode b_Mod_simple 129 = .ok (.invokevirtual 184, 3) := by decide +kernel
theorem d_Mod_simple_132 : decode b_Mod_simple 132 = .ok (.ifCond .eq 7, 3) := by decide +kernel
theorem d_Mod_simple_135 : decode b_Mod_simple 135 = .ok (.iconst 1, 1) := by decide +kernel
theorem d_Mod_simple_136 : decode b_Mod_simple 136 = .ok (.goto 4, 3) := by decide +kernel
theorem d_Mod_simple_139 : decode b_Mod_simple 139 = .ok (.iconst 4, 1) := by decide +kernel
theorem d_Mod_simple_140 : decode b_Mod_simple 140 = .ok (.invokevirtual 321, 3) := by decide +kernel
theorem d_Mod_simple_143 : decode b_Mod_simple 143 = .ok (.goto 256, 3) := by decide +kernel
theorem d_Mod_simple_146 : decode b_Mod_simple 146 = .ok (.iload_n 1, 1) := by decide +kernel
theorem d_Mod_simple_147 : decode b_Mod_simple 147 = .ok (.bipush 20, 2) := by decide +kernel
theorem d_Mod_simple_149 : decode b_Mod_simple 149 = .ok (.if_icmp .ne 30, 3) := by decide +kernel
theorem d_Mod_simple_152 : decode b_Mod_simple 152 = .ok (.aload_n 0, 1) := by decide +kernel
theorem d_Mod_simple_153 : decode b_Mod_simple 153 = .ok (.aload_n 0, 1) := by decide +kernel
theorem d_Mod_simple_154 : decode b_Mod_simple 154 = .ok (.aload_n 0, 1) := by decide +kernel
theorem d_Mod_simple_155 : decode b_Mod_simple 155 = .ok (.aload_n 0, 1) := by decide +kernel
theorem d_Mod_simple_156 : decode b_Mod_simple 156 = .ok (.getfield 309, 3) := by decide +kernel
theorem d_Mod_simple_159 : decode b_Mod_simple 159 = .ok (.iconst 1, 1) := by decide +kernel
theorem d_Mod_simple_160 : decode b_Mod_simple 160 = .ok (.iadd, 1) := by decide +kernel
theorem d_Mod_simple_161 : decode b_Mod_simple 161 = .ok (.invokevirtual 294, 3) := by decide +kernel
theorem d_Mod_simple_164 : decode b_Mod_simple 164 = .ok (.iconst 5, 1) := by decide +kernel
theorem d_Mod_simple_165 : decode b_Mod_simple 165 = .ok (.invokevirtual 184, 3) := by decide +kernel
theorem d_Mod_simple_168 : decode b_Mod_simple 168 = .ok (.invokevirtual 330, 3) := by decide +kernel
theorem d_Mod_simple_171 : decode b_Mod_simple 171 = .ok (.aload_n 0, 1) := by decide +kernel
theorem d_Mod_simple_172 : decode b_Mod_simple 172 = .ok (.iconst 2, 1) := by decide +kernel
theorem d_Mod_simple_173 : decode b_Mod_simple 173 = .ok (.invokevirtual 321, 3) := by decide +kernel
theorem d_Mod_simple_176 : decode b_Mod_simple 176 = .ok (.goto 223, 3) := by decide +kernel
theorem d_Mod_simple_179 : decode b_Mod_simple 179 = .ok (.iload_n 1, 1) := by decide +kernel
theorem d_Mod_simple_180 : decode b_Mod_simple 180 = .ok (.bipush 21, 2) := by decide +kernel
theorem d_Mod_simple_182 : decode b_Mod_simple 182 = .ok (.if_icmp .eq 15, 3) := by decide +kernel
theorem d_Mod_simple_185 : decode b_Mod_simple 185 = .ok (.iload_n 1, 1) := by decide +kernel
theorem d_Mod_simple_186 : decode b_Mod_simple 186 = .ok (.bipush 22, 2) := by decide +kernel
theorem d_Mod_simple_188 : decode b_Mod_simple 188 = .ok (.if_icmp .eq 9, 3) := by decide +kernel
theorem d_Mod_simple_191 : decode b_Mod_simple 191 = .ok (.iload_n 1, 1) := by decide +kernel
theorem d_Mod_simple_192 : decode b_Mod_simple 192 = .ok (.bipush 25, 2) := by decide +kernel
theorem d_Mod_simple_194 : decode b_Mod_simple 194 = .ok (.if_icmp .ne 32, 3) := by decide +kernel
theorem d_Mod_simple_197 : decode b_Mod_simple 197 = .ok (.aload_n 0, 1) := by decide +kernel
theorem d_Mod_simple_198 : decode b_Mod_simple 198 = .ok (.iload_n 2, 1) := by decide +kernel
theorem d_Mod_simple_199 : decode b_Mod_simple 199 = .ok (.iload_n 1, 1) := by decide +kernel
theorem d_Mod_simple_200 : decode b_Mod_simple 200 = .ok (.bipush 21, 2) := by decide +kernel
theorem d_Mod_simple_202 : decode b_Mod_simple 202 = .ok (.if_icmp .ne 7, 3) := by decide +kernel
theorem d_Mod_simple_205 : decode b_Mod_simple 205 = .ok (.iconst 1, 1) := by decide +kernel
theorem d_Mod_simple_206 : decode b_Mod_simple 206 = .ok (.goto 14, 3) := by decide +kernel
theorem d_Mod_simple_209 : decode b_Mod_simple 209 = .ok (.iload_n 1, 1) := by decide +kernel
theorem d_Mod_simple_210 : decode b_Mod_simple 210 = .ok (.bipush 22, 2) := by decide +kernel
theorem d_Mod_simple_212 : decode b_Mod_simple 212 = .ok (.if_icmp .ne 7, 3) := by decide +kernel
theorem d_Mod_simple_215 : decode b_Mod_simple 215 = .ok (.iconst 2, 1) := by decide +kernel
theorem d_Mod_simple_216 : decode b_Mod_simple 216 = .ok (.goto 4, 3) := by decide +kernel
theorem d_Mod_simple_219 : decode b_Mod_simple 219 = .ok (.iconst 4, 1) := by decide +kernel
theorem d_Mod_simple_220 : decode b_Mod_simple 220 = .ok (.invokevirtual 339, 3) := by decide +kernel
theorem d_Mod_simple_223 : decode b_Mod_simple 223 = .ok (.goto 176, 3) := by decide +kernel
theorem d_Mod_simple_226 : decode b_Mod_simple 226 = .ok (.iload_n 1, 1) := by decide +kernel
theorem d_Mod_simple_227 : decode b_Mod_simple 227 = .ok (.bipush 26, 2) := by decide +kernel
theorem d_Mod_simple_229 : decode b_Mod_simple 229 = .ok (.bipush 33, 2) := by decide +kernel
theorem d_Mod_simple_231 : decode b_Mod_simple 231 = .ok (.invokestatic 136, 3) := by decide +kernel
theorem d_Mod_simple_234 : decode b_Mod_simple 234 = .ok (.ifCond .eq 27, 3) := by decide +kernel
theorem d_Mod_simple_237 : decode b_Mod_simple 237 = .ok (.aload_n 0, 1) := by decide +kernel
theorem d_Mod_simple_238 : decode b_Mod_simple 238 = .ok (.iload_n 1, 1) := by decide +kernel
theorem d_Mod_simple_239 : decode b_Mod_simple 239 = .ok (.bipush 26, 2) := by decide +kernel
theorem d_Mod_simple_241 : decode b_Mod_simple 241 = .ok (.isub, 1) := by decide +kernel
theorem d_Mod_simple_242 : decode b_Mod_simple 242 = .ok (.iconst 4, 1) := by decide +kernel
theorem d_Mod_simple_243 : decode b_Mod_simple 243 = .ok (.irem, 1) := by decide +kernel
theorem d_Mod_simple_244 : decode b_Mod_simple 244 = .ok (.iload_n 1, 1) := by decide +kernel
theorem d_Mod_simple_245 : decode b_Mod_simple 245 = .ok (.bipush 30, 2) := by decide +kernel
theorem d_Mod_simple_247 : decode b_Mod_simple 247 = .ok (.if_icmp .ge 7, 3) := by decide +kernel
theorem d_Mod_simple_250 : decode b_Mod_simple 250 = .ok (.iconst 1, 1) := by decide +kernel
theorem d_Mod_simple_251 : decode b_Mod_simple 251 = .ok (.goto 4, 3) := by decide +kernel
theorem d_Mod_simple_254 : decode b_Mod_simple 254 = .ok (.iconst 2, 1) := by decide +kernel
theorem d_Mod_simple_255 : decode b_Mod_simple 255 = .ok (.invokevirtual 339, 3) := by decide +kernel
theorem d_Mod_simple_258 : decode b_Mod_simple 258 = .ok (.goto 141, 3) := by decide +kernel
theorem d_Mod_simple_261 : decode b_Mod_simple 261 = .ok (.iload_n 1, 1) := by decide +kernel
theorem d_Mod_simple_262 : decode b_Mod_simple 262 = .ok (.bipush 42, 2) := by decide +kernel
theorem d_Mod_simple_264 : decode b_Mod_simple 264 = .ok (.bipush 45, 2) := by decide +kernel
theorem d_Mod_simple_266 : decode b_Mod_simple 266 = .ok (.invokestatic 136, 3) := by decide +kernel
theorem d_Mod_simple_269 : decode b_Mod_simple 269 = .ok (.ifCond .eq 15, 3) := by decide +kernel
theorem d_Mod_simple_272 : decode b_Mod_simple 272 = .ok (.aload_n 0, 1) := by decide +kernel
theorem d_Mod_simple_273 : decode b_Mod_simple 273 = .ok (.iload_n 1, 1) := by decide +kernel
theorem d_Mod_simple_274 : decode b_Mod_simple 274 = .ok (.bipush 42, 2) := by decide +kernel
theorem d_Mod_simple_276 : decode b_Mod_simple 276 = .ok (.isub, 1) := by decide +kernel
theorem d_Mod_simple_277 : decode b_Mod_simple 277 = .ok (.iconst 4, 1) := by decide +kernel
theorem d_Mod_simple_278 : decode b_Mod_simple 278 = .ok (.invokevirtual 339, 3) := by decide +kernel
theorem d_Mod_simple_281 : decode b_Mod_simple 281 = .ok (.goto 118, 3) := by decide +kernel
theorem d_Mod_simple_284 : decode b_Mod_simple 284 = .ok (.iload_n 1, 1) := by decide +kernel
theorem d_Mod_simple_285 : decode b_Mod_simple 285 = .ok (.bipush 54, 2) := by decide +kernel
theorem d_Mod_simple_287 : decode b_Mod_simple 287 = .ok (.if_icmp .eq 15, 3) := by decide +kernel
theorem d_Mod_simple_290 : decode b_Mod_simple 290 = .ok (.iload_n 1, 1) := by decide +kernel
theorem d_Mod_simple_291 : decode b_Mod_simple 291 = .ok (.bipush 55, 2) := by decide +kernel
theorem d_Mod_simple_293 : decode b_Mod_simple 293 = .ok (.if_icmp .eq 9, 3) := by decide +kernel
theorem d_Mod_simple_296 : decode b_Mod_simple 296 = .ok (.iload_n 1, 1) := by decide +kernel
theorem d_Mod_simple_297 : decode b_Mod_simple 297 = .ok (.bipush 58, 2) := by decide +kernel
theorem d_Mod_simple_299 : decode b_Mod_simple 299 = .ok (.if_icmp .ne 32, 3) := by decide +kernel
theorem d_Mod_simple_302 : decode b_Mod_simple 302 = .ok (.aload_n 0, 1) := by decide +kernel
theorem d_Mod_simple_303 : decode b_Mod_simple 303 = .ok (.iload_n 2, 1) := by decide +kernel
theorem d_Mod_simple_304 : decode b_Mod_simple 304 = .ok (.iload_n 1, 1) := by decide +kernel
theorem d_Mod_simple_305 : decode b_Mod_simple 305 = .ok (.bipush 54, 2) := by decide +kernel
theorem d_Mod_simple_307 : decode b_Mod_simple 307 = .ok (.if_icmp .ne 7, 3) := by decide +kernel
theorem d_Mod_simple_310 : decode b_Mod_simple 310 = .ok (.iconst 1, 1) := by decide +kernel
theorem d_Mod_simple_311 : decode b_Mod_simple 311 = .ok (.goto 14, 3) := by decide +kernel
theorem d_Mod_simple_314 : decode b_Mod_simple 314 = .ok (.iload_n 1, 1) := by decide +kernel
theorem d_Mod_simple_315 : decode b_Mod_simple 315 = .ok (.bipush 55, 2) := by decide +kernel
theorem d_Mod_simple_317 : decode b_Mod_simple 317 = .ok (.if_icmp .ne 7, 3) := by decide +kernel
theorem d_Mod_simple_320 : decode b_Mod_simple 320 = .ok (.iconst 2, 1) := by decide +kernel
theorem d_Mod_simple_321 : decode b_Mod_simple 321 = .ok (.goto 4, 3) := by decide +kernel
theorem d_Mod_simple_324 : decode b_Mod_simple 324 = .ok (.iconst 4, 1) := by decide +kernel
theorem d_Mod_simple_325 : decode b_Mod_simple 325 = .ok (.invokevirtual 342, 3) := by decide +kernel
theorem d_Mod_simple_328 : decode b_Mod_simple 328 = .ok (.goto 71, 3) := by decide +kernel
theorem d_Mod_simple_331 : decode b_Mod_simple 331 = .ok (.iload_n 1, 1) := by decide +kernel
theorem d_Mod_simple_332 : decode b_Mod_simple 332 = .ok (.bipush 59, 2) := by decide +kernel
theorem d_Mod_simple_334 : decode b_Mod_simple 334 = .ok (.bipush 66, 2) := by decide +kernel
theorem d_Mod_simple_336 : decode b_Mod_simple 336 = .ok (.invokestatic 136, 3) := by decide +kernel
theorem d_Mod_simple_339 : decode b_Mod_simple 339 = .ok (.ifCond .eq 27, 3) := by decide +kernel
theorem d_Mod_simple_342 : decode b_Mod_simple 342 = .ok (.aload_n 0, 1) := by decide +kernel
theorem d_Mod_simple_343 : decode b_Mod_simple 343 = .ok (.iload_n 1, 1) := by decide +kernel
theorem d_Mod_simple_344 : decode b_Mod_simple 344 = .ok (.bipush 59, 2) := by decide +kernel
theorem d_Mod_simple_346 : decode b_Mod_simple 346 = .ok (.isub, 1) := by decide +kernel
theorem d_Mod_simple_347 : decode b_Mod_simple 347 = .ok (.iconst 4, 1) := by decide +kernel
theorem d_Mod_simple_348 : decode b_Mod_simple 348 = .ok (.irem, 1) := by decide +kernel
theorem d_Mod_simple_349 : decode b_Mod_simple 349 = .ok (.iload_n 1, 1) := by decide +kernel
theorem d_Mod_simple_350 : decode b_Mod_simple 350 = .ok (.bipush 63, 2) := by decide +kernel
theorem d_Mod_simple_352 : decode b_Mod_simple 352 = .ok (.if_icmp .ge 7, 3) := by decide +kernel
theorem d_Mod_simple_355 : decode b_Mod_simple 355 = .ok (.iconst 1, 1) := by decide +kernel
theorem d_Mod_simple_356 : decode b_Mod_simple 356 = .ok (.goto 4, 3) := by decide +kernel
theorem d_Mod_simple_359 : decode b_Mod_simple 359 = .ok (.iconst 2, 1) := by decide +kernel
theorem d_Mod_simple_360 : decode b_Mod_simple 360 = .ok (.invokevirtual 342, 3) := by decide +kernel
theorem d_Mod_simple_363 : decode b_Mod_simple 363 = .ok (.goto 36, 3) := by decide +kernel
theorem d_Mod_simple_366 : decode b_Mod_simple 366 = .ok (.iload_n 1, 1) := by decide +kernel
theorem d_Mod_simple_367 : decode b_Mod_simple 367 = .ok (.bipush 75, 2) := by decide +kernel
theorem d_Mod_simple_369 : decode b_Mod_simple 369 = .ok (.bipush 78, 2) := by decide +kernel
theorem d_Mod_simple_371 : decode b_Mod_simple 371 = .ok (.invokestatic 136, 3) := by decide +kernel
theorem d_Mod_simple_374 : decode b_Mod_simple 374 = .ok (.ifCond .eq 15, 3) := by decide +kernel
theorem d_Mod_simple_377 : decode b_Mod_simple 377 = .ok (.aload_n 0, 1) := by decide +kernel
theorem d_Mod_simple_378 : decode b_Mod_simple 378 = .ok (.iload_n 1, 1) := by decide +kernel
theorem d_Mod_simple_379 : decode b_Mod_simple 379 = .ok (.bipush 75, 2) := by decide +kernel
theorem d_Mod_simple_381 : decode b_Mod_simple 381 = .ok (.isub, 1) := by decide +kernel
theorem d_Mod_simple_382 : decode b_Mod_simple 382 = .ok (.iconst 4, 1) := by decide +kernel
theorem d_Mod_simple_383 : decode b_Mod_simple 383 = .ok (.invokevirtual 342, 3) := by decide +kernel
theorem d_Mod_simple_386 : decode b_Mod_simple 386 = .ok (.goto 13, 3) := by decide +kernel
theorem d_Mod_simple_389 : decode b_Mod_simple 389 = .ok (.iload_n 1, 1) := by decide +kernel
theorem d_Mod_simple_390 : decode b_Mod_simple 390 = .ok (.ifCond .ne 7, 3) := by decide +kernel
theorem d_Mod_simple_393 : decode b_Mod_simple 393 = .ok (.iconst 1, 1) := by decide +kernel
theorem d_Mod_simple_394 : decode b_Mod_simple 394 = .ok (.goto 4, 3) := by decide +kernel
theorem d_Mod_simple_397 : decode b_Mod_simple 397 = .ok (.iconst 0, 1) := by decide +kernel
theorem d_Mod_simple_398 : decode b_Mod_simple 398 = .ok (.ireturn, 1) := by decide +kernel
theorem d_Mod_simple_399 : decode b_Mod_simple 399 = .ok (.iconst 1, 1) := by decide +kernel
theorem d_Mod_simple_400 : decode b_Mod_simple 400 = .ok (.ireturn, 1) := by decide +kernel
end
