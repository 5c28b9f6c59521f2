set_option maxHeartbeats 4000000 in
set_option maxRecDepth 100000 in
theorem g_Mod_take (l : Launch) (g : tw_G) (sz : Nat) (h0 : Nat) (q : Nat → Nat) (rf : Int32) (n : Nat) (mm : Int32) (mb : Int32) (av : Nat) (ev : Nat) (wi : Int32) (mn : Nat) (tp : Int32) (tc : Int32) (sc : Int32) (nf : Nat) (fd : Nat) (me : Nat) (mp : Int32) (xn : Nat) (mt : Nat) (wh : Nat) (ag : Nat) (an : Int32) (ig : Int32) (nw : Nat → Int32) (fa : Int32) (fp : Int32) (tq : Nat) (kd1 : Int32) (hNW : NOW nw) (htq : tq ≤ 64) : Met l y_Mod_take [.code y_Mod_take b_Mod_take 2 none] ({ frames := 1, cells := 0, slots := 0, locals := 22 }) (tw_P g [.ref h0, .int kd1] [(h0, .inr (10, mob q rf n mm mb fa fp av ev wi mn tp tc sc nf fd me mp xn mt wh tq ag an ig)), ((q 47), aI g 128 nw)] sz) (tw_Qv g (fun (u : Int32 × Int32 × Nat) => (u.1 = 0 → fa = 0) ∧ (u.2.2 ≤ 64) ∧ (u.2.2 ≤ tq)) (fun u : Int32 × Int32 × Nat => [(h0, .inr (10, mob q rf n mm mb u.1 u.2.1 av ev wi mn tp tc sc nf fd me mp xn mt wh u.2.2 ag an ig)), ((q 47), aI g 128 nw)]) (va_A [(h0, .inr (10, mob q rf n mm mb fa fp av ev wi mn tp tc sc nf fd me mp xn mt wh tq ag an ig)), ((q 47), aI g 128 nw)] sz)) 0 0 (va_A [(h0, .inr (10, mob q rf n mm mb fa fp av ev wi mn tp tc sc nf fd me mp xn mt wh tq ag an ig)), ((q 47), aI g 128 nw)] sz) := by
  refine tw_metW (l := l) (g := g) (y := y_Mod_take) (cc := b_Mod_take) (maxL := 2) (ret := none) (rm := { frames := 1, cells := 0, slots := 0, locals := 22 }) (mc := 0) (ms := 0) (av := [.ref h0, .int kd1]) (ws := [(h0, .inr (10, mob q rf n mm mb fa fp av ev wi mn tp tc sc nf fd me mp xn mt wh tq ag an ig)), ((q 47), aI g 128 nw)]) (sz := sz) (Qc := fun A => (tw_Qv g (fun (u : Int32 × Int32 × Nat) => (u.1 = 0 → fa = 0) ∧ (u.2.2 ≤ 64) ∧ (u.2.2 ≤ tq)) (fun u : Int32 × Int32 × Nat => [(h0, .inr (10, mob q rf n mm mb u.1 u.2.1 av ev wi mn tp tc sc nf fd me mp xn mt wh u.2.2 ag an ig)), ((q 47), aI g 128 nw)]) A)) (by decide) (Nat.le_of_ble_eq_true rfl) ?_
  intro p e s m below meth c ls H A E hB hK hZ hP hD hS hA hl
  obtain ⟨hx, hb, hml, hr, hown, hts, hlocks, hin⟩ := id E
  have hl : lv_has ls 2 [(0, .ref h0), (1, .int kd1)] := hl
  refine lv_aload_n hx hb d_Mod_take_0 rfl (lv_at hl 0 rfl) ?_
  refine va_get (D := g.1) (ci := 10) (v := .int fa) (C := R_Mod) (T := F_Mod) (N := 61) hx hb hts in_Mod hown hK hP 0 rfl rfl 8 (by decide) (hts _ wd_1258) (fun _ h9 => h9) rfl d_Mod_take_1 ?_
  refine lv_if_eq (tgt := 8) hx hb d_Mod_take_4 (by decide) (fun h4 => ?_) (fun h4 => ?_)
  · refine lv_iload_n hx hb d_Mod_take_8 rfl (lv_at hl 1 rfl) ?_
    refine lv_bipush (v := 9) hx hb d_Mod_take_9 (by decide) ?_
    refine lv_icmp_lt (tgt := 27) hx hb d_Mod_take_11 (by decide) (fun h11 => ?_) (fun h11 => ?_)
    · refine lv_aload_n hx hb d_Mod_take_27 rfl (lv_at hl 0 rfl) ?_
      refine va_get (D := g.1) (ci := 10) (v := .int (nI tq)) (C := R_Mod) (T := F_Mod) (N := 61) hx hb hts in_Mod hown hK hP 0 rfl rfl 46 (by decide) (hts _ wd_1296) (fun _ h9 => h9) rfl d_Mod_take_28 ?_
      refine lv_if_ne (tgt := 47) hx hb d_Mod_take_31 (by decide) (fun h31 => ?_) (fun h31 => ?_)
      · have h31 := tn_ne (b := 0) h31
        refine lv_aload_n hx hb d_Mod_take_47 rfl (lv_at hl 0 rfl) ?_
        refine va_get (D := g.1) (ci := 10) (v := .ref (q 47)) (C := R_Mod) (T := F_Mod) (N := 61) hx hb hts in_Mod hown hK hP 0 rfl rfl 47 (by decide) (hts _ wd_1297) (fun _ h9 => h9) rfl d_Mod_take_48 ?_
        refine lv_bipush (v := 64) hx hb d_Mod_take_51 (by decide) ?_
        refine lv_aload_n hx hb d_Mod_take_53 rfl (lv_at hl 0 rfl) ?_
        refine va_get (D := g.1) (ci := 10) (v := .int (nI tq)) (C := R_Mod) (T := F_Mod) (N := 61) hx hb hts in_Mod hown hK hP 0 rfl rfl 46 (by decide) (hts _ wd_1296) (fun _ h9 => h9) rfl d_Mod_take_54 ?_
        refine lv_iadd hx hb d_Mod_take_57 ?_
        refine tw_ri (e2 := nI (64 + tq)) (nI_add 64 tq) ?_
        refine lv_iconst (v := 1) hx hb d_Mod_take_58 (by decide) ?_
        refine lv_isub hx hb d_Mod_take_59 ?_
        refine tw_ri (e2 := nI (64 + tq - 1)) (pk_sub (b := 1) (by omega)) ?_
        refine va_iald hx hb hK hP 1 0 rfl rfl (vp_in_nI (by omega) (by decide)) d_Mod_take_60 ?_
        refine tw_ri (e2 := nw (64 + tq - 1)) (by rw [nI_clamp (by omega)]) ?_
        refine lv_iload_n hx hb d_Mod_take_61 rfl (lv_at hl 1 rfl) ?_
        refine lv_iconst (v := 2) hx hb d_Mod_take_62 (by decide) ?_
        refine lv_icmp_ne (tgt := 70) hx hb d_Mod_take_63 (by decide) (fun h63 => ?_) (fun h63 => ?_)
        · refine lv_iload_n hx hb d_Mod_take_70 rfl (lv_at hl 1 rfl) ?_
          refine lv_icmp_eq (tgt := 87) hx hb d_Mod_take_71 (by decide) (fun h71 => ?_) (fun h71 => ?_)
          · refine lv_aload_n hx hb d_Mod_take_87 rfl (lv_at hl 0 rfl) ?_
            refine lv_iload_n hx hb d_Mod_take_88 rfl (lv_at hl 1 rfl) ?_
            refine lv_iconst (v := 2) hx hb d_Mod_take_89 (by decide) ?_
            refine lv_icmp_ne (tgt := 102) hx hb d_Mod_take_90 (by decide) (fun h90 => ?_) (fun h90 => ?_)
            · refine lv_aload_n hx hb d_Mod_take_102 rfl (lv_at hl 0 rfl) ?_
              refine va_get (D := g.1) (ci := 10) (v := .int (nI tq)) (C := R_Mod) (T := F_Mod) (N := 61) hx hb hts in_Mod hown hK hP 0 rfl rfl 46 (by decide) (hts _ wd_1296) (fun _ h9 => h9) rfl d_Mod_take_103 ?_
              refine lv_iconst (v := 1) hx hb d_Mod_take_106 (by decide) ?_
              refine lv_isub hx hb d_Mod_take_107 ?_
              refine tw_ri (e2 := nI (tq - 1)) (pk_sub (b := 1) (by omega)) ?_
              refine va_put (D := g.1) (ci := 10) (v := .int (nI (tq - 1))) (ty := .int) (C := R_Mod) (T := F_Mod) (N := 61) hx hb hts in_Mod t_Mod t_Mod_ok n_Mod hown hK hP hD hS 0 rfl rfl 46 (by decide) (hts _ wd_1296) (fun _ h9 => h9) rfl (t_Mod_ok 46 (by decide)) rfl rfl (Nat.le_of_ble_eq_true rfl) d_Mod_take_108 (fun H locs hP hD hS => ?_)
              have hP : va_P g.1 classes [(h0, .inr (10, mob q rf n mm mb fa fp av ev wi mn tp tc sc nf fd me mp xn mt wh (tq - 1) ag an ig)), ((q 47), aI g 128 nw)] H := hP
              have hD : va_D A [(h0, .inr (10, mob q rf n mm mb fa fp av ev wi mn tp tc sc nf fd me mp xn mt wh (tq - 1) ag an ig)), ((q 47), aI g 128 nw)] := hD
              exact tw_vret E hS (fa, fp, tq - 1) (⟨(fun h => h), (by first | omega | (dsimp only <;> omega)), (by first | omega | (dsimp only <;> omega))⟩) hP hD d_Mod_take_111
            · exact absurd h90 h63
          · refine lv_aload_n hx hb d_Mod_take_74 rfl (lv_at hl 0 rfl) ?_
            refine lv_bipush (v := 23) hx hb d_Mod_take_75 (by decide) ?_
            refine lv_aload_n hx hb d_Mod_take_77 rfl (lv_at hl 0 rfl) ?_
            refine va_get (D := g.1) (ci := 10) (v := .int (nI wh)) (C := R_Mod) (T := F_Mod) (N := 61) hx hb hts in_Mod hown hK hP 0 rfl rfl 45 (by decide) (hts _ wd_1295) (fun _ h9 => h9) rfl d_Mod_take_78 ?_
            refine tw_wv (wr := [((q 47), aI g 128 nw)]) (tw_runV (ws := [(h0, .inr (10, mob q rf n mm mb fa fp av ev wi mn tp tc sc nf fd me mp xn mt wh tq ag an ig)), ((q 47), aI g 128 nw)]) (wc := [(h0, .inr (10, mob q rf n mm mb fa fp av ev wi mn tp tc sc nf fd me mp xn mt wh tq ag an ig))]) (As := [.int 23, .int (nI wh)]) (rest := []) E hB hK hZ (g_Mod_fail l g H.size h0 q rf n mm mb av ev wi mn tp tc sc nf fd me mp xn mt wh tq ag an ig fa fp 23 (nI wh) (by decide)) mc_Mod_fail mi_Mod_fail me_Mod_fail wd_1478 hP hD hS hA [0] rfl (by decide) 0 rfl rfl rfl rfl rfl (by decide) rfl hl.1 rfl (Nat.le_of_ble_eq_true rfl) (by decide) d_Mod_take_81) hP hD hS hA [0] [1] rfl rfl (by decide) (by decide) (fun u2 H locs hr1 hP hD hS => ?_)
            try dsimp only at hr1
            have hP : va_P g.1 classes [((q 47), aI g 128 nw), (h0, .inr (10, mob q rf n mm mb u2.1 u2.2 av ev wi mn tp tc sc nf fd me mp xn mt wh tq ag an ig))] H := hP
            have hD : va_D A [((q 47), aI g 128 nw), (h0, .inr (10, mob q rf n mm mb u2.1 u2.2 av ev wi mn tp tc sc nf fd me mp xn mt wh tq ag an ig))] := hD
            have hP : va_P g.1 classes [(h0, .inr (10, mob q rf n mm mb u2.1 u2.2 av ev wi mn tp tc sc nf fd me mp xn mt wh tq ag an ig)), ((q 47), aI g 128 nw)] H := hP.sub [1, 0] rfl
            have hD : va_D A [(h0, .inr (10, mob q rf n mm mb u2.1 u2.2 av ev wi mn tp tc sc nf fd me mp xn mt wh tq ag an ig)), ((q 47), aI g 128 nw)] := hD.sub [1, 0] (by decide) rfl
            have hp2_0 := hr1
            refine lv_goto (tgt := 111) hx hb d_Mod_take_84 (by decide) ?_
            exact tw_vret E hS (u2.1, u2.2, tq) (⟨(fun h => absurd h hp2_0), (by first | omega | (dsimp only <;> omega)), (by first | omega | (dsimp only <;> omega))⟩) hP hD d_Mod_take_111
        · refine lv_iconst (v := 3) hx hb d_Mod_take_66 (by decide) ?_
          refine lv_goto (tgt := 71) hx hb d_Mod_take_67 (by decide) ?_
          refine lv_icmp_eq (tgt := 87) hx hb d_Mod_take_71 (by decide) (fun h71 => ?_) (fun h71 => ?_)
          · have htw := nw_two hNW h31 h71
            refine lv_aload_n hx hb d_Mod_take_87 rfl (lv_at hl 0 rfl) ?_
            refine lv_iload_n hx hb d_Mod_take_88 rfl (lv_at hl 1 rfl) ?_
            refine lv_iconst (v := 2) hx hb d_Mod_take_89 (by decide) ?_
            refine lv_icmp_ne (tgt := 102) hx hb d_Mod_take_90 (by decide) (fun h90 => ?_) (fun h90 => ?_)
            · exact absurd h63 h90
            · refine lv_aload_n hx hb d_Mod_take_93 rfl (lv_at hl 0 rfl) ?_
              refine va_get (D := g.1) (ci := 10) (v := .int (nI tq)) (C := R_Mod) (T := F_Mod) (N := 61) hx hb hts in_Mod hown hK hP 0 rfl rfl 46 (by decide) (hts _ wd_1296) (fun _ h9 => h9) rfl d_Mod_take_94 ?_
              refine lv_iconst (v := 2) hx hb d_Mod_take_97 (by decide) ?_
              refine lv_isub hx hb d_Mod_take_98 ?_
              refine tw_ri (e2 := nI (tq - 2)) (pk_sub (b := 2) (by omega)) ?_
              refine lv_goto (tgt := 108) hx hb d_Mod_take_99 (by decide) ?_
              refine va_put (D := g.1) (ci := 10) (v := .int (nI (tq - 2))) (ty := .int) (C := R_Mod) (T := F_Mod) (N := 61) hx hb hts in_Mod t_Mod t_Mod_ok n_Mod hown hK hP hD hS 0 rfl rfl 46 (by decide) (hts _ wd_1296) (fun _ h9 => h9) rfl (t_Mod_ok 46 (by decide)) rfl rfl (Nat.le_of_ble_eq_true rfl) d_Mod_take_108 (fun H locs hP hD hS => ?_)
              have hP : va_P g.1 classes [(h0, .inr (10, mob q rf n mm mb fa fp av ev wi mn tp tc sc nf fd me mp xn mt wh (tq - 2) ag an ig)), ((q 47), aI g 128 nw)] H := hP
              have hD : va_D A [(h0, .inr (10, mob q rf n mm mb fa fp av ev wi mn tp tc sc nf fd me mp xn mt wh (tq - 2) ag an ig)), ((q 47), aI g 128 nw)] := hD
              exact tw_vret E hS (fa, fp, tq - 2) (⟨(fun h => h), (by first | omega | (dsimp only <;> omega)), (by first | omega | (dsimp only <;> omega))⟩) hP hD d_Mod_take_111
          · refine lv_aload_n hx hb d_Mod_take_74 rfl (lv_at hl 0 rfl) ?_
            refine lv_bipush (v := 23) hx hb d_Mod_take_75 (by decide) ?_
            refine lv_aload_n hx hb d_Mod_take_77 rfl (lv_at hl 0 rfl) ?_
            refine va_get (D := g.1) (ci := 10) (v := .int (nI wh)) (C := R_Mod) (T := F_Mod) (N := 61) hx hb hts in_Mod hown hK hP 0 rfl rfl 45 (by decide) (hts _ wd_1295) (fun _ h9 => h9) rfl d_Mod_take_78 ?_
            refine tw_wv (wr := [((q 47), aI g 128 nw)]) (tw_runV (ws := [(h0, .inr (10, mob q rf n mm mb fa fp av ev wi mn tp tc sc nf fd me mp xn mt wh tq ag an ig)), ((q 47), aI g 128 nw)]) (wc := [(h0, .inr (10, mob q rf n mm mb fa fp av ev wi mn tp tc sc nf fd me mp xn mt wh tq ag an ig))]) (As := [.int 23, .int (nI wh)]) (rest := []) E hB hK hZ (g_Mod_fail l g H.size h0 q rf n mm mb av ev wi mn tp tc sc nf fd me mp xn mt wh tq ag an ig fa fp 23 (nI wh) (by decide)) mc_Mod_fail mi_Mod_fail me_Mod_fail wd_1478 hP hD hS hA [0] rfl (by decide) 0 rfl rfl rfl rfl rfl (by decide) rfl hl.1 rfl (Nat.le_of_ble_eq_true rfl) (by decide) d_Mod_take_81) hP hD hS hA [0] [1] rfl rfl (by decide) (by decide) (fun u4 H locs hr3 hP hD hS => ?_)
            try dsimp only at hr3
            have hP : va_P g.1 classes [((q 47), aI g 128 nw), (h0, .inr (10, mob q rf n mm mb u4.1 u4.2 av ev wi mn tp tc sc nf fd me mp xn mt wh tq ag an ig))] H := hP
            have hD : va_D A [((q 47), aI g 128 nw), (h0, .inr (10, mob q rf n mm mb u4.1 u4.2 av ev wi mn tp tc sc nf fd me mp xn mt wh tq ag an ig))] := hD
            have hP : va_P g.1 classes [(h0, .inr (10, mob q rf n mm mb u4.1 u4.2 av ev wi mn tp tc sc nf fd me mp xn mt wh tq ag an ig)), ((q 47), aI g 128 nw)] H := hP.sub [1, 0] rfl
            have hD : va_D A [(h0, .inr (10, mob q rf n mm mb u4.1 u4.2 av ev wi mn tp tc sc nf fd me mp xn mt wh tq ag an ig)), ((q 47), aI g 128 nw)] := hD.sub [1, 0] (by decide) rfl
            have hp4_0 := hr3
            refine lv_goto (tgt := 111) hx hb d_Mod_take_84 (by decide) ?_
            exact tw_vret E hS (u4.1, u4.2, tq) (⟨(fun h => absurd h hp4_0), (by first | omega | (dsimp only <;> omega)), (by first | omega | (dsimp only <;> omega))⟩) hP hD d_Mod_take_111
      · refine lv_aload_n hx hb d_Mod_take_34 rfl (lv_at hl 0 rfl) ?_
        refine lv_bipush (v := 22) hx hb d_Mod_take_35 (by decide) ?_
        refine lv_aload_n hx hb d_Mod_take_37 rfl (lv_at hl 0 rfl) ?_
        refine va_get (D := g.1) (ci := 10) (v := .int (nI wh)) (C := R_Mod) (T := F_Mod) (N := 61) hx hb hts in_Mod hown hK hP 0 rfl rfl 45 (by decide) (hts _ wd_1295) (fun _ h9 => h9) rfl d_Mod_take_38 ?_
        refine tw_wv (wr := [((q 47), aI g 128 nw)]) (tw_runV (ws := [(h0, .inr (10, mob q rf n mm mb fa fp av ev wi mn tp tc sc nf fd me mp xn mt wh tq ag an ig)), ((q 47), aI g 128 nw)]) (wc := [(h0, .inr (10, mob q rf n mm mb fa fp av ev wi mn tp tc sc nf fd me mp xn mt wh tq ag an ig))]) (As := [.int 22, .int (nI wh)]) (rest := []) E hB hK hZ (g_Mod_fail l g H.size h0 q rf n mm mb av ev wi mn tp tc sc nf fd me mp xn mt wh tq ag an ig fa fp 22 (nI wh) (by decide)) mc_Mod_fail mi_Mod_fail me_Mod_fail wd_1478 hP hD hS hA [0] rfl (by decide) 0 rfl rfl rfl rfl rfl (by decide) rfl hl.1 rfl (Nat.le_of_ble_eq_true rfl) (by decide) d_Mod_take_41) hP hD hS hA [0] [1] rfl rfl (by decide) (by decide) (fun u6 H locs hr5 hP hD hS => ?_)
        try dsimp only at hr5
        have hP : va_P g.1 classes [((q 47), aI g 128 nw), (h0, .inr (10, mob q rf n mm mb u6.1 u6.2 av ev wi mn tp tc sc nf fd me mp xn mt wh tq ag an ig))] H := hP
        have hD : va_D A [((q 47), aI g 128 nw), (h0, .inr (10, mob q rf n mm mb u6.1 u6.2 av ev wi mn tp tc sc nf fd me mp xn mt wh tq ag an ig))] := hD
        have hP : va_P g.1 classes [(h0, .inr (10, mob q rf n mm mb u6.1 u6.2 av ev wi mn tp tc sc nf fd me mp xn mt wh tq ag an ig)), ((q 47), aI g 128 nw)] H := hP.sub [1, 0] rfl
        have hD : va_D A [(h0, .inr (10, mob q rf n mm mb u6.1 u6.2 av ev wi mn tp tc sc nf fd me mp xn mt wh tq ag an ig)), ((q 47), aI g 128 nw)] := hD.sub [1, 0] (by decide) rfl
        have hp6_0 := hr5
        refine lv_goto (tgt := 111) hx hb d_Mod_take_44 (by decide) ?_
        exact tw_vret E hS (u6.1, u6.2, tq) (⟨(fun h => absurd h hp6_0), (by first | omega | (dsimp only <;> omega)), (by first | omega | (dsimp only <;> omega))⟩) hP hD d_Mod_take_111
    · refine lv_aload_n hx hb d_Mod_take_14 rfl (lv_at hl 0 rfl) ?_
      refine lv_bipush (v := 23) hx hb d_Mod_take_15 (by decide) ?_
      refine lv_aload_n hx hb d_Mod_take_17 rfl (lv_at hl 0 rfl) ?_
      refine va_get (D := g.1) (ci := 10) (v := .int (nI wh)) (C := R_Mod) (T := F_Mod) (N := 61) hx hb hts in_Mod hown hK hP 0 rfl rfl 45 (by decide) (hts _ wd_1295) (fun _ h9 => h9) rfl d_Mod_take_18 ?_
      refine tw_wv (wr := [((q 47), aI g 128 nw)]) (tw_runV (ws := [(h0, .inr (10, mob q rf n mm mb fa fp av ev wi mn tp tc sc nf fd me mp xn mt wh tq ag an ig)), ((q 47), aI g 128 nw)]) (wc := [(h0, .inr (10, mob q rf n mm mb fa fp av ev wi mn tp tc sc nf fd me mp xn mt wh tq ag an ig))]) (As := [.int 23, .int (nI wh)]) (rest := []) E hB hK hZ (g_Mod_fail l g H.size h0 q rf n mm mb av ev wi mn tp tc sc nf fd me mp xn mt wh tq ag an ig fa fp 23 (nI wh) (by decide)) mc_Mod_fail mi_Mod_fail me_Mod_fail wd_1478 hP hD hS hA [0] rfl (by decide) 0 rfl rfl rfl rfl rfl (by decide) rfl hl.1 rfl (Nat.le_of_ble_eq_true rfl) (by decide) d_Mod_take_21) hP hD hS hA [0] [1] rfl rfl (by decide) (by decide) (fun u8 H locs hr7 hP hD hS => ?_)
      try dsimp only at hr7
      have hP : va_P g.1 classes [((q 47), aI g 128 nw), (h0, .inr (10, mob q rf n mm mb u8.1 u8.2 av ev wi mn tp tc sc nf fd me mp xn mt wh tq ag an ig))] H := hP
      have hD : va_D A [((q 47), aI g 128 nw), (h0, .inr (10, mob q rf n mm mb u8.1 u8.2 av ev wi mn tp tc sc nf fd me mp xn mt wh tq ag an ig))] := hD
      have hP : va_P g.1 classes [(h0, .inr (10, mob q rf n mm mb u8.1 u8.2 av ev wi mn tp tc sc nf fd me mp xn mt wh tq ag an ig)), ((q 47), aI g 128 nw)] H := hP.sub [1, 0] rfl
      have hD : va_D A [(h0, .inr (10, mob q rf n mm mb u8.1 u8.2 av ev wi mn tp tc sc nf fd me mp xn mt wh tq ag an ig)), ((q 47), aI g 128 nw)] := hD.sub [1, 0] (by decide) rfl
      have hp8_0 := hr7
      refine lv_goto (tgt := 111) hx hb d_Mod_take_24 (by decide) ?_
      exact tw_vret E hS (u8.1, u8.2, tq) (⟨(fun h => absurd h hp8_0), (by first | omega | (dsimp only <;> omega)), (by first | omega | (dsimp only <;> omega))⟩) hP hD d_Mod_take_111
  · exact tw_vret E hS (fa, fp, tq) (⟨(fun h => h), (by first | omega | (dsimp only <;> omega)), (by first | omega | (dsimp only <;> omega))⟩) hP hD d_Mod_take_7
set_option maxHeartbeats 4000000 in
set_option maxRecDepth 100000 in
theorem g_Mod_takeSingle (l : Launch) (g : tw_G) (sz : Nat) (h0 : Nat) (q : Nat → Nat) (rf : Int32) (n : Nat) (mm : Int32) (mb : Int32) (av : Nat) (ev : Nat) (wi : Int32) (mn : Nat) (tp : Int32) (tc : Int32) (sc : Int32) (nf : Nat) (fd : Nat) (me : Nat) (mp : Int32) (xn : Nat) (mt : Nat) (wh : Nat) (ag : Nat) (an : Int32) (ig : Int32) (nw : Nat → Int32) (fa : Int32) (fp : Int32) (tq : Nat) (hNW : NOW nw) (htq : tq ≤ 64) : Met l y_Mod_takeSingle [.code y_Mod_takeSingle b_Mod_takeSingle 2 (some .int)] ({ frames := 1, cells := 0, slots := 0, locals := 22 }) (tw_P g [.ref h0] [(h0, .inr (10, mob q rf n mm mb fa fp av ev wi mn tp tc sc nf fd me mp xn mt wh tq ag an ig)), ((q 47), aI g 128 nw)] sz) (tw_Qi g (fun (r : Int32) (u : Int32 × Int32 × Nat) => (u.1 = 0 → fa = 0) ∧ (u.2.2 ≤ 64) ∧ (u.2.2 ≤ tq) ∧ (u.1 = 0 → ¬ r = 3)) (fun u : Int32 × Int32 × Nat => [(h0, .inr (10, mob q rf n mm mb u.1 u.2.1 av ev wi mn tp tc sc nf fd me mp xn mt wh u.2.2 ag an ig)), ((q 47), aI g 128 nw)]) (va_A [(h0, .inr (10, mob q rf n mm mb fa fp av ev wi mn tp tc sc nf fd me mp xn mt wh tq ag an ig)), ((q 47), aI g 128 nw)] sz)) 0 0 (va_A [(h0, .inr (10, mob q rf n mm mb fa fp av ev wi mn tp tc sc nf fd me mp xn mt wh tq ag an ig)), ((q 47), aI g 128 nw)] sz) := by
  refine tw_metW (l := l) (g := g) (y := y_Mod_takeSingle) (cc := b_Mod_takeSingle) (maxL := 2) (ret := (some .int)) (rm := { frames := 1, cells := 0, slots := 0, locals := 22 }) (mc := 0) (ms := 0) (av := [.ref h0]) (ws := [(h0, .inr (10, mob q rf n mm mb fa fp av ev wi mn tp tc sc nf fd me mp xn mt wh tq ag an ig)), ((q 47), aI g 128 nw)]) (sz := sz) (Qc := fun A => (tw_Qi g (fun (r : Int32) (u : Int32 × Int32 × Nat) => (u.1 = 0 → fa = 0) ∧ (u.2.2 ≤ 64) ∧ (u.2.2 ≤ tq) ∧ (u.1 = 0 → ¬ r = 3)) (fun u : Int32 × Int32 × Nat => [(h0, .inr (10, mob q rf n mm mb u.1 u.2.1 av ev wi mn tp tc sc nf fd me mp xn mt wh u.2.2 ag an ig)), ((q 47), aI g 128 nw)]) A)) (by decide) (Nat.le_of_ble_eq_true rfl) ?_
  intro p e s m below meth c ls H A E hB hK hZ hP hD hS hA hl
  obtain ⟨hx, hb, hml, hr, hown, hts, hlocks, hin⟩ := id E
  have hl : lv_has ls 2 [(0, .ref h0)] := hl
  refine lv_aload_n hx hb d_Mod_takeSingle_0 rfl (lv_at hl 0 rfl) ?_
  refine va_get (D := g.1) (ci := 10) (v := .int fa) (C := R_Mod) (T := F_Mod) (N := 61) hx hb hts in_Mod hown hK hP 0 rfl rfl 8 (by decide) (hts _ wd_1258) (fun _ h9 => h9) rfl d_Mod_takeSingle_1 ?_
  refine lv_if_ne (tgt := 24) hx hb d_Mod_takeSingle_4 (by decide) (fun h4 => ?_) (fun h4 => ?_)
  · refine lv_aload_n hx hb d_Mod_takeSingle_24 rfl (lv_at hl 0 rfl) ?_
    refine va_get (D := g.1) (ci := 10) (v := .int fa) (C := R_Mod) (T := F_Mod) (N := 61) hx hb hts in_Mod hown hK hP 0 rfl rfl 8 (by decide) (hts _ wd_1258) (fun _ h9 => h9) rfl d_Mod_takeSingle_25 ?_
    refine lv_if_ne (tgt := 48) hx hb d_Mod_takeSingle_28 (by decide) (fun h28 => ?_) (fun h28 => ?_)
    · refine lv_iconst (v := 0) hx hb d_Mod_takeSingle_48 (by decide) ?_
      refine lv_istore_n hx hb d_Mod_takeSingle_49 rfl hl (by decide) rfl (fun ls hl => ?_)
      have hl : lv_has ls 2 [(1, .int 0), (0, .ref h0)] := hl
      refine lv_aload_n hx hb d_Mod_takeSingle_50 rfl (lv_at hl 1 rfl) ?_
      refine va_get (D := g.1) (ci := 10) (v := .int fa) (C := R_Mod) (T := F_Mod) (N := 61) hx hb hts in_Mod hown hK hP 0 rfl rfl 8 (by decide) (hts _ wd_1258) (fun _ h9 => h9) rfl d_Mod_takeSingle_51 ?_
      refine lv_if_ne (tgt := 72) hx hb d_Mod_takeSingle_54 (by decide) (fun h54 => ?_) (fun h54 => ?_)
      · refine lv_aload_n hx hb d_Mod_takeSingle_72 rfl (lv_at hl 1 rfl) ?_
        refine lv_aload_n hx hb d_Mod_takeSingle_73 rfl (lv_at hl 1 rfl) ?_
        refine va_get (D := g.1) (ci := 10) (v := .int fa) (C := R_Mod) (T := F_Mod) (N := 61) hx hb hts in_Mod hown hK hP 0 rfl rfl 8 (by decide) (hts _ wd_1258) (fun _ h9 => h9) rfl d_Mod_takeSingle_74 ?_
        refine lv_if_ne (tgt := 89) hx hb d_Mod_takeSingle_77 (by decide) (fun h77 => ?_) (fun h77 => ?_)
        · refine lv_aload_n hx hb d_Mod_takeSingle_89 rfl (lv_at hl 1 rfl) ?_
          refine va_get (D := g.1) (ci := 10) (v := .int (nI tq)) (C := R_Mod) (T := F_Mod) (N := 61) hx hb hts in_Mod hown hK hP 0 rfl rfl 46 (by decide) (hts _ wd_1296) (fun _ h9 => h9) rfl d_Mod_takeSingle_90 ?_
          refine va_put (D := g.1) (ci := 10) (v := .int (nI tq)) (ty := .int) (C := R_Mod) (T := F_Mod) (N := 61) hx hb hts in_Mod t_Mod t_Mod_ok n_Mod hown hK hP hD hS 0 rfl rfl 46 (by decide) (hts _ wd_1296) (fun _ h9 => h9) rfl (t_Mod_ok 46 (by decide)) rfl rfl (Nat.le_of_ble_eq_true rfl) d_Mod_takeSingle_93 (fun H locs hP hD hS => ?_)
          have hP : va_P g.1 classes [(h0, .inr (10, mob q rf n mm mb fa fp av ev wi mn tp tc sc nf fd me mp xn mt wh tq ag an ig)), ((q 47), aI g 128 nw)] H := hP
          have hD : va_D A [(h0, .inr (10, mob q rf n mm mb fa fp av ev wi mn tp tc sc nf fd me mp xn mt wh tq ag an ig)), ((q 47), aI g 128 nw)] := hD
          refine lv_iload_n hx hb d_Mod_takeSingle_96 rfl (lv_at hl 0 rfl) ?_
          exact tw_iret E hS (fa, fp, tq) (⟨(fun h => h), (by first | omega | (dsimp only <;> omega)), (by first | omega | (dsimp only <;> omega)), (fun h => absurd h h77)⟩) hP hD d_Mod_takeSingle_97
        · exact absurd h77 h54
      · exact absurd h54 h28
    · exact absurd h28 h4
  · refine lv_aload_n hx hb d_Mod_takeSingle_7 rfl (lv_at hl 0 rfl) ?_
    refine va_get (D := g.1) (ci := 10) (v := .int (nI tq)) (C := R_Mod) (T := F_Mod) (N := 61) hx hb hts in_Mod hown hK hP 0 rfl rfl 46 (by decide) (hts _ wd_1296) (fun _ h9 => h9) rfl d_Mod_takeSingle_8 ?_
    refine lv_if_ne (tgt := 24) hx hb d_Mod_takeSingle_11 (by decide) (fun h11 => ?_) (fun h11 => ?_)
    · have h11 := tn_ne (b := 0) h11
      refine lv_aload_n hx hb d_Mod_takeSingle_24 rfl (lv_at hl 0 rfl) ?_
      refine va_get (D := g.1) (ci := 10) (v := .int fa) (C := R_Mod) (T := F_Mod) (N := 61) hx hb hts in_Mod hown hK hP 0 rfl rfl 8 (by decide) (hts _ wd_1258) (fun _ h9 => h9) rfl d_Mod_takeSingle_25 ?_
      refine lv_if_ne (tgt := 48) hx hb d_Mod_takeSingle_28 (by decide) (fun h28 => ?_) (fun h28 => ?_)
      · exact absurd h4 h28
      · refine lv_aload_n hx hb d_Mod_takeSingle_31 rfl (lv_at hl 0 rfl) ?_
        refine va_get (D := g.1) (ci := 10) (v := .ref (q 47)) (C := R_Mod) (T := F_Mod) (N := 61) hx hb hts in_Mod hown hK hP 0 rfl rfl 47 (by decide) (hts _ wd_1297) (fun _ h9 => h9) rfl d_Mod_takeSingle_32 ?_
        refine lv_bipush (v := 64) hx hb d_Mod_takeSingle_35 (by decide) ?_
        refine lv_aload_n hx hb d_Mod_takeSingle_37 rfl (lv_at hl 0 rfl) ?_
        refine va_get (D := g.1) (ci := 10) (v := .int (nI tq)) (C := R_Mod) (T := F_Mod) (N := 61) hx hb hts in_Mod hown hK hP 0 rfl rfl 46 (by decide) (hts _ wd_1296) (fun _ h9 => h9) rfl d_Mod_takeSingle_38 ?_
        refine lv_iadd hx hb d_Mod_takeSingle_41 ?_
        refine tw_ri (e2 := nI (64 + tq)) (nI_add 64 tq) ?_
        refine lv_iconst (v := 1) hx hb d_Mod_takeSingle_42 (by decide) ?_
        refine lv_isub hx hb d_Mod_takeSingle_43 ?_
        refine tw_ri (e2 := nI (64 + tq - 1)) (pk_sub (b := 1) (by omega)) ?_
        refine va_iald hx hb hK hP 1 0 rfl rfl (vp_in_nI (by omega) (by decide)) d_Mod_takeSingle_44 ?_
        refine tw_ri (e2 := nw (64 + tq - 1)) (by rw [nI_clamp (by omega)]) ?_
        refine lv_goto (tgt := 49) hx hb d_Mod_takeSingle_45 (by decide) ?_
        refine lv_istore_n hx hb d_Mod_takeSingle_49 rfl hl (by decide) rfl (fun ls hl => ?_)
        have hl : lv_has ls 2 [(1, .int (nw (64 + tq - 1))), (0, .ref h0)] := hl
        refine lv_aload_n hx hb d_Mod_takeSingle_50 rfl (lv_at hl 1 rfl) ?_
        refine va_get (D := g.1) (ci := 10) (v := .int fa) (C := R_Mod) (T := F_Mod) (N := 61) hx hb hts in_Mod hown hK hP 0 rfl rfl 8 (by decide) (hts _ wd_1258) (fun _ h9 => h9) rfl d_Mod_takeSingle_51 ?_
        refine lv_if_ne (tgt := 72) hx hb d_Mod_takeSingle_54 (by decide) (fun h54 => ?_) (fun h54 => ?_)
        · exact absurd h28 h54
        · refine lv_iload_n hx hb d_Mod_takeSingle_57 rfl (lv_at hl 0 rfl) ?_
          refine lv_iconst (v := 3) hx hb d_Mod_takeSingle_58 (by decide) ?_
          refine lv_icmp_ne (tgt := 72) hx hb d_Mod_takeSingle_59 (by decide) (fun h59 => ?_) (fun h59 => ?_)
          · refine lv_aload_n hx hb d_Mod_takeSingle_72 rfl (lv_at hl 1 rfl) ?_
            refine lv_aload_n hx hb d_Mod_takeSingle_73 rfl (lv_at hl 1 rfl) ?_
            refine va_get (D := g.1) (ci := 10) (v := .int fa) (C := R_Mod) (T := F_Mod) (N := 61) hx hb hts in_Mod hown hK hP 0 rfl rfl 8 (by decide) (hts _ wd_1258) (fun _ h9 => h9) rfl d_Mod_takeSingle_74 ?_
            refine lv_if_ne (tgt := 89) hx hb d_Mod_takeSingle_77 (by decide) (fun h77 => ?_) (fun h77 => ?_)
            · exact absurd h54 h77
            · refine lv_aload_n hx hb d_Mod_takeSingle_80 rfl (lv_at hl 1 rfl) ?_
              refine va_get (D := g.1) (ci := 10) (v := .int (nI tq)) (C := R_Mod) (T := F_Mod) (N := 61) hx hb hts in_Mod hown hK hP 0 rfl rfl 46 (by decide) (hts _ wd_1296) (fun _ h9 => h9) rfl d_Mod_takeSingle_81 ?_
              refine lv_iconst (v := 1) hx hb d_Mod_takeSingle_84 (by decide) ?_
              refine lv_isub hx hb d_Mod_takeSingle_85 ?_
              refine tw_ri (e2 := nI (tq - 1)) (pk_sub (b := 1) (by omega)) ?_
              refine lv_goto (tgt := 93) hx hb d_Mod_takeSingle_86 (by decide) ?_
              refine va_put (D := g.1) (ci := 10) (v := .int (nI (tq - 1))) (ty := .int) (C := R_Mod) (T := F_Mod) (N := 61) hx hb hts in_Mod t_Mod t_Mod_ok n_Mod hown hK hP hD hS 0 rfl rfl 46 (by decide) (hts _ wd_1296) (fun _ h9 => h9) rfl (t_Mod_ok 46 (by decide)) rfl rfl (Nat.le_of_ble_eq_true rfl) d_Mod_takeSingle_93 (fun H locs hP hD hS => ?_)
              have hP : va_P g.1 classes [(h0, .inr (10, mob q rf n mm mb fa fp av ev wi mn tp tc sc nf fd me mp xn mt wh (tq - 1) ag an ig)), ((q 47), aI g 128 nw)] H := hP
              have hD : va_D A [(h0, .inr (10, mob q rf n mm mb fa fp av ev wi mn tp tc sc nf fd me mp xn mt wh (tq - 1) ag an ig)), ((q 47), aI g 128 nw)] := hD
              refine lv_iload_n hx hb d_Mod_takeSingle_96 rfl (lv_at hl 0 rfl) ?_
              exact tw_iret E hS (fa, fp, tq - 1) (⟨(fun h => h), (by first | omega | (dsimp only <;> omega)), (by first | omega | (dsimp only <;> omega)), (fun _ => by exact h59)⟩) hP hD d_Mod_takeSingle_97
          · refine lv_aload_n hx hb d_Mod_takeSingle_62 rfl (lv_at hl 1 rfl) ?_
            refine lv_bipush (v := 23) hx hb d_Mod_takeSingle_63 (by decide) ?_
            refine lv_aload_n hx hb d_Mod_takeSingle_65 rfl (lv_at hl 1 rfl) ?_
            refine va_get (D := g.1) (ci := 10) (v := .int (nI wh)) (C := R_Mod) (T := F_Mod) (N := 61) hx hb hts in_Mod hown hK hP 0 rfl rfl 45 (by decide) (hts _ wd_1295) (fun _ h9 => h9) rfl d_Mod_takeSingle_66 ?_
            refine tw_wv (wr := [((q 47), aI g 128 nw)]) (tw_runV (ws := [(h0, .inr (10, mob q rf n mm mb fa fp av ev wi mn tp tc sc nf fd me mp xn mt wh tq ag an ig)), ((q 47), aI g 128 nw)]) (wc := [(h0, .inr (10, mob q rf n mm mb fa fp av ev wi mn tp tc sc nf fd me mp xn mt wh tq ag an ig))]) (As := [.int 23, .int (nI wh)]) (rest := []) E hB hK hZ (g_Mod_fail l g H.size h0 q rf n mm mb av ev wi mn tp tc sc nf fd me mp xn mt wh tq ag an ig fa fp 23 (nI wh) (by decide)) mc_Mod_fail mi_Mod_fail me_Mod_fail wd_1478 hP hD hS hA [0] rfl (by decide) 0 rfl rfl rfl rfl rfl (by decide) rfl hl.1 rfl (Nat.le_of_ble_eq_true rfl) (by decide) d_Mod_takeSingle_69) hP hD hS hA [0] [1] rfl rfl (by decide) (by decide) (fun u2 H locs hr1 hP hD hS => ?_)
            try dsimp only at hr1
            have hP : va_P g.1 classes [((q 47), aI g 128 nw), (h0, .inr (10, mob q rf n mm mb u2.1 u2.2 av ev wi mn tp tc sc nf fd me mp xn mt wh tq ag an ig))] H := hP
            have hD : va_D A [((q 47), aI g 128 nw), (h0, .inr (10, mob q rf n mm mb u2.1 u2.2 av ev wi mn tp tc sc nf fd me mp xn mt wh tq ag an ig))] := hD
            have hP : va_P g.1 classes [(h0, .inr (10, mob q rf n mm mb u2.1 u2.2 av ev wi mn tp tc sc nf fd me mp xn mt wh tq ag an ig)), ((q 47), aI g 128 nw)] H := hP.sub [1, 0] rfl
            have hD : va_D A [(h0, .inr (10, mob q rf n mm mb u2.1 u2.2 av ev wi mn tp tc sc nf fd me mp xn mt wh tq ag an ig)), ((q 47), aI g 128 nw)] := hD.sub [1, 0] (by decide) rfl
            have hp2_0 := hr1
            refine lv_aload_n hx hb d_Mod_takeSingle_72 rfl (lv_at hl 1 rfl) ?_
            refine lv_aload_n hx hb d_Mod_takeSingle_73 rfl (lv_at hl 1 rfl) ?_
            refine va_get (D := g.1) (ci := 10) (v := .int u2.1) (C := R_Mod) (T := F_Mod) (N := 61) hx hb hts in_Mod hown hK hP 0 rfl rfl 8 (by decide) (hts _ wd_1258) (fun _ h9 => h9) rfl d_Mod_takeSingle_74 ?_
            refine lv_if_ne (tgt := 89) hx hb d_Mod_takeSingle_77 (by decide) (fun h77 => ?_) (fun h77 => ?_)
            · refine lv_aload_n hx hb d_Mod_takeSingle_89 rfl (lv_at hl 1 rfl) ?_
              refine va_get (D := g.1) (ci := 10) (v := .int (nI tq)) (C := R_Mod) (T := F_Mod) (N := 61) hx hb hts in_Mod hown hK hP 0 rfl rfl 46 (by decide) (hts _ wd_1296) (fun _ h9 => h9) rfl d_Mod_takeSingle_90 ?_
              refine va_put (D := g.1) (ci := 10) (v := .int (nI tq)) (ty := .int) (C := R_Mod) (T := F_Mod) (N := 61) hx hb hts in_Mod t_Mod t_Mod_ok n_Mod hown hK hP hD hS 0 rfl rfl 46 (by decide) (hts _ wd_1296) (fun _ h9 => h9) rfl (t_Mod_ok 46 (by decide)) rfl rfl (Nat.le_of_ble_eq_true rfl) d_Mod_takeSingle_93 (fun H locs hP hD hS => ?_)
              have hP : va_P g.1 classes [(h0, .inr (10, mob q rf n mm mb u2.1 u2.2 av ev wi mn tp tc sc nf fd me mp xn mt wh tq ag an ig)), ((q 47), aI g 128 nw)] H := hP
              have hD : va_D A [(h0, .inr (10, mob q rf n mm mb u2.1 u2.2 av ev wi mn tp tc sc nf fd me mp xn mt wh tq ag an ig)), ((q 47), aI g 128 nw)] := hD
              refine lv_iload_n hx hb d_Mod_takeSingle_96 rfl (lv_at hl 0 rfl) ?_
              exact tw_iret E hS (u2.1, u2.2, tq) (⟨(fun h => absurd h h77), (by first | omega | (dsimp only <;> omega)), (by first | omega | (dsimp only <;> omega)), (fun h => absurd h h77)⟩) hP hD d_Mod_takeSingle_97
            · exact absurd h77 hp2_0
    · refine lv_aload_n hx hb d_Mod_takeSingle_14 rfl (lv_at hl 0 rfl) ?_
      refine lv_bipush (v := 22) hx hb d_Mod_takeSingle_15 (by decide) ?_
      refine lv_aload_n hx hb d_Mod_takeSingle_17 rfl (lv_at hl 0 rfl) ?_
      refine va_get (D := g.1) (ci := 10) (v := .int (nI wh)) (C := R_Mod) (T := F_Mod) (N := 61) hx hb hts in_Mod hown hK hP 0 rfl rfl 45 (by decide) (hts _ wd_1295) (fun _ h9 => h9) rfl d_Mod_takeSingle_18 ?_
      refine tw_wv (wr := [((q 47), aI g 128 nw)]) (tw_runV (ws := [(h0, .inr (10, mob q rf n mm mb fa fp av ev wi mn tp tc sc nf fd me mp xn mt wh tq ag an ig)), ((q 47), aI g 128 nw)]) (wc := [(h0, .inr (10, mob q rf n mm mb fa fp av ev wi mn tp tc sc nf fd me mp xn mt wh tq ag an ig))]) (As := [.int 22, .int (nI wh)]) (rest := []) E hB hK hZ (g_Mod_fail l g H.size h0 q rf n mm mb av ev wi mn tp tc sc nf fd me mp xn mt wh tq ag an ig fa fp 22 (nI wh) (by decide)) mc_Mod_fail mi_Mod_fail me_Mod_fail wd_1478 hP hD hS hA [0] rfl (by decide) 0 rfl rfl rfl rfl rfl (by decide) rfl hl.1 rfl (Nat.le_of_ble_eq_true rfl) (by decide) d_Mod_takeSingle_21) hP hD hS hA [0] [1] rfl rfl (by decide) (by decide) (fun u4 H locs hr3 hP hD hS => ?_)
      try dsimp only at hr3
      have hP : va_P g.1 classes [((q 47), aI g 128 nw), (h0, .inr (10, mob q rf n mm mb u4.1 u4.2 av ev wi mn tp tc sc nf fd me mp xn mt wh tq ag an ig))] H := hP
      have hD : va_D A [((q 47), aI g 128 nw), (h0, .inr (10, mob q rf n mm mb u4.1 u4.2 av ev wi mn tp tc sc nf fd me mp xn mt wh tq ag an ig))] := hD
      have hP : va_P g.1 classes [(h0, .inr (10, mob q rf n mm mb u4.1 u4.2 av ev wi mn tp tc sc nf fd me mp xn mt wh tq ag an ig)), ((q 47), aI g 128 nw)] H := hP.sub [1, 0] rfl
      have hD : va_D A [(h0, .inr (10, mob q rf n mm mb u4.1 u4.2 av ev wi mn tp tc sc nf fd me mp xn mt wh tq ag an ig)), ((q 47), aI g 128 nw)] := hD.sub [1, 0] (by decide) rfl
      have hp4_0 := hr3
      refine lv_aload_n hx hb d_Mod_takeSingle_24 rfl (lv_at hl 0 rfl) ?_
      refine va_get (D := g.1) (ci := 10) (v := .int u4.1) (C := R_Mod) (T := F_Mod) (N := 61) hx hb hts in_Mod hown hK hP 0 rfl rfl 8 (by decide) (hts _ wd_1258) (fun _ h9 => h9) rfl d_Mod_takeSingle_25 ?_
      refine lv_if_ne (tgt := 48) hx hb d_Mod_takeSingle_28 (by decide) (fun h28 => ?_) (fun h28 => ?_)
      · refine lv_iconst (v := 0) hx hb d_Mod_takeSingle_48 (by decide) ?_
        refine lv_istore_n hx hb d_Mod_takeSingle_49 rfl hl (by decide) rfl (fun ls hl => ?_)
        have hl : lv_has ls 2 [(1, .int 0), (0, .ref h0)] := hl
        refine lv_aload_n hx hb d_Mod_takeSingle_50 rfl (lv_at hl 1 rfl) ?_
        refine va_get (D := g.1) (ci := 10) (v := .int u4.1) (C := R_Mod) (T := F_Mod) (N := 61) hx hb hts in_Mod hown hK hP 0 rfl rfl 8 (by decide) (hts _ wd_1258) (fun _ h9 => h9) rfl d_Mod_takeSingle_51 ?_
        refine lv_if_ne (tgt := 72) hx hb d_Mod_takeSingle_54 (by decide) (fun h54 => ?_) (fun h54 => ?_)
        · refine lv_aload_n hx hb d_Mod_takeSingle_72 rfl (lv_at hl 1 rfl) ?_
          refine lv_aload_n hx hb d_Mod_takeSingle_73 rfl (lv_at hl 1 rfl) ?_
          refine va_get (D := g.1) (ci := 10) (v := .int u4.1) (C := R_Mod) (T := F_Mod) (N := 61) hx hb hts in_Mod hown hK hP 0 rfl rfl 8 (by decide) (hts _ wd_1258) (fun _ h9 => h9) rfl d_Mod_takeSingle_74 ?_
          refine lv_if_ne (tgt := 89) hx hb d_Mod_takeSingle_77 (by decide) (fun h77 => ?_) (fun h77 => ?_)
          · refine lv_aload_n hx hb d_Mod_takeSingle_89 rfl (lv_at hl 1 rfl) ?_
            refine va_get (D := g.1) (ci := 10) (v := .int (nI tq)) (C := R_Mod) (T := F_Mod) (N := 61) hx hb hts in_Mod hown hK hP 0 rfl rfl 46 (by decide) (hts _ wd_1296) (fun _ h9 => h9) rfl d_Mod_takeSingle_90 ?_
            refine va_put (D := g.1) (ci := 10) (v := .int (nI tq)) (ty := .int) (C := R_Mod) (T := F_Mod) (N := 61) hx hb hts in_Mod t_Mod t_Mod_ok n_Mod hown hK hP hD hS 0 rfl rfl 46 (by decide) (hts _ wd_1296) (fun _ h9 => h9) rfl (t_Mod_ok 46 (by decide)) rfl rfl (Nat.le_of_ble_eq_true rfl) d_Mod_takeSingle_93 (fun H locs hP hD hS => ?_)
            have hP : va_P g.1 classes [(h0, .inr (10, mob q rf n mm mb u4.1 u4.2 av ev wi mn tp tc sc nf fd me mp xn mt wh tq ag an ig)), ((q 47), aI g 128 nw)] H := hP
            have hD : va_D A [(h0, .inr (10, mob q rf n mm mb u4.1 u4.2 av ev wi mn tp tc sc nf fd me mp xn mt wh tq ag an ig)), ((q 47), aI g 128 nw)] := hD
            refine lv_iload_n hx hb d_Mod_takeSingle_96 rfl (lv_at hl 0 rfl) ?_
            exact tw_iret E hS (u4.1, u4.2, tq) (⟨(fun h => absurd h h77), (by first | omega | (dsimp only <;> omega)), (by first | omega | (dsimp only <;> omega)), (fun h => absurd h h77)⟩) hP hD d_Mod_takeSingle_97
          · exact absurd h77 h54
        · exact absurd h54 h28
      · exact absurd h28 hp4_0
set_option maxHeartbeats 4000000 in
set_option maxRecDepth 100000 in
theorem g_Mod_give (l : Launch) (g : tw_G) (sz : Nat) (h0 : Nat) (q : Nat → Nat) (rf : Int32) (n : Nat) (mm : Int32) (mb : Int32) (av : Nat) (ev : Nat) (wi : Int32) (mn : Nat) (tp : Int32) (tc : Int32) (sc : Int32) (nf : Nat) (fd : Nat) (me : Nat) (mp : Int32) (xn : Nat) (mt : Nat) (wh : Nat) (ag : Nat) (an : Int32) (ig : Int32) (sk : Nat → Int32) (fa : Int32) (fp : Int32) (tq : Nat) (nw : Nat → Int32) (kd1 : Int32) (s1 : Nat) (hNW : NOW nw) (htq : tq ≤ 64) (hmt : mt < 160) (hsk : sk mt = nI s1) (hs64 : s1 ≤ 64) (hk3 : fa = 0 → ¬ kd1 = 3) : Met l y_Mod_give [.code y_Mod_give b_Mod_give 3 none] ({ frames := 1, cells := 0, slots := 0, locals := 22 }) (tw_P g [.ref h0, .int kd1] [(h0, .inr (10, mob q rf n mm mb fa fp av ev wi mn tp tc sc nf fd me mp xn mt wh tq ag an ig)), ((q 32), aI g 160 sk), ((q 47), aI g 128 nw)] sz) (tw_Qv g (fun (u : Int32 × Int32 × Nat × (Nat → Int32)) => (u.1 = 0 → fa = 0) ∧ (u.2.2.1 ≤ 64) ∧ (NOW u.2.2.2)) (fun u : Int32 × Int32 × Nat × (Nat → Int32) => [(h0, .inr (10, mob q rf n mm mb u.1 u.2.1 av ev wi mn tp tc sc nf fd me mp xn mt wh u.2.2.1 ag an ig)), ((q 32), aI g 160 sk), ((q 47), aI g 128 u.2.2.2)]) (va_A [(h0, .inr (10, mob q rf n mm mb fa fp av ev wi mn tp tc sc nf fd me mp xn mt wh tq ag an ig)), ((q 32), aI g 160 sk), ((q 47), aI g 128 nw)] sz)) 0 0 (va_A [(h0, .inr (10, mob q rf n mm mb fa fp av ev wi mn tp tc sc nf fd me mp xn mt wh tq ag an ig)), ((q 32), aI g 160 sk), ((q 47), aI g 128 nw)] sz) := by
  refine tw_metW (l := l) (g := g) (y := y_Mod_give) (cc := b_Mod_give) (maxL := 3) (ret := none) (rm := { frames := 1, cells := 0, slots := 0, locals := 22 }) (mc := 0) (ms := 0) (av := [.ref h0, .int kd1]) (ws := [(h0, .inr (10, mob q rf n mm mb fa fp av ev wi mn tp tc sc nf fd me mp xn mt wh tq ag an ig)), ((q 32), aI g 160 sk), ((q 47), aI g 128 nw)]) (sz := sz) (Qc := fun A => (tw_Qv g (fun (u : Int32 × Int32 × Nat × (Nat → Int32)) => (u.1 = 0 → fa = 0) ∧ (u.2.2.1 ≤ 64) ∧ (NOW u.2.2.2)) (fun u : Int32 × Int32 × Nat × (Nat → Int32) => [(h0, .inr (10, mob q rf n mm mb u.1 u.2.1 av ev wi mn tp tc sc nf fd me mp xn mt wh u.2.2.1 ag an ig)), ((q 32), aI g 160 sk), ((q 47), aI g 128 u.2.2.2)]) A)) (by decide) (Nat.le_of_ble_eq_true rfl) ?_
  intro p e s m below meth c ls H A E hB hK hZ hP hD hS hA hl
  obtain ⟨hx, hb, hml, hr, hown, hts, hlocks, hin⟩ := id E
  have hl : lv_has ls 3 [(0, .ref h0), (1, .int kd1)] := hl
  refine lv_aload_n hx hb d_Mod_give_0 rfl (lv_at hl 0 rfl) ?_
  refine va_get (D := g.1) (ci := 10) (v := .int fa) (C := R_Mod) (T := F_Mod) (N := 61) hx hb hts in_Mod hown hK hP 0 rfl rfl 8 (by decide) (hts _ wd_1258) (fun _ h9 => h9) rfl d_Mod_give_1 ?_
  refine lv_if_eq (tgt := 8) hx hb d_Mod_give_4 (by decide) (fun h4 => ?_) (fun h4 => ?_)
  · refine lv_iload_n hx hb d_Mod_give_8 rfl (lv_at hl 1 rfl) ?_
    refine lv_iconst (v := 2) hx hb d_Mod_give_9 (by decide) ?_
    refine lv_icmp_ne (tgt := 17) hx hb d_Mod_give_10 (by decide) (fun h10 => ?_) (fun h10 => ?_)
    · refine lv_iconst (v := 1) hx hb d_Mod_give_17 (by decide) ?_
      refine lv_istore_n hx hb d_Mod_give_18 rfl hl (by decide) rfl (fun ls hl => ?_)
      have hl : lv_has ls 3 [(2, .int 1), (0, .ref h0), (1, .int kd1)] := hl
      refine lv_iload_n hx hb d_Mod_give_19 rfl (lv_at hl 2 rfl) ?_
      refine lv_bipush (v := 9) hx hb d_Mod_give_20 (by decide) ?_
      refine lv_icmp_lt (tgt := 38) hx hb d_Mod_give_22 (by decide) (fun h22 => ?_) (fun h22 => ?_)
      · refine lv_aload_n hx hb d_Mod_give_38 rfl (lv_at hl 1 rfl) ?_
        refine va_get (D := g.1) (ci := 10) (v := .int (nI tq)) (C := R_Mod) (T := F_Mod) (N := 61) hx hb hts in_Mod hown hK hP 0 rfl rfl 46 (by decide) (hts _ wd_1296) (fun _ h9 => h9) rfl d_Mod_give_39 ?_
        refine lv_iload_n hx hb d_Mod_give_42 rfl (lv_at hl 0 rfl) ?_
        refine lv_iadd hx hb d_Mod_give_43 ?_
        refine tw_ri (e2 := nI (tq + 1)) (nI_add tq 1) ?_
        refine lv_aload_n hx hb d_Mod_give_44 rfl (lv_at hl 1 rfl) ?_
        refine va_get (D := g.1) (ci := 10) (v := .ref (q 32)) (C := R_Mod) (T := F_Mod) (N := 61) hx hb hts in_Mod hown hK hP 0 rfl rfl 32 (by decide) (hts _ wd_1282) (fun _ h9 => h9) rfl d_Mod_give_45 ?_
        refine lv_aload_n hx hb d_Mod_give_48 rfl (lv_at hl 1 rfl) ?_
        refine va_get (D := g.1) (ci := 10) (v := .int (nI mt)) (C := R_Mod) (T := F_Mod) (N := 61) hx hb hts in_Mod hown hK hP 0 rfl rfl 44 (by decide) (hts _ wd_1294) (fun _ h9 => h9) rfl d_Mod_give_49 ?_
        refine va_iald hx hb hK hP 1 0 rfl rfl (vp_in_nI (by omega) (by decide)) d_Mod_give_52 ?_
        refine tw_ri (e2 := nI s1) (by rw [nI_clamp (by omega)]; exact hsk) ?_
        refine lv_icmp_le (tgt := 69) hx hb d_Mod_give_53 (by decide) (fun h53 => ?_) (fun h53 => ?_)
        · have h53 := tn_le h53 (by omega) (by omega)
          refine lv_aload_n hx hb d_Mod_give_69 rfl (lv_at hl 1 rfl) ?_
          refine va_get (D := g.1) (ci := 10) (v := .ref (q 47)) (C := R_Mod) (T := F_Mod) (N := 61) hx hb hts in_Mod hown hK hP 0 rfl rfl 47 (by decide) (hts _ wd_1297) (fun _ h9 => h9) rfl d_Mod_give_70 ?_
          refine lv_bipush (v := 64) hx hb d_Mod_give_73 (by decide) ?_
          refine lv_aload_n hx hb d_Mod_give_75 rfl (lv_at hl 1 rfl) ?_
          refine va_get (D := g.1) (ci := 10) (v := .int (nI tq)) (C := R_Mod) (T := F_Mod) (N := 61) hx hb hts in_Mod hown hK hP 0 rfl rfl 46 (by decide) (hts _ wd_1296) (fun _ h9 => h9) rfl d_Mod_give_76 ?_
          refine lv_iadd hx hb d_Mod_give_79 ?_
          refine tw_ri (e2 := nI (64 + tq)) (nI_add 64 tq) ?_
          refine lv_iload_n hx hb d_Mod_give_80 rfl (lv_at hl 2 rfl) ?_
          refine va_iast hx hb hK hP hD hS 2 0 rfl rfl (vp_in_nI (by omega) (by decide)) d_Mod_give_81 (fun H locs hP hD hS => ?_)
          have hP : va_P g.1 classes [(h0, .inr (10, mob q rf n mm mb fa fp av ev wi mn tp tc sc nf fd me mp xn mt wh tq ag an ig)), ((q 32), aI g 160 sk), ((q 47), aI g 128 (upd nw (nI (64 + tq)).toNatClampNeg kd1))] H := hP
          have hD : va_D A [(h0, .inr (10, mob q rf n mm mb fa fp av ev wi mn tp tc sc nf fd me mp xn mt wh tq ag an ig)), ((q 32), aI g 160 sk), ((q 47), aI g 128 (upd nw (nI (64 + tq)).toNatClampNeg kd1))] := hD
          have e9 : upd nw (nI (64 + tq)).toNatClampNeg kd1 = upd nw (64 + tq) kd1 := by rw [nI_clamp (by omega)]
          rw [e9] at hP hD
          refine lv_iload_n hx hb d_Mod_give_82 rfl (lv_at hl 2 rfl) ?_
          refine lv_iconst (v := 2) hx hb d_Mod_give_83 (by decide) ?_
          refine lv_icmp_ne (tgt := 102) hx hb d_Mod_give_84 (by decide) (fun h84 => ?_) (fun h84 => ?_)
          · refine lv_aload_n hx hb d_Mod_give_102 rfl (lv_at hl 1 rfl) ?_
            refine lv_aload_n hx hb d_Mod_give_103 rfl (lv_at hl 1 rfl) ?_
            refine va_get (D := g.1) (ci := 10) (v := .int (nI tq)) (C := R_Mod) (T := F_Mod) (N := 61) hx hb hts in_Mod hown hK hP 0 rfl rfl 46 (by decide) (hts _ wd_1296) (fun _ h9 => h9) rfl d_Mod_give_104 ?_
            refine lv_iload_n hx hb d_Mod_give_107 rfl (lv_at hl 0 rfl) ?_
            refine lv_iadd hx hb d_Mod_give_108 ?_
            refine tw_ri (e2 := nI (tq + 1)) (nI_add tq 1) ?_
            refine va_put (D := g.1) (ci := 10) (v := .int (nI (tq + 1))) (ty := .int) (C := R_Mod) (T := F_Mod) (N := 61) hx hb hts in_Mod t_Mod t_Mod_ok n_Mod hown hK hP hD hS 0 rfl rfl 46 (by decide) (hts _ wd_1296) (fun _ h9 => h9) rfl (t_Mod_ok 46 (by decide)) rfl rfl (Nat.le_of_ble_eq_true rfl) d_Mod_give_109 (fun H locs hP hD hS => ?_)
            have hP : va_P g.1 classes [(h0, .inr (10, mob q rf n mm mb fa fp av ev wi mn tp tc sc nf fd me mp xn mt wh (tq + 1) ag an ig)), ((q 32), aI g 160 sk), ((q 47), aI g 128 (upd nw (64 + tq) kd1))] H := hP
            have hD : va_D A [(h0, .inr (10, mob q rf n mm mb fa fp av ev wi mn tp tc sc nf fd me mp xn mt wh (tq + 1) ag an ig)), ((q 32), aI g 160 sk), ((q 47), aI g 128 (upd nw (64 + tq) kd1))] := hD
            exact tw_vret E hS (fa, fp, tq + 1, upd nw (64 + tq) kd1) (⟨(fun h => h), (by first | omega | (dsimp only <;> omega)), (hNW.put (hk3 h4))⟩) hP hD d_Mod_give_112
          · exact absurd h84 h10
        · refine lv_aload_n hx hb d_Mod_give_56 rfl (lv_at hl 1 rfl) ?_
          refine lv_bipush (v := 22) hx hb d_Mod_give_57 (by decide) ?_
          refine lv_aload_n hx hb d_Mod_give_59 rfl (lv_at hl 1 rfl) ?_
          refine va_get (D := g.1) (ci := 10) (v := .int (nI wh)) (C := R_Mod) (T := F_Mod) (N := 61) hx hb hts in_Mod hown hK hP 0 rfl rfl 45 (by decide) (hts _ wd_1295) (fun _ h9 => h9) rfl d_Mod_give_60 ?_
          refine tw_wv (wr := [((q 32), aI g 160 sk), ((q 47), aI g 128 nw)]) (tw_runV (ws := [(h0, .inr (10, mob q rf n mm mb fa fp av ev wi mn tp tc sc nf fd me mp xn mt wh tq ag an ig)), ((q 32), aI g 160 sk), ((q 47), aI g 128 nw)]) (wc := [(h0, .inr (10, mob q rf n mm mb fa fp av ev wi mn tp tc sc nf fd me mp xn mt wh tq ag an ig))]) (As := [.int 22, .int (nI wh)]) (rest := []) E hB hK hZ (g_Mod_fail l g H.size h0 q rf n mm mb av ev wi mn tp tc sc nf fd me mp xn mt wh tq ag an ig fa fp 22 (nI wh) (by decide)) mc_Mod_fail mi_Mod_fail me_Mod_fail wd_1478 hP hD hS hA [0] rfl (by decide) 0 rfl rfl rfl rfl rfl (by decide) rfl hl.1 rfl (Nat.le_of_ble_eq_true rfl) (by decide) d_Mod_give_63) hP hD hS hA [0] [1, 2] rfl rfl (by decide) (by decide) (fun u2 H locs hr1 hP hD hS => ?_)
          try dsimp only at hr1
          have hP : va_P g.1 classes [((q 32), aI g 160 sk), ((q 47), aI g 128 nw), (h0, .inr (10, mob q rf n mm mb u2.1 u2.2 av ev wi mn tp tc sc nf fd me mp xn mt wh tq ag an ig))] H := hP
          have hD : va_D A [((q 32), aI g 160 sk), ((q 47), aI g 128 nw), (h0, .inr (10, mob q rf n mm mb u2.1 u2.2 av ev wi mn tp tc sc nf fd me mp xn mt wh tq ag an ig))] := hD
          have hP : va_P g.1 classes [(h0, .inr (10, mob q rf n mm mb u2.1 u2.2 av ev wi mn tp tc sc nf fd me mp xn mt wh tq ag an ig)), ((q 32), aI g 160 sk), ((q 47), aI g 128 nw)] H := hP.sub [2, 0, 1] rfl
          have hD : va_D A [(h0, .inr (10, mob q rf n mm mb u2.1 u2.2 av ev wi mn tp tc sc nf fd me mp xn mt wh tq ag an ig)), ((q 32), aI g 160 sk), ((q 47), aI g 128 nw)] := hD.sub [2, 0, 1] (by decide) rfl
          have hp2_0 := hr1
          refine lv_goto (tgt := 112) hx hb d_Mod_give_66 (by decide) ?_
          exact tw_vret E hS (u2.1, u2.2, tq, nw) (⟨(fun h => absurd h hp2_0), (by first | omega | (dsimp only <;> omega)), hNW⟩) hP hD d_Mod_give_112
      · refine lv_aload_n hx hb d_Mod_give_25 rfl (lv_at hl 1 rfl) ?_
        refine lv_bipush (v := 23) hx hb d_Mod_give_26 (by decide) ?_
        refine lv_aload_n hx hb d_Mod_give_28 rfl (lv_at hl 1 rfl) ?_
        refine va_get (D := g.1) (ci := 10) (v := .int (nI wh)) (C := R_Mod) (T := F_Mod) (N := 61) hx hb hts in_Mod hown hK hP 0 rfl rfl 45 (by decide) (hts _ wd_1295) (fun _ h9 => h9) rfl d_Mod_give_29 ?_
        refine tw_wv (wr := [((q 32), aI g 160 sk), ((q 47), aI g 128 nw)]) (tw_runV (ws := [(h0, .inr (10, mob q rf n mm mb fa fp av ev wi mn tp tc sc nf fd me mp xn mt wh tq ag an ig)), ((q 32), aI g 160 sk), ((q 47), aI g 128 nw)]) (wc := [(h0, .inr (10, mob q rf n mm mb fa fp av ev wi mn tp tc sc nf fd me mp xn mt wh tq ag an ig))]) (As := [.int 23, .int (nI wh)]) (rest := []) E hB hK hZ (g_Mod_fail l g H.size h0 q rf n mm mb av ev wi mn tp tc sc nf fd me mp xn mt wh tq ag an ig fa fp 23 (nI wh) (by decide)) mc_Mod_fail mi_Mod_fail me_Mod_fail wd_1478 hP hD hS hA [0] rfl (by decide) 0 rfl rfl rfl rfl rfl (by decide) rfl hl.1 rfl (Nat.le_of_ble_eq_true rfl) (by decide) d_Mod_give_32) hP hD hS hA [0] [1, 2] rfl rfl (by decide) (by decide) (fun u4 H locs hr3 hP hD hS => ?_)
        try dsimp only at hr3
        have hP : va_P g.1 classes [((q 32), aI g 160 sk), ((q 47), aI g 128 nw), (h0, .inr (10, mob q rf n mm mb u4.1 u4.2 av ev wi mn tp tc sc nf fd me mp xn mt wh tq ag an ig))] H := hP
        have hD : va_D A [((q 32), aI g 160 sk), ((q 47), aI g 128 nw), (h0, .inr (10, mob q rf n mm mb u4.1 u4.2 av ev wi mn tp tc sc nf fd me mp xn mt wh tq ag an ig))] := hD
        have hP : va_P g.1 classes [(h0, .inr (10, mob q rf n mm mb u4.1 u4.2 av ev wi mn tp tc sc nf fd me mp xn mt wh tq ag an ig)), ((q 32), aI g 160 sk), ((q 47), aI g 128 nw)] H := hP.sub [2, 0, 1] rfl
        have hD : va_D A [(h0, .inr (10, mob q rf n mm mb u4.1 u4.2 av ev wi mn tp tc sc nf fd me mp xn mt wh tq ag an ig)), ((q 32), aI g 160 sk), ((q 47), aI g 128 nw)] := hD.sub [2, 0, 1] (by decide) rfl
        have hp4_0 := hr3
        refine lv_goto (tgt := 112) hx hb d_Mod_give_35 (by decide) ?_
        exact tw_vret E hS (u4.1, u4.2, tq, nw) (⟨(fun h => absurd h hp4_0), (by first | omega | (dsimp only <;> omega)), hNW⟩) hP hD d_Mod_give_112
    · refine lv_iconst (v := 2) hx hb d_Mod_give_13 (by decide) ?_
      refine lv_goto (tgt := 18) hx hb d_Mod_give_14 (by decide) ?_
      refine lv_istore_n hx hb d_Mod_give_18 rfl hl (by decide) rfl (fun ls hl => ?_)
      have hl : lv_has ls 3 [(2, .int 2), (0, .ref h0), (1, .int kd1)] := hl
      refine lv_iload_n hx hb d_Mod_give_19 rfl (lv_at hl 2 rfl) ?_
      refine lv_bipush (v := 9) hx hb d_Mod_give_20 (by decide) ?_
      refine lv_icmp_lt (tgt := 38) hx hb d_Mod_give_22 (by decide) (fun h22 => ?_) (fun h22 => ?_)
      · refine lv_aload_n hx hb d_Mod_give_38 rfl (lv_at hl 1 rfl) ?_
        refine va_get (D := g.1) (ci := 10) (v := .int (nI tq)) (C := R_Mod) (T := F_Mod) (N := 61) hx hb hts in_Mod hown hK hP 0 rfl rfl 46 (by decide) (hts _ wd_1296) (fun _ h9 => h9) rfl d_Mod_give_39 ?_
        refine lv_iload_n hx hb d_Mod_give_42 rfl (lv_at hl 0 rfl) ?_
        refine lv_iadd hx hb d_Mod_give_43 ?_
        refine tw_ri (e2 := nI (tq + 2)) (nI_add tq 2) ?_
        refine lv_aload_n hx hb d_Mod_give_44 rfl (lv_at hl 1 rfl) ?_
        refine va_get (D := g.1) (ci := 10) (v := .ref (q 32)) (C := R_Mod) (T := F_Mod) (N := 61) hx hb hts in_Mod hown hK hP 0 rfl rfl 32 (by decide) (hts _ wd_1282) (fun _ h9 => h9) rfl d_Mod_give_45 ?_
        refine lv_aload_n hx hb d_Mod_give_48 rfl (lv_at hl 1 rfl) ?_
        refine va_get (D := g.1) (ci := 10) (v := .int (nI mt)) (C := R_Mod) (T := F_Mod) (N := 61) hx hb hts in_Mod hown hK hP 0 rfl rfl 44 (by decide) (hts _ wd_1294) (fun _ h9 => h9) rfl d_Mod_give_49 ?_
        refine va_iald hx hb hK hP 1 0 rfl rfl (vp_in_nI (by omega) (by decide)) d_Mod_give_52 ?_
        refine tw_ri (e2 := nI s1) (by rw [nI_clamp (by omega)]; exact hsk) ?_
        refine lv_icmp_le (tgt := 69) hx hb d_Mod_give_53 (by decide) (fun h53 => ?_) (fun h53 => ?_)
        · have h53 := tn_le h53 (by omega) (by omega)
          refine lv_aload_n hx hb d_Mod_give_69 rfl (lv_at hl 1 rfl) ?_
          refine va_get (D := g.1) (ci := 10) (v := .ref (q 47)) (C := R_Mod) (T := F_Mod) (N := 61) hx hb hts in_Mod hown hK hP 0 rfl rfl 47 (by decide) (hts _ wd_1297) (fun _ h9 => h9) rfl d_Mod_give_70 ?_
          refine lv_bipush (v := 64) hx hb d_Mod_give_73 (by decide) ?_
          refine lv_aload_n hx hb d_Mod_give_75 rfl (lv_at hl 1 rfl) ?_
          refine va_get (D := g.1) (ci := 10) (v := .int (nI tq)) (C := R_Mod) (T := F_Mod) (N := 61) hx hb hts in_Mod hown hK hP 0 rfl rfl 46 (by decide) (hts _ wd_1296) (fun _ h9 => h9) rfl d_Mod_give_76 ?_
          refine lv_iadd hx hb d_Mod_give_79 ?_
          refine tw_ri (e2 := nI (64 + tq)) (nI_add 64 tq) ?_
          refine lv_iload_n hx hb d_Mod_give_80 rfl (lv_at hl 2 rfl) ?_
          refine va_iast hx hb hK hP hD hS 2 0 rfl rfl (vp_in_nI (by omega) (by decide)) d_Mod_give_81 (fun H locs hP hD hS => ?_)
          have hP : va_P g.1 classes [(h0, .inr (10, mob q rf n mm mb fa fp av ev wi mn tp tc sc nf fd me mp xn mt wh tq ag an ig)), ((q 32), aI g 160 sk), ((q 47), aI g 128 (upd nw (nI (64 + tq)).toNatClampNeg kd1))] H := hP
          have hD : va_D A [(h0, .inr (10, mob q rf n mm mb fa fp av ev wi mn tp tc sc nf fd me mp xn mt wh tq ag an ig)), ((q 32), aI g 160 sk), ((q 47), aI g 128 (upd nw (nI (64 + tq)).toNatClampNeg kd1))] := hD
          have e9 : upd nw (nI (64 + tq)).toNatClampNeg kd1 = upd nw (64 + tq) kd1 := by rw [nI_clamp (by omega)]
          rw [e9] at hP hD
          refine lv_iload_n hx hb d_Mod_give_82 rfl (lv_at hl 2 rfl) ?_
          refine lv_iconst (v := 2) hx hb d_Mod_give_83 (by decide) ?_
          refine lv_icmp_ne (tgt := 102) hx hb d_Mod_give_84 (by decide) (fun h84 => ?_) (fun h84 => ?_)
          · exact absurd h10 h84
          · refine lv_aload_n hx hb d_Mod_give_87 rfl (lv_at hl 1 rfl) ?_
            refine va_get (D := g.1) (ci := 10) (v := .ref (q 47)) (C := R_Mod) (T := F_Mod) (N := 61) hx hb hts in_Mod hown hK hP 0 rfl rfl 47 (by decide) (hts _ wd_1297) (fun _ h9 => h9) rfl d_Mod_give_88 ?_
            refine lv_bipush (v := 64) hx hb d_Mod_give_91 (by decide) ?_
            refine lv_aload_n hx hb d_Mod_give_93 rfl (lv_at hl 1 rfl) ?_
            refine va_get (D := g.1) (ci := 10) (v := .int (nI tq)) (C := R_Mod) (T := F_Mod) (N := 61) hx hb hts in_Mod hown hK hP 0 rfl rfl 46 (by decide) (hts _ wd_1296) (fun _ h9 => h9) rfl d_Mod_give_94 ?_
            refine lv_iadd hx hb d_Mod_give_97 ?_
            refine tw_ri (e2 := nI (64 + tq)) (nI_add 64 tq) ?_
            refine lv_iconst (v := 1) hx hb d_Mod_give_98 (by decide) ?_
            refine lv_iadd hx hb d_Mod_give_99 ?_
            refine tw_ri (e2 := nI (64 + tq + 1)) (nI_add _ 1) ?_
            refine lv_iconst (v := 3) hx hb d_Mod_give_100 (by decide) ?_
            refine va_iast hx hb hK hP hD hS 2 0 rfl rfl (vp_in_nI (by omega) (by decide)) d_Mod_give_101 (fun H locs hP hD hS => ?_)
            have hP : va_P g.1 classes [(h0, .inr (10, mob q rf n mm mb fa fp av ev wi mn tp tc sc nf fd me mp xn mt wh tq ag an ig)), ((q 32), aI g 160 sk), ((q 47), aI g 128 (upd (upd nw (64 + tq) kd1) (nI (64 + tq + 1)).toNatClampNeg 3))] H := hP
            have hD : va_D A [(h0, .inr (10, mob q rf n mm mb fa fp av ev wi mn tp tc sc nf fd me mp xn mt wh tq ag an ig)), ((q 32), aI g 160 sk), ((q 47), aI g 128 (upd (upd nw (64 + tq) kd1) (nI (64 + tq + 1)).toNatClampNeg 3))] := hD
            have e9 : upd (upd nw (64 + tq) kd1) (nI (64 + tq + 1)).toNatClampNeg 3 = upd (upd nw (64 + tq) kd1) (64 + tq + 1) 3 := by rw [nI_clamp (by omega)]
            rw [e9] at hP hD
            refine lv_aload_n hx hb d_Mod_give_102 rfl (lv_at hl 1 rfl) ?_
            refine lv_aload_n hx hb d_Mod_give_103 rfl (lv_at hl 1 rfl) ?_
            refine va_get (D := g.1) (ci := 10) (v := .int (nI tq)) (C := R_Mod) (T := F_Mod) (N := 61) hx hb hts in_Mod hown hK hP 0 rfl rfl 46 (by decide) (hts _ wd_1296) (fun _ h9 => h9) rfl d_Mod_give_104 ?_
            refine lv_iload_n hx hb d_Mod_give_107 rfl (lv_at hl 0 rfl) ?_
            refine lv_iadd hx hb d_Mod_give_108 ?_
            refine tw_ri (e2 := nI (tq + 2)) (nI_add tq 2) ?_
            refine va_put (D := g.1) (ci := 10) (v := .int (nI (tq + 2))) (ty := .int) (C := R_Mod) (T := F_Mod) (N := 61) hx hb hts in_Mod t_Mod t_Mod_ok n_Mod hown hK hP hD hS 0 rfl rfl 46 (by decide) (hts _ wd_1296) (fun _ h9 => h9) rfl (t_Mod_ok 46 (by decide)) rfl rfl (Nat.le_of_ble_eq_true rfl) d_Mod_give_109 (fun H locs hP hD hS => ?_)
            have hP : va_P g.1 classes [(h0, .inr (10, mob q rf n mm mb fa fp av ev wi mn tp tc sc nf fd me mp xn mt wh (tq + 2) ag an ig)), ((q 32), aI g 160 sk), ((q 47), aI g 128 (upd (upd nw (64 + tq) kd1) (64 + tq + 1) 3))] H := hP
            have hD : va_D A [(h0, .inr (10, mob q rf n mm mb fa fp av ev wi mn tp tc sc nf fd me mp xn mt wh (tq + 2) ag an ig)), ((q 32), aI g 160 sk), ((q 47), aI g 128 (upd (upd nw (64 + tq) kd1) (64 + tq + 1) 3))] := hD
            exact tw_vret E hS (fa, fp, tq + 2, upd (upd nw (64 + tq) kd1) (64 + tq + 1) 3) (⟨(fun h => h), (by first | omega | (dsimp only <;> omega)), ((hNW.put (hk3 h4)).put2 (by omega) (by omega))⟩) hP hD d_Mod_give_112
        · refine lv_aload_n hx hb d_Mod_give_56 rfl (lv_at hl 1 rfl) ?_
          refine lv_bipush (v := 22) hx hb d_Mod_give_57 (by decide) ?_
          refine lv_aload_n hx hb d_Mod_give_59 rfl (lv_at hl 1 rfl) ?_
          refine va_get (D := g.1) (ci := 10) (v := .int (nI wh)) (C := R_Mod) (T := F_Mod) (N := 61) hx hb hts in_Mod hown hK hP 0 rfl rfl 45 (by decide) (hts _ wd_1295) (fun _ h9 => h9) rfl d_Mod_give_60 ?_
          refine tw_wv (wr := [((q 32), aI g 160 sk), ((q 47), aI g 128 nw)]) (tw_runV (ws := [(h0, .inr (10, mob q rf n mm mb fa fp av ev wi mn tp tc sc nf fd me mp xn mt wh tq ag an ig)), ((q 32), aI g 160 sk), ((q 47), aI g 128 nw)]) (wc := [(h0, .inr (10, mob q rf n mm mb fa fp av ev wi mn tp tc sc nf fd me mp xn mt wh tq ag an ig))]) (As := [.int 22, .int (nI wh)]) (rest := []) E hB hK hZ (g_Mod_fail l g H.size h0 q rf n mm mb av ev wi mn tp tc sc nf fd me mp xn mt wh tq ag an ig fa fp 22 (nI wh) (by decide)) mc_Mod_fail mi_Mod_fail me_Mod_fail wd_1478 hP hD hS hA [0] rfl (by decide) 0 rfl rfl rfl rfl rfl (by decide) rfl hl.1 rfl (Nat.le_of_ble_eq_true rfl) (by decide) d_Mod_give_63) hP hD hS hA [0] [1, 2] rfl rfl (by decide) (by decide) (fun u6 H locs hr5 hP hD hS => ?_)
          try dsimp only at hr5
          have hP : va_P g.1 classes [((q 32), aI g 160 sk), ((q 47), aI g 128 nw), (h0, .inr (10, mob q rf n mm mb u6.1 u6.2 av ev wi mn tp tc sc nf fd me mp xn mt wh tq ag an ig))] H := hP
          have hD : va_D A [((q 32), aI g 160 sk), ((q 47), aI g 128 nw), (h0, .inr (10, mob q rf n mm mb u6.1 u6.2 av ev wi mn tp tc sc nf fd me mp xn mt wh tq ag an ig))] := hD
          have hP : va_P g.1 classes [(h0, .inr (10, mob q rf n mm mb u6.1 u6.2 av ev wi mn tp tc sc nf fd me mp xn mt wh tq ag an ig)), ((q 32), aI g 160 sk), ((q 47), aI g 128 nw)] H := hP.sub [2, 0, 1] rfl
          have hD : va_D A [(h0, .inr (10, mob q rf n mm mb u6.1 u6.2 av ev wi mn tp tc sc nf fd me mp xn mt wh tq ag an ig)), ((q 32), aI g 160 sk), ((q 47), aI g 128 nw)] := hD.sub [2, 0, 1] (by decide) rfl
          have hp6_0 := hr5
          refine lv_goto (tgt := 112) hx hb d_Mod_give_66 (by decide) ?_
          exact tw_vret E hS (u6.1, u6.2, tq, nw) (⟨(fun h => absurd h hp6_0), (by first | omega | (dsimp only <;> omega)), hNW⟩) hP hD d_Mod_give_112
      · refine lv_aload_n hx hb d_Mod_give_25 rfl (lv_at hl 1 rfl) ?_
        refine lv_bipush (v := 23) hx hb d_Mod_give_26 (by decide) ?_
        refine lv_aload_n hx hb d_Mod_give_28 rfl (lv_at hl 1 rfl) ?_
        refine va_get (D := g.1) (ci := 10) (v := .int (nI wh)) (C := R_Mod) (T := F_Mod) (N := 61) hx hb hts in_Mod hown hK hP 0 rfl rfl 45 (by decide) (hts _ wd_1295) (fun _ h9 => h9) rfl d_Mod_give_29 ?_
        refine tw_wv (wr := [((q 32), aI g 160 sk), ((q 47), aI g 128 nw)]) (tw_runV (ws := [(h0, .inr (10, mob q rf n mm mb fa fp av ev wi mn tp tc sc nf fd me mp xn mt wh tq ag an ig)), ((q 32), aI g 160 sk), ((q 47), aI g 128 nw)]) (wc := [(h0, .inr (10, mob q rf n mm mb fa fp av ev wi mn tp tc sc nf fd me mp xn mt wh tq ag an ig))]) (As := [.int 23, .int (nI wh)]) (rest := []) E hB hK hZ (g_Mod_fail l g H.size h0 q rf n mm mb av ev wi mn tp tc sc nf fd me mp xn mt wh tq ag an ig fa fp 23 (nI wh) (by decide)) mc_Mod_fail mi_Mod_fail me_Mod_fail wd_1478 hP hD hS hA [0] rfl (by decide) 0 rfl rfl rfl rfl rfl (by decide) rfl hl.1 rfl (Nat.le_of_ble_eq_true rfl) (by decide) d_Mod_give_32) hP hD hS hA [0] [1, 2] rfl rfl (by decide) (by decide) (fun u8 H locs hr7 hP hD hS => ?_)
        try dsimp only at hr7
        have hP : va_P g.1 classes [((q 32), aI g 160 sk), ((q 47), aI g 128 nw), (h0, .inr (10, mob q rf n mm mb u8.1 u8.2 av ev wi mn tp tc sc nf fd me mp xn mt wh tq ag an ig))] H := hP
        have hD : va_D A [((q 32), aI g 160 sk), ((q 47), aI g 128 nw), (h0, .inr (10, mob q rf n mm mb u8.1 u8.2 av ev wi mn tp tc sc nf fd me mp xn mt wh tq ag an ig))] := hD
        have hP : va_P g.1 classes [(h0, .inr (10, mob q rf n mm mb u8.1 u8.2 av ev wi mn tp tc sc nf fd me mp xn mt wh tq ag an ig)), ((q 32), aI g 160 sk), ((q 47), aI g 128 nw)] H := hP.sub [2, 0, 1] rfl
        have hD : va_D A [(h0, .inr (10, mob q rf n mm mb u8.1 u8.2 av ev wi mn tp tc sc nf fd me mp xn mt wh tq ag an ig)), ((q 32), aI g 160 sk), ((q 47), aI g 128 nw)] := hD.sub [2, 0, 1] (by decide) rfl
        have hp8_0 := hr7
        refine lv_goto (tgt := 112) hx hb d_Mod_give_35 (by decide) ?_
        exact tw_vret E hS (u8.1, u8.2, tq, nw) (⟨(fun h => absurd h hp8_0), (by first | omega | (dsimp only <;> omega)), hNW⟩) hP hD d_Mod_give_112
  · exact tw_vret E hS (fa, fp, tq, nw) (⟨(fun h => h), (by first | omega | (dsimp only <;> omega)), hNW⟩) hP hD d_Mod_give_7
set_option maxHeartbeats 4000000 in
set_option maxRecDepth 100000 in
theorem g_Mod_needLocal (l : Launch) (g : tw_G) (sz : Nat) (h0 : Nat) (q : Nat → Nat) (rf : Int32) (n : Nat) (mm : Int32) (mb : Int32) (av : Nat) (ev : Nat) (wi : Int32) (mn : Nat) (tp : Int32) (tc : Int32) (sc : Int32) (nf : Nat) (fd : Nat) (me : Nat) (mp : Int32) (xn : Nat) (mt : Nat) (wh : Nat) (tq : Nat) (ag : Nat) (an : Int32) (ig : Int32) (lo : Nat → Int32) (fa : Int32) (fp : Int32) (lc : Nat) (kd1 : Int32) (o1 : Nat) (hmt : mt < 160) (hlo : lo mt = nI o1) (ho64 : o1 ≤ 64) (hlc : lc < 65536) : Met l y_Mod_needLocal [.code y_Mod_needLocal b_Mod_needLocal 3 none] ({ frames := 1, cells := 0, slots := 0, locals := 22 }) (tw_P g [.ref h0, .int (nI lc), .int kd1] [(h0, .inr (10, mob q rf n mm mb fa fp av ev wi mn tp tc sc nf fd me mp xn mt wh tq ag an ig)), ((q 33), aI g 160 lo)] sz) (tw_Qv g (fun (u : Int32 × Int32) => (u.1 = 0 → fa = 0) ∧ (u.1 = 0 → lc < o1) ∧ (u.1 = 0 → kd1 = 2 → lc + 1 < o1)) (fun u : Int32 × Int32 => [(h0, .inr (10, mob q rf n mm mb u.1 u.2 av ev wi mn tp tc sc nf fd me mp xn mt wh tq ag an ig)), ((q 33), aI g 160 lo)]) (va_A [(h0, .inr (10, mob q rf n mm mb fa fp av ev wi mn tp tc sc nf fd me mp xn mt wh tq ag an ig)), ((q 33), aI g 160 lo)] sz)) 0 0 (va_A [(h0, .inr (10, mob q rf n mm mb fa fp av ev wi mn tp tc sc nf fd me mp xn mt wh tq ag an ig)), ((q 33), aI g 160 lo)] sz) := by
  refine tw_metW (l := l) (g := g) (y := y_Mod_needLocal) (cc := b_Mod_needLocal) (maxL := 3) (ret := none) (rm := { frames := 1, cells := 0, slots := 0, locals := 22 }) (mc := 0) (ms := 0) (av := [.ref h0, .int (nI lc), .int kd1]) (ws := [(h0, .inr (10, mob q rf n mm mb fa fp av ev wi mn tp tc sc nf fd me mp xn mt wh tq ag an ig)), ((q 33), aI g 160 lo)]) (sz := sz) (Qc := fun A => (tw_Qv g (fun (u : Int32 × Int32) => (u.1 = 0 → fa = 0) ∧ (u.1 = 0 → lc < o1) ∧ (u.1 = 0 → kd1 = 2 → lc + 1 < o1)) (fun u : Int32 × Int32 => [(h0, .inr (10, mob q rf n mm mb u.1 u.2 av ev wi mn tp tc sc nf fd me mp xn mt wh tq ag an ig)), ((q 33), aI g 160 lo)]) A)) (by decide) (Nat.le_of_ble_eq_true rfl) ?_
  intro p e s m below meth c ls H A E hB hK hZ hP hD hS hA hl
  obtain ⟨hx, hb, hml, hr, hown, hts, hlocks, hin⟩ := id E
  have hl : lv_has ls 3 [(0, .ref h0), (1, .int (nI lc)), (2, .int kd1)] := hl
  refine lv_iload_n hx hb d_Mod_needLocal_0 rfl (lv_at hl 1 rfl) ?_
  refine lv_aload_n hx hb d_Mod_needLocal_1 rfl (lv_at hl 0 rfl) ?_
  refine va_get (D := g.1) (ci := 10) (v := .ref (q 33)) (C := R_Mod) (T := F_Mod) (N := 61) hx hb hts in_Mod hown hK hP 0 rfl rfl 33 (by decide) (hts _ wd_1283) (fun _ h9 => h9) rfl d_Mod_needLocal_2 ?_
  refine lv_aload_n hx hb d_Mod_needLocal_5 rfl (lv_at hl 0 rfl) ?_
  refine va_get (D := g.1) (ci := 10) (v := .int (nI mt)) (C := R_Mod) (T := F_Mod) (N := 61) hx hb hts in_Mod hown hK hP 0 rfl rfl 44 (by decide) (hts _ wd_1294) (fun _ h9 => h9) rfl d_Mod_needLocal_6 ?_
  refine va_iald hx hb hK hP 1 0 rfl rfl (vp_in_nI (by omega) (by decide)) d_Mod_needLocal_9 ?_
  refine tw_ri (e2 := nI o1) (by rw [nI_clamp (by omega)]; exact hlo) ?_
  refine lv_icmp_ge (tgt := 33) hx hb d_Mod_needLocal_10 (by decide) (fun h10 => ?_) (fun h10 => ?_)
  · have h10 := tn_le h10 (by omega) (by omega)
    refine lv_aload_n hx hb d_Mod_needLocal_33 rfl (lv_at hl 0 rfl) ?_
    refine lv_bipush (v := 21) hx hb d_Mod_needLocal_34 (by decide) ?_
    refine lv_aload_n hx hb d_Mod_needLocal_36 rfl (lv_at hl 0 rfl) ?_
    refine va_get (D := g.1) (ci := 10) (v := .int (nI wh)) (C := R_Mod) (T := F_Mod) (N := 61) hx hb hts in_Mod hown hK hP 0 rfl rfl 45 (by decide) (hts _ wd_1295) (fun _ h9 => h9) rfl d_Mod_needLocal_37 ?_
    refine tw_wv (wr := [((q 33), aI g 160 lo)]) (tw_runV (ws := [(h0, .inr (10, mob q rf n mm mb fa fp av ev wi mn tp tc sc nf fd me mp xn mt wh tq ag an ig)), ((q 33), aI g 160 lo)]) (wc := [(h0, .inr (10, mob q rf n mm mb fa fp av ev wi mn tp tc sc nf fd me mp xn mt wh tq ag an ig))]) (As := [.int 21, .int (nI wh)]) (rest := []) E hB hK hZ (g_Mod_fail l g H.size h0 q rf n mm mb av ev wi mn tp tc sc nf fd me mp xn mt wh tq ag an ig fa fp 21 (nI wh) (by decide)) mc_Mod_fail mi_Mod_fail me_Mod_fail wd_1478 hP hD hS hA [0] rfl (by decide) 0 rfl rfl rfl rfl rfl (by decide) rfl hl.1 rfl (Nat.le_of_ble_eq_true rfl) (by decide) d_Mod_needLocal_40) hP hD hS hA [0] [1] rfl rfl (by decide) (by decide) (fun u2 H locs hr1 hP hD hS => ?_)
    try dsimp only at hr1
    have hP : va_P g.1 classes [((q 33), aI g 160 lo), (h0, .inr (10, mob q rf n mm mb u2.1 u2.2 av ev wi mn tp tc sc nf fd me mp xn mt wh tq ag an ig))] H := hP
    have hD : va_D A [((q 33), aI g 160 lo), (h0, .inr (10, mob q rf n mm mb u2.1 u2.2 av ev wi mn tp tc sc nf fd me mp xn mt wh tq ag an ig))] := hD
    have hP : va_P g.1 classes [(h0, .inr (10, mob q rf n mm mb u2.1 u2.2 av ev wi mn tp tc sc nf fd me mp xn mt wh tq ag an ig)), ((q 33), aI g 160 lo)] H := hP.sub [1, 0] rfl
    have hD : va_D A [(h0, .inr (10, mob q rf n mm mb u2.1 u2.2 av ev wi mn tp tc sc nf fd me mp xn mt wh tq ag an ig)), ((q 33), aI g 160 lo)] := hD.sub [1, 0] (by decide) rfl
    have hp2_0 := hr1
    exact tw_vret E hS (u2.1, u2.2) (⟨(fun h => absurd h hp2_0), (fun h => absurd h hp2_0), (fun h => absurd h hp2_0)⟩) hP hD d_Mod_needLocal_43
  · have h10 := tn_nle h10 (by omega) (by omega)
    refine lv_iload_n hx hb d_Mod_needLocal_13 rfl (lv_at hl 2 rfl) ?_
    refine lv_iconst (v := 2) hx hb d_Mod_needLocal_14 (by decide) ?_
    refine lv_icmp_ne (tgt := 43) hx hb d_Mod_needLocal_15 (by decide) (fun h15 => ?_) (fun h15 => ?_)
    · exact tw_vret E hS (fa, fp) (⟨(fun h => h), (fun hz => by first | omega | (dsimp only <;> omega)), (fun _ h2 => absurd h2 h15)⟩) hP hD d_Mod_needLocal_43
    · refine lv_iload_n hx hb d_Mod_needLocal_18 rfl (lv_at hl 1 rfl) ?_
      refine lv_iconst (v := 1) hx hb d_Mod_needLocal_19 (by decide) ?_
      refine lv_iadd hx hb d_Mod_needLocal_20 ?_
      refine tw_ri (e2 := nI (lc + 1)) (nI_add lc 1) ?_
      refine lv_aload_n hx hb d_Mod_needLocal_21 rfl (lv_at hl 0 rfl) ?_
      refine va_get (D := g.1) (ci := 10) (v := .ref (q 33)) (C := R_Mod) (T := F_Mod) (N := 61) hx hb hts in_Mod hown hK hP 0 rfl rfl 33 (by decide) (hts _ wd_1283) (fun _ h9 => h9) rfl d_Mod_needLocal_22 ?_
      refine lv_aload_n hx hb d_Mod_needLocal_25 rfl (lv_at hl 0 rfl) ?_
      refine va_get (D := g.1) (ci := 10) (v := .int (nI mt)) (C := R_Mod) (T := F_Mod) (N := 61) hx hb hts in_Mod hown hK hP 0 rfl rfl 44 (by decide) (hts _ wd_1294) (fun _ h9 => h9) rfl d_Mod_needLocal_26 ?_
      refine va_iald hx hb hK hP 1 0 rfl rfl (vp_in_nI (by omega) (by decide)) d_Mod_needLocal_29 ?_
      refine tw_ri (e2 := nI o1) (by rw [nI_clamp (by omega)]; exact hlo) ?_
      refine lv_icmp_lt (tgt := 43) hx hb d_Mod_needLocal_30 (by decide) (fun h30 => ?_) (fun h30 => ?_)
      · have h30 := tn_lt h30 (by omega) (by omega)
        exact tw_vret E hS (fa, fp) (⟨(fun h => h), (fun hz => by first | omega | (dsimp only <;> omega)), (fun hz => by intro _; first | omega | (dsimp only <;> omega))⟩) hP hD d_Mod_needLocal_43
      · refine lv_aload_n hx hb d_Mod_needLocal_33 rfl (lv_at hl 0 rfl) ?_
        refine lv_bipush (v := 21) hx hb d_Mod_needLocal_34 (by decide) ?_
        refine lv_aload_n hx hb d_Mod_needLocal_36 rfl (lv_at hl 0 rfl) ?_
        refine va_get (D := g.1) (ci := 10) (v := .int (nI wh)) (C := R_Mod) (T := F_Mod) (N := 61) hx hb hts in_Mod hown hK hP 0 rfl rfl 45 (by decide) (hts _ wd_1295) (fun _ h9 => h9) rfl d_Mod_needLocal_37 ?_
        refine tw_wv (wr := [((q 33), aI g 160 lo)]) (tw_runV (ws := [(h0, .inr (10, mob q rf n mm mb fa fp av ev wi mn tp tc sc nf fd me mp xn mt wh tq ag an ig)), ((q 33), aI g 160 lo)]) (wc := [(h0, .inr (10, mob q rf n mm mb fa fp av ev wi mn tp tc sc nf fd me mp xn mt wh tq ag an ig))]) (As := [.int 21, .int (nI wh)]) (rest := []) E hB hK hZ (g_Mod_fail l g H.size h0 q rf n mm mb av ev wi mn tp tc sc nf fd me mp xn mt wh tq ag an ig fa fp 21 (nI wh) (by decide)) mc_Mod_fail mi_Mod_fail me_Mod_fail wd_1478 hP hD hS hA [0] rfl (by decide) 0 rfl rfl rfl rfl rfl (by decide) rfl hl.1 rfl (Nat.le_of_ble_eq_true rfl) (by decide) d_Mod_needLocal_40) hP hD hS hA [0] [1] rfl rfl (by decide) (by decide) (fun u4 H locs hr3 hP hD hS => ?_)
        try dsimp only at hr3
        have hP : va_P g.1 classes [((q 33), aI g 160 lo), (h0, .inr (10, mob q rf n mm mb u4.1 u4.2 av ev wi mn tp tc sc nf fd me mp xn mt wh tq ag an ig))] H := hP
        have hD : va_D A [((q 33), aI g 160 lo), (h0, .inr (10, mob q rf n mm mb u4.1 u4.2 av ev wi mn tp tc sc nf fd me mp xn mt wh tq ag an ig))] := hD
        have hP : va_P g.1 classes [(h0, .inr (10, mob q rf n mm mb u4.1 u4.2 av ev wi mn tp tc sc nf fd me mp xn mt wh tq ag an ig)), ((q 33), aI g 160 lo)] H := hP.sub [1, 0] rfl
        have hD : va_D A [(h0, .inr (10, mob q rf n mm mb u4.1 u4.2 av ev wi mn tp tc sc nf fd me mp xn mt wh tq ag an ig)), ((q 33), aI g 160 lo)] := hD.sub [1, 0] (by decide) rfl
        have hp4_0 := hr3
        exact tw_vret E hS (u4.1, u4.2) (⟨(fun h => absurd h hp4_0), (fun h => absurd h hp4_0), (fun h => absurd h hp4_0)⟩) hP hD d_Mod_needLocal_43
set_option maxHeartbeats 4000000 in
set_option maxRecDepth 100000 in
theorem g_Mod_fetch (l : Launch) (g : tw_G) (sz : Nat) (h0 : Nat) (q : Nat → Nat) (rf : Int32) (n : Nat) (mm : Int32) (mb : Int32) (av : Nat) (ev : Nat) (wi : Int32) (mn : Nat) (tp : Int32) (tc : Int32) (sc : Int32) (nf : Nat) (fd : Nat) (me : Nat) (mp : Int32) (xn : Nat) (mt : Nat) (wh : Nat) (ag : Nat) (an : Int32) (ig : Int32) (sk : Nat → Int32) (lo : Nat → Int32) (fa : Int32) (fp : Int32) (tq : Nat) (nw : Nat → Int32) (lc : Nat) (kd1 : Int32) (s1 o1 : Nat) (hNW : NOW nw) (htq : tq ≤ 64) (hmt : mt < 160) (hsk : sk mt = nI s1) (hs64 : s1 ≤ 64) (hlo : lo mt = nI o1) (ho64 : o1 ≤ 64) (hlc : lc < 65536) (hkn : ¬ kd1 = 3) : Met l y_Mod_fetch [.code y_Mod_fetch b_Mod_fetch 3 none] ({ frames := 2, cells := 0, slots := 0, locals := 44 }) (tw_P g [.ref h0, .int (nI lc), .int kd1] [(h0, .inr (10, mob q rf n mm mb fa fp av ev wi mn tp tc sc nf fd me mp xn mt wh tq ag an ig)), ((q 32), aI g 160 sk), ((q 33), aI g 160 lo), ((q 47), aI g 128 nw)] sz) (tw_Qv g (fun (u : Int32 × Int32 × Nat × (Nat → Int32)) => (u.1 = 0 → fa = 0) ∧ (u.2.2.1 ≤ 64) ∧ (NOW u.2.2.2)) (fun u : Int32 × Int32 × Nat × (Nat → Int32) => [(h0, .inr (10, mob q rf n mm mb u.1 u.2.1 av ev wi mn tp tc sc nf fd me mp xn mt wh u.2.2.1 ag an ig)), ((q 32), aI g 160 sk), ((q 33), aI g 160 lo), ((q 47), aI g 128 u.2.2.2)]) (va_A [(h0, .inr (10, mob q rf n mm mb fa fp av ev wi mn tp tc sc nf fd me mp xn mt wh tq ag an ig)), ((q 32), aI g 160 sk), ((q 33), aI g 160 lo), ((q 47), aI g 128 nw)] sz)) 0 0 (va_A [(h0, .inr (10, mob q rf n mm mb fa fp av ev wi mn tp tc sc nf fd me mp xn mt wh tq ag an ig)), ((q 32), aI g 160 sk), ((q 33), aI g 160 lo), ((q 47), aI g 128 nw)] sz) := by
  refine tw_metW (l := l) (g := g) (y := y_Mod_fetch) (cc := b_Mod_fetch) (maxL := 3) (ret := none) (rm := { frames := 2, cells := 0, slots := 0, locals := 44 }) (mc := 0) (ms := 0) (av := [.ref h0, .int (nI lc), .int kd1]) (ws := [(h0, .inr (10, mob q rf n mm mb fa fp av ev wi mn tp tc sc nf fd me mp xn mt wh tq ag an ig)), ((q 32), aI g 160 sk), ((q 33), aI g 160 lo), ((q 47), aI g 128 nw)]) (sz := sz) (Qc := fun A => (tw_Qv g (fun (u : Int32 × Int32 × Nat × (Nat → Int32)) => (u.1 = 0 → fa = 0) ∧ (u.2.2.1 ≤ 64) ∧ (NOW u.2.2.2)) (fun u : Int32 × Int32 × Nat × (Nat → Int32) => [(h0, .inr (10, mob q rf n mm mb u.1 u.2.1 av ev wi mn tp tc sc nf fd me mp xn mt wh u.2.2.1 ag an ig)), ((q 32), aI g 160 sk), ((q 33), aI g 160 lo), ((q 47), aI g 128 u.2.2.2)]) A)) (by decide) (Nat.le_of_ble_eq_true rfl) ?_
  intro p e s m below meth c ls H A E hB hK hZ hP hD hS hA hl
  obtain ⟨hx, hb, hml, hr, hown, hts, hlocks, hin⟩ := id E
  have hl : lv_has ls 3 [(0, .ref h0), (1, .int (nI lc)), (2, .int kd1)] := hl
  refine lv_aload_n hx hb d_Mod_fetch_0 rfl (lv_at hl 0 rfl) ?_
  refine lv_iload_n hx hb d_Mod_fetch_1 rfl (lv_at hl 1 rfl) ?_
  refine lv_iload_n hx hb d_Mod_fetch_2 rfl (lv_at hl 2 rfl) ?_
  refine tw_wv (wr := [((q 32), aI g 160 sk), ((q 47), aI g 128 nw)]) (tw_runV (ws := [(h0, .inr (10, mob q rf n mm mb fa fp av ev wi mn tp tc sc nf fd me mp xn mt wh tq ag an ig)), ((q 32), aI g 160 sk), ((q 33), aI g 160 lo), ((q 47), aI g 128 nw)]) (wc := [(h0, .inr (10, mob q rf n mm mb fa fp av ev wi mn tp tc sc nf fd me mp xn mt wh tq ag an ig)), ((q 33), aI g 160 lo)]) (As := [.int (nI lc), .int kd1]) (rest := []) E hB hK hZ (g_Mod_needLocal l g H.size h0 q rf n mm mb av ev wi mn tp tc sc nf fd me mp xn mt wh tq ag an ig lo fa fp lc kd1 o1 (by omega) hlo (by omega) (by omega)) mc_Mod_needLocal mi_Mod_needLocal me_Mod_needLocal wd_1660 hP hD hS hA [0, 2] rfl (by decide) 0 rfl rfl rfl rfl rfl (by decide) rfl hl.1 rfl (Nat.le_of_ble_eq_true rfl) (by decide) d_Mod_fetch_3) hP hD hS hA [0, 2] [1, 3] rfl rfl (by decide) (by decide) (fun u2 H locs hr1 hP hD hS => ?_)
  try dsimp only at hr1
  have hP : va_P g.1 classes [((q 32), aI g 160 sk), ((q 47), aI g 128 nw), (h0, .inr (10, mob q rf n mm mb u2.1 u2.2 av ev wi mn tp tc sc nf fd me mp xn mt wh tq ag an ig)), ((q 33), aI g 160 lo)] H := hP
  have hD : va_D A [((q 32), aI g 160 sk), ((q 47), aI g 128 nw), (h0, .inr (10, mob q rf n mm mb u2.1 u2.2 av ev wi mn tp tc sc nf fd me mp xn mt wh tq ag an ig)), ((q 33), aI g 160 lo)] := hD
  have hP : va_P g.1 classes [(h0, .inr (10, mob q rf n mm mb u2.1 u2.2 av ev wi mn tp tc sc nf fd me mp xn mt wh tq ag an ig)), ((q 32), aI g 160 sk), ((q 33), aI g 160 lo), ((q 47), aI g 128 nw)] H := hP.sub [2, 0, 3, 1] rfl
  have hD : va_D A [(h0, .inr (10, mob q rf n mm mb u2.1 u2.2 av ev wi mn tp tc sc nf fd me mp xn mt wh tq ag an ig)), ((q 32), aI g 160 sk), ((q 33), aI g 160 lo), ((q 47), aI g 128 nw)] := hD.sub [2, 0, 3, 1] (by decide) rfl
  obtain ⟨hp2_0, hp2_1, hp2_2⟩ := hr1
  refine lv_aload_n hx hb d_Mod_fetch_6 rfl (lv_at hl 0 rfl) ?_
  refine va_get (D := g.1) (ci := 10) (v := .int u2.1) (C := R_Mod) (T := F_Mod) (N := 61) hx hb hts in_Mod hown hK hP 0 rfl rfl 8 (by decide) (hts _ wd_1258) (fun _ h9 => h9) rfl d_Mod_fetch_7 ?_
  refine lv_if_ne (tgt := 33) hx hb d_Mod_fetch_10 (by decide) (fun h10 => ?_) (fun h10 => ?_)
  · refine lv_aload_n hx hb d_Mod_fetch_33 rfl (lv_at hl 0 rfl) ?_
    refine lv_iload_n hx hb d_Mod_fetch_34 rfl (lv_at hl 2 rfl) ?_
    refine tw_wv (wr := [((q 33), aI g 160 lo)]) (tw_runV (ws := [(h0, .inr (10, mob q rf n mm mb u2.1 u2.2 av ev wi mn tp tc sc nf fd me mp xn mt wh tq ag an ig)), ((q 32), aI g 160 sk), ((q 33), aI g 160 lo), ((q 47), aI g 128 nw)]) (wc := [(h0, .inr (10, mob q rf n mm mb u2.1 u2.2 av ev wi mn tp tc sc nf fd me mp xn mt wh tq ag an ig)), ((q 32), aI g 160 sk), ((q 47), aI g 128 nw)]) (As := [.int kd1]) (rest := []) E hB hK hZ (g_Mod_give l g H.size h0 q rf n mm mb av ev wi mn tp tc sc nf fd me mp xn mt wh ag an ig sk u2.1 u2.2 tq nw kd1 s1 hNW (by omega) (by omega) hsk (by omega) (fun _ => hkn)) mc_Mod_give mi_Mod_give me_Mod_give wd_1648 hP hD hS hA [0, 1, 3] rfl (by decide) 0 rfl rfl rfl rfl rfl (by decide) rfl hl.1 rfl (Nat.le_of_ble_eq_true rfl) (by decide) d_Mod_fetch_35) hP hD hS hA [0, 1, 3] [2] rfl rfl (by decide) (by decide) (fun u4 H locs hr3 hP hD hS => ?_)
    try dsimp only at hr3
    have hP : va_P g.1 classes [((q 33), aI g 160 lo), (h0, .inr (10, mob q rf n mm mb u4.1 u4.2.1 av ev wi mn tp tc sc nf fd me mp xn mt wh u4.2.2.1 ag an ig)), ((q 32), aI g 160 sk), ((q 47), aI g 128 u4.2.2.2)] H := hP
    have hD : va_D A [((q 33), aI g 160 lo), (h0, .inr (10, mob q rf n mm mb u4.1 u4.2.1 av ev wi mn tp tc sc nf fd me mp xn mt wh u4.2.2.1 ag an ig)), ((q 32), aI g 160 sk), ((q 47), aI g 128 u4.2.2.2)] := hD
    have hP : va_P g.1 classes [(h0, .inr (10, mob q rf n mm mb u4.1 u4.2.1 av ev wi mn tp tc sc nf fd me mp xn mt wh u4.2.2.1 ag an ig)), ((q 32), aI g 160 sk), ((q 33), aI g 160 lo), ((q 47), aI g 128 u4.2.2.2)] H := hP.sub [1, 2, 0, 3] rfl
    have hD : va_D A [(h0, .inr (10, mob q rf n mm mb u4.1 u4.2.1 av ev wi mn tp tc sc nf fd me mp xn mt wh u4.2.2.1 ag an ig)), ((q 32), aI g 160 sk), ((q 33), aI g 160 lo), ((q 47), aI g 128 u4.2.2.2)] := hD.sub [1, 2, 0, 3] (by decide) rfl
    obtain ⟨hp4_0, hp4_1, hp4_2⟩ := hr3
    exact tw_vret E hS (u4.1, u4.2.1, u4.2.2.1, u4.2.2.2) (⟨(fun h => absurd h (fun h => h10 (hp4_0 h))), (by first | omega | (dsimp only <;> omega)), hp4_2⟩) hP hD d_Mod_fetch_38
  · have hz5 := hp2_0 h10
    have hz6 := hp2_1 h10
    have hz7 := hp2_2 h10
    refine lv_aload_n hx hb d_Mod_fetch_13 rfl (lv_at hl 0 rfl) ?_
    refine va_get (D := g.1) (ci := 10) (v := .ref (q 47)) (C := R_Mod) (T := F_Mod) (N := 61) hx hb hts in_Mod hown hK hP 0 rfl rfl 47 (by decide) (hts _ wd_1297) (fun _ h9 => h9) rfl d_Mod_fetch_14 ?_
    refine lv_iload_n hx hb d_Mod_fetch_17 rfl (lv_at hl 1 rfl) ?_
    refine va_iald hx hb hK hP 3 0 rfl rfl (vp_in_nI (by omega) (by decide)) d_Mod_fetch_18 ?_
    refine tw_ri (e2 := nw lc) (by rw [nI_clamp (by omega)]) ?_
    refine lv_iload_n hx hb d_Mod_fetch_19 rfl (lv_at hl 2 rfl) ?_
    refine lv_icmp_eq (tgt := 33) hx hb d_Mod_fetch_20 (by decide) (fun h20 => ?_) (fun h20 => ?_)
    · refine lv_aload_n hx hb d_Mod_fetch_33 rfl (lv_at hl 0 rfl) ?_
      refine lv_iload_n hx hb d_Mod_fetch_34 rfl (lv_at hl 2 rfl) ?_
      refine tw_wv (wr := [((q 33), aI g 160 lo)]) (tw_runV (ws := [(h0, .inr (10, mob q rf n mm mb u2.1 u2.2 av ev wi mn tp tc sc nf fd me mp xn mt wh tq ag an ig)), ((q 32), aI g 160 sk), ((q 33), aI g 160 lo), ((q 47), aI g 128 nw)]) (wc := [(h0, .inr (10, mob q rf n mm mb u2.1 u2.2 av ev wi mn tp tc sc nf fd me mp xn mt wh tq ag an ig)), ((q 32), aI g 160 sk), ((q 47), aI g 128 nw)]) (As := [.int kd1]) (rest := []) E hB hK hZ (g_Mod_give l g H.size h0 q rf n mm mb av ev wi mn tp tc sc nf fd me mp xn mt wh ag an ig sk u2.1 u2.2 tq nw kd1 s1 hNW (by omega) (by omega) hsk (by omega) (fun _ => hkn)) mc_Mod_give mi_Mod_give me_Mod_give wd_1648 hP hD hS hA [0, 1, 3] rfl (by decide) 0 rfl rfl rfl rfl rfl (by decide) rfl hl.1 rfl (Nat.le_of_ble_eq_true rfl) (by decide) d_Mod_fetch_35) hP hD hS hA [0, 1, 3] [2] rfl rfl (by decide) (by decide) (fun u9 H locs hr8 hP hD hS => ?_)
      try dsimp only at hr8
      have hP : va_P g.1 classes [((q 33), aI g 160 lo), (h0, .inr (10, mob q rf n mm mb u9.1 u9.2.1 av ev wi mn tp tc sc nf fd me mp xn mt wh u9.2.2.1 ag an ig)), ((q 32), aI g 160 sk), ((q 47), aI g 128 u9.2.2.2)] H := hP
      have hD : va_D A [((q 33), aI g 160 lo), (h0, .inr (10, mob q rf n mm mb u9.1 u9.2.1 av ev wi mn tp tc sc nf fd me mp xn mt wh u9.2.2.1 ag an ig)), ((q 32), aI g 160 sk), ((q 47), aI g 128 u9.2.2.2)] := hD
      have hP : va_P g.1 classes [(h0, .inr (10, mob q rf n mm mb u9.1 u9.2.1 av ev wi mn tp tc sc nf fd me mp xn mt wh u9.2.2.1 ag an ig)), ((q 32), aI g 160 sk), ((q 33), aI g 160 lo), ((q 47), aI g 128 u9.2.2.2)] H := hP.sub [1, 2, 0, 3] rfl
      have hD : va_D A [(h0, .inr (10, mob q rf n mm mb u9.1 u9.2.1 av ev wi mn tp tc sc nf fd me mp xn mt wh u9.2.2.1 ag an ig)), ((q 32), aI g 160 sk), ((q 33), aI g 160 lo), ((q 47), aI g 128 u9.2.2.2)] := hD.sub [1, 2, 0, 3] (by decide) rfl
      obtain ⟨hp9_0, hp9_1, hp9_2⟩ := hr8
      exact tw_vret E hS (u9.1, u9.2.1, u9.2.2.1, u9.2.2.2) (⟨(fun _ => hz5), (by first | omega | (dsimp only <;> omega)), hp9_2⟩) hP hD d_Mod_fetch_38
    · refine lv_aload_n hx hb d_Mod_fetch_23 rfl (lv_at hl 0 rfl) ?_
      refine lv_bipush (v := 23) hx hb d_Mod_fetch_24 (by decide) ?_
      refine lv_aload_n hx hb d_Mod_fetch_26 rfl (lv_at hl 0 rfl) ?_
      refine va_get (D := g.1) (ci := 10) (v := .int (nI wh)) (C := R_Mod) (T := F_Mod) (N := 61) hx hb hts in_Mod hown hK hP 0 rfl rfl 45 (by decide) (hts _ wd_1295) (fun _ h9 => h9) rfl d_Mod_fetch_27 ?_
      refine tw_wv (wr := [((q 32), aI g 160 sk), ((q 33), aI g 160 lo), ((q 47), aI g 128 nw)]) (tw_runV (ws := [(h0, .inr (10, mob q rf n mm mb u2.1 u2.2 av ev wi mn tp tc sc nf fd me mp xn mt wh tq ag an ig)), ((q 32), aI g 160 sk), ((q 33), aI g 160 lo), ((q 47), aI g 128 nw)]) (wc := [(h0, .inr (10, mob q rf n mm mb u2.1 u2.2 av ev wi mn tp tc sc nf fd me mp xn mt wh tq ag an ig))]) (As := [.int 23, .int (nI wh)]) (rest := []) E hB hK hZ (g_Mod_fail l g H.size h0 q rf n mm mb av ev wi mn tp tc sc nf fd me mp xn mt wh tq ag an ig u2.1 u2.2 23 (nI wh) (by decide)) mc_Mod_fail mi_Mod_fail me_Mod_fail wd_1478 hP hD hS hA [0] rfl (by decide) 0 rfl rfl rfl rfl rfl (by decide) rfl hl.1 rfl (Nat.le_of_ble_eq_true rfl) (by decide) d_Mod_fetch_30) hP hD hS hA [0] [1, 2, 3] rfl rfl (by decide) (by decide) (fun u11 H locs hr10 hP hD hS => ?_)
      try dsimp only at hr10
      have hP : va_P g.1 classes [((q 32), aI g 160 sk), ((q 33), aI g 160 lo), ((q 47), aI g 128 nw), (h0, .inr (10, mob q rf n mm mb u11.1 u11.2 av ev wi mn tp tc sc nf fd me mp xn mt wh tq ag an ig))] H := hP
      have hD : va_D A [((q 32), aI g 160 sk), ((q 33), aI g 160 lo), ((q 47), aI g 128 nw), (h0, .inr (10, mob q rf n mm mb u11.1 u11.2 av ev wi mn tp tc sc nf fd me mp xn mt wh tq ag an ig))] := hD
      have hP : va_P g.1 classes [(h0, .inr (10, mob q rf n mm mb u11.1 u11.2 av ev wi mn tp tc sc nf fd me mp xn mt wh tq ag an ig)), ((q 32), aI g 160 sk), ((q 33), aI g 160 lo), ((q 47), aI g 128 nw)] H := hP.sub [3, 0, 1, 2] rfl
      have hD : va_D A [(h0, .inr (10, mob q rf n mm mb u11.1 u11.2 av ev wi mn tp tc sc nf fd me mp xn mt wh tq ag an ig)), ((q 32), aI g 160 sk), ((q 33), aI g 160 lo), ((q 47), aI g 128 nw)] := hD.sub [3, 0, 1, 2] (by decide) rfl
      have hp11_0 := hr10
      refine lv_aload_n hx hb d_Mod_fetch_33 rfl (lv_at hl 0 rfl) ?_
      refine lv_iload_n hx hb d_Mod_fetch_34 rfl (lv_at hl 2 rfl) ?_
      refine tw_wv (wr := [((q 33), aI g 160 lo)]) (tw_runV (ws := [(h0, .inr (10, mob q rf n mm mb u11.1 u11.2 av ev wi mn tp tc sc nf fd me mp xn mt wh tq ag an ig)), ((q 32), aI g 160 sk), ((q 33), aI g 160 lo), ((q 47), aI g 128 nw)]) (wc := [(h0, .inr (10, mob q rf n mm mb u11.1 u11.2 av ev wi mn tp tc sc nf fd me mp xn mt wh tq ag an ig)), ((q 32), aI g 160 sk), ((q 47), aI g 128 nw)]) (As := [.int kd1]) (rest := []) E hB hK hZ (g_Mod_give l g H.size h0 q rf n mm mb av ev wi mn tp tc sc nf fd me mp xn mt wh ag an ig sk u11.1 u11.2 tq nw kd1 s1 hNW (by omega) (by omega) hsk (by omega) (fun _ => hkn)) mc_Mod_give mi_Mod_give me_Mod_give wd_1648 hP hD hS hA [0, 1, 3] rfl (by decide) 0 rfl rfl rfl rfl rfl (by decide) rfl hl.1 rfl (Nat.le_of_ble_eq_true rfl) (by decide) d_Mod_fetch_35) hP hD hS hA [0, 1, 3] [2] rfl rfl (by decide) (by decide) (fun u13 H locs hr12 hP hD hS => ?_)
      try dsimp only at hr12
      have hP : va_P g.1 classes [((q 33), aI g 160 lo), (h0, .inr (10, mob q rf n mm mb u13.1 u13.2.1 av ev wi mn tp tc sc nf fd me mp xn mt wh u13.2.2.1 ag an ig)), ((q 32), aI g 160 sk), ((q 47), aI g 128 u13.2.2.2)] H := hP
      have hD : va_D A [((q 33), aI g 160 lo), (h0, .inr (10, mob q rf n mm mb u13.1 u13.2.1 av ev wi mn tp tc sc nf fd me mp xn mt wh u13.2.2.1 ag an ig)), ((q 32), aI g 160 sk), ((q 47), aI g 128 u13.2.2.2)] := hD
      have hP : va_P g.1 classes [(h0, .inr (10, mob q rf n mm mb u13.1 u13.2.1 av ev wi mn tp tc sc nf fd me mp xn mt wh u13.2.2.1 ag an ig)), ((q 32), aI g 160 sk), ((q 33), aI g 160 lo), ((q 47), aI g 128 u13.2.2.2)] H := hP.sub [1, 2, 0, 3] rfl
      have hD : va_D A [(h0, .inr (10, mob q rf n mm mb u13.1 u13.2.1 av ev wi mn tp tc sc nf fd me mp xn mt wh u13.2.2.1 ag an ig)), ((q 32), aI g 160 sk), ((q 33), aI g 160 lo), ((q 47), aI g 128 u13.2.2.2)] := hD.sub [1, 2, 0, 3] (by decide) rfl
      obtain ⟨hp13_0, hp13_1, hp13_2⟩ := hr12
      exact tw_vret E hS (u13.1, u13.2.1, u13.2.2.1, u13.2.2.2) (⟨(fun h => absurd h (fun h => hp11_0 (hp13_0 h))), (by first | omega | (dsimp only <;> omega)), hp13_2⟩) hP hD d_Mod_fetch_38
set_option maxHeartbeats 4000000 in
set_option maxRecDepth 100000 in
theorem g_Mod_spoil (l : Launch) (g : tw_G) (sz : Nat) (h0 : Nat) (q : Nat → Nat) (rf : Int32) (n : Nat) (mm : Int32) (mb : Int32) (fa : Int32) (fp : Int32) (av : Nat) (ev : Nat) (wi : Int32) (mn : Nat) (tp : Int32) (tc : Int32) (sc : Int32) (nf : Nat) (fd : Nat) (me : Nat) (mp : Int32) (xn : Nat) (mt : Nat) (wh : Nat) (tq : Nat) (ag : Nat) (an : Int32) (ig : Int32) (nw : Nat → Int32) (lc : Nat) (hNW : NOW nw) (hl64 : lc < 64) : Met l y_Mod_spoil [.code y_Mod_spoil b_Mod_spoil 2 none] ({ frames := 0, cells := 0, slots := 0, locals := 0 }) (tw_P g [.ref h0, .int (nI lc)] [(h0, .inr (10, mob q rf n mm mb fa fp av ev wi mn tp tc sc nf fd me mp xn mt wh tq ag an ig)), ((q 47), aI g 128 nw)] sz) (tw_Qv g (fun (u : (Nat → Int32)) => (NOW u)) (fun u : (Nat → Int32) => [(h0, .inr (10, mob q rf n mm mb fa fp av ev wi mn tp tc sc nf fd me mp xn mt wh tq ag an ig)), ((q 47), aI g 128 u)]) (va_A [(h0, .inr (10, mob q rf n mm mb fa fp av ev wi mn tp tc sc nf fd me mp xn mt wh tq ag an ig)), ((q 47), aI g 128 nw)] sz)) 0 0 (va_A [(h0, .inr (10, mob q rf n mm mb fa fp av ev wi mn tp tc sc nf fd me mp xn mt wh tq ag an ig)), ((q 47), aI g 128 nw)] sz) := by
  refine tw_metW (l := l) (g := g) (y := y_Mod_spoil) (cc := b_Mod_spoil) (maxL := 2) (ret := none) (rm := { frames := 0, cells := 0, slots := 0, locals := 0 }) (mc := 0) (ms := 0) (av := [.ref h0, .int (nI lc)]) (ws := [(h0, .inr (10, mob q rf n mm mb fa fp av ev wi mn tp tc sc nf fd me mp xn mt wh tq ag an ig)), ((q 47), aI g 128 nw)]) (sz := sz) (Qc := fun A => (tw_Qv g (fun (u : (Nat → Int32)) => (NOW u)) (fun u : (Nat → Int32) => [(h0, .inr (10, mob q rf n mm mb fa fp av ev wi mn tp tc sc nf fd me mp xn mt wh tq ag an ig)), ((q 47), aI g 128 u)]) A)) (by decide) (Nat.le_of_ble_eq_true rfl) ?_
  intro p e s m below meth c ls H A E hB hK hZ hP hD hS hA hl
  obtain ⟨hx, hb, hml, hr, hown, hts, hlocks, hin⟩ := id E
  have hl : lv_has ls 2 [(0, .ref h0), (1, .int (nI lc))] := hl
  refine lv_aload_n hx hb d_Mod_spoil_0 rfl (lv_at hl 0 rfl) ?_
  refine va_get (D := g.1) (ci := 10) (v := .ref (q 47)) (C := R_Mod) (T := F_Mod) (N := 61) hx hb hts in_Mod hown hK hP 0 rfl rfl 47 (by decide) (hts _ wd_1297) (fun _ h9 => h9) rfl d_Mod_spoil_1 ?_
  refine lv_iload_n hx hb d_Mod_spoil_4 rfl (lv_at hl 1 rfl) ?_
  refine va_iald hx hb hK hP 1 0 rfl rfl (vp_in_nI (by omega) (by decide)) d_Mod_spoil_5 ?_
  refine tw_ri (e2 := nw lc) (by rw [nI_clamp (by omega)]) ?_
  refine lv_iconst (v := 2) hx hb d_Mod_spoil_6 (by decide) ?_
  refine lv_icmp_ne (tgt := 22) hx hb d_Mod_spoil_7 (by decide) (fun h7 => ?_) (fun h7 => ?_)
  · refine lv_aload_n hx hb d_Mod_spoil_22 rfl (lv_at hl 0 rfl) ?_
    refine va_get (D := g.1) (ci := 10) (v := .ref (q 47)) (C := R_Mod) (T := F_Mod) (N := 61) hx hb hts in_Mod hown hK hP 0 rfl rfl 47 (by decide) (hts _ wd_1297) (fun _ h9 => h9) rfl d_Mod_spoil_23 ?_
    refine lv_iload_n hx hb d_Mod_spoil_26 rfl (lv_at hl 1 rfl) ?_
    refine va_iald hx hb hK hP 1 0 rfl rfl (vp_in_nI (by omega) (by decide)) d_Mod_spoil_27 ?_
    refine tw_ri (e2 := nw lc) (by rw [nI_clamp (by omega)]) ?_
    refine lv_iconst (v := 3) hx hb d_Mod_spoil_28 (by decide) ?_
    refine lv_icmp_ne (tgt := 41) hx hb d_Mod_spoil_29 (by decide) (fun h29 => ?_) (fun h29 => ?_)
    · exact tw_vret E hS nw hNW hP hD d_Mod_spoil_41
    · have hl0 := nw_l0 hNW h29
      refine lv_aload_n hx hb d_Mod_spoil_32 rfl (lv_at hl 0 rfl) ?_
      refine va_get (D := g.1) (ci := 10) (v := .ref (q 47)) (C := R_Mod) (T := F_Mod) (N := 61) hx hb hts in_Mod hown hK hP 0 rfl rfl 47 (by decide) (hts _ wd_1297) (fun _ h9 => h9) rfl d_Mod_spoil_33 ?_
      refine lv_iload_n hx hb d_Mod_spoil_36 rfl (lv_at hl 1 rfl) ?_
      refine lv_iconst (v := 1) hx hb d_Mod_spoil_37 (by decide) ?_
      refine lv_isub hx hb d_Mod_spoil_38 ?_
      refine tw_ri (e2 := nI (lc - 1)) (pk_sub (b := 1) (by omega)) ?_
      refine lv_iconst (v := 0) hx hb d_Mod_spoil_39 (by decide) ?_
      refine va_iast hx hb hK hP hD hS 1 0 rfl rfl (vp_in_nI (by omega) (by decide)) d_Mod_spoil_40 (fun H locs hP hD hS => ?_)
      have hP : va_P g.1 classes [(h0, .inr (10, mob q rf n mm mb fa fp av ev wi mn tp tc sc nf fd me mp xn mt wh tq ag an ig)), ((q 47), aI g 128 (upd nw (nI (lc - 1)).toNatClampNeg 0))] H := hP
      have hD : va_D A [(h0, .inr (10, mob q rf n mm mb fa fp av ev wi mn tp tc sc nf fd me mp xn mt wh tq ag an ig)), ((q 47), aI g 128 (upd nw (nI (lc - 1)).toNatClampNeg 0))] := hD
      have e9 : upd nw (nI (lc - 1)).toNatClampNeg 0 = upd nw (lc - 1) 0 := by rw [nI_clamp (by omega)]
      rw [e9] at hP hD
      exact tw_vret E hS (upd nw (lc - 1) 0) (hNW.put (by decide)) hP hD d_Mod_spoil_41
  · refine lv_aload_n hx hb d_Mod_spoil_10 rfl (lv_at hl 0 rfl) ?_
    refine va_get (D := g.1) (ci := 10) (v := .ref (q 47)) (C := R_Mod) (T := F_Mod) (N := 61) hx hb hts in_Mod hown hK hP 0 rfl rfl 47 (by decide) (hts _ wd_1297) (fun _ h9 => h9) rfl d_Mod_spoil_11 ?_
    refine lv_iload_n hx hb d_Mod_spoil_14 rfl (lv_at hl 1 rfl) ?_
    refine lv_iconst (v := 1) hx hb d_Mod_spoil_15 (by decide) ?_
    refine lv_iadd hx hb d_Mod_spoil_16 ?_
    refine tw_ri (e2 := nI (lc + 1)) (nI_add lc 1) ?_
    refine lv_iconst (v := 0) hx hb d_Mod_spoil_17 (by decide) ?_
    refine va_iast hx hb hK hP hD hS 1 0 rfl rfl (vp_in_nI (by omega) (by decide)) d_Mod_spoil_18 (fun H locs hP hD hS => ?_)
    have hP : va_P g.1 classes [(h0, .inr (10, mob q rf n mm mb fa fp av ev wi mn tp tc sc nf fd me mp xn mt wh tq ag an ig)), ((q 47), aI g 128 (upd nw (nI (lc + 1)).toNatClampNeg 0))] H := hP
    have hD : va_D A [(h0, .inr (10, mob q rf n mm mb fa fp av ev wi mn tp tc sc nf fd me mp xn mt wh tq ag an ig)), ((q 47), aI g 128 (upd nw (nI (lc + 1)).toNatClampNeg 0))] := hD
    have e9 : upd nw (nI (lc + 1)).toNatClampNeg 0 = upd nw (lc + 1) 0 := by rw [nI_clamp (by omega)]
    rw [e9] at hP hD
    refine lv_goto (tgt := 41) hx hb d_Mod_spoil_19 (by decide) ?_
    exact tw_vret E hS (upd nw (lc + 1) 0) (hNW.put (by decide)) hP hD d_Mod_spoil_41
set_option maxHeartbeats 4000000 in
set_option maxRecDepth 100000 in
theorem g_Mod_store (l : Launch) (g : tw_G) (sz : Nat) (h0 : Nat) (q : Nat → Nat) (rf : Int32) (n : Nat) (mm : Int32) (mb : Int32) (av : Nat) (ev : Nat) (wi : Int32) (mn : Nat) (tp : Int32) (tc : Int32) (sc : Int32) (nf : Nat) (fd : Nat) (me : Nat) (mp : Int32) (xn : Nat) (mt : Nat) (wh : Nat) (ag : Nat) (an : Int32) (ig : Int32) (lo : Nat → Int32) (fa : Int32) (fp : Int32) (tq : Nat) (nw : Nat → Int32) (lc : Nat) (kd1 : Int32) (o1 : Nat) (hNW : NOW nw) (htq : tq ≤ 64) (hmt : mt < 160) (hlo : lo mt = nI o1) (ho64 : o1 ≤ 64) (hlc : lc < 65536) (hkn : ¬ kd1 = 3) : Met l y_Mod_store [.code y_Mod_store b_Mod_store 3 none] ({ frames := 2, cells := 0, slots := 0, locals := 44 }) (tw_P g [.ref h0, .int (nI lc), .int kd1] [(h0, .inr (10, mob q rf n mm mb fa fp av ev wi mn tp tc sc nf fd me mp xn mt wh tq ag an ig)), ((q 33), aI g 160 lo), ((q 47), aI g 128 nw)] sz) (tw_Qv g (fun (u : Int32 × Int32 × Nat × (Nat → Int32)) => (u.1 = 0 → fa = 0) ∧ (u.2.2.1 ≤ 64) ∧ (NOW u.2.2.2)) (fun u : Int32 × Int32 × Nat × (Nat → Int32) => [(h0, .inr (10, mob q rf n mm mb u.1 u.2.1 av ev wi mn tp tc sc nf fd me mp xn mt wh u.2.2.1 ag an ig)), ((q 33), aI g 160 lo), ((q 47), aI g 128 u.2.2.2)]) (va_A [(h0, .inr (10, mob q rf n mm mb fa fp av ev wi mn tp tc sc nf fd me mp xn mt wh tq ag an ig)), ((q 33), aI g 160 lo), ((q 47), aI g 128 nw)] sz)) 0 0 (va_A [(h0, .inr (10, mob q rf n mm mb fa fp av ev wi mn tp tc sc nf fd me mp xn mt wh tq ag an ig)), ((q 33), aI g 160 lo), ((q 47), aI g 128 nw)] sz) := by
  refine tw_metW (l := l) (g := g) (y := y_Mod_store) (cc := b_Mod_store) (maxL := 3) (ret := none) (rm := { frames := 2, cells := 0, slots := 0, locals := 44 }) (mc := 0) (ms := 0) (av := [.ref h0, .int (nI lc), .int kd1]) (ws := [(h0, .inr (10, mob q rf n mm mb fa fp av ev wi mn tp tc sc nf fd me mp xn mt wh tq ag an ig)), ((q 33), aI g 160 lo), ((q 47), aI g 128 nw)]) (sz := sz) (Qc := fun A => (tw_Qv g (fun (u : Int32 × Int32 × Nat × (Nat → Int32)) => (u.1 = 0 → fa = 0) ∧ (u.2.2.1 ≤ 64) ∧ (NOW u.2.2.2)) (fun u : Int32 × Int32 × Nat × (Nat → Int32) => [(h0, .inr (10, mob q rf n mm mb u.1 u.2.1 av ev wi mn tp tc sc nf fd me mp xn mt wh u.2.2.1 ag an ig)), ((q 33), aI g 160 lo), ((q 47), aI g 128 u.2.2.2)]) A)) (by decide) (Nat.le_of_ble_eq_true rfl) ?_
  intro p e s m below meth c ls H A E hB hK hZ hP hD hS hA hl
  obtain ⟨hx, hb, hml, hr, hown, hts, hlocks, hin⟩ := id E
  have hl : lv_has ls 3 [(0, .ref h0), (1, .int (nI lc)), (2, .int kd1)] := hl
  refine lv_aload_n hx hb d_Mod_store_0 rfl (lv_at hl 0 rfl) ?_
  refine lv_iload_n hx hb d_Mod_store_1 rfl (lv_at hl 1 rfl) ?_
  refine lv_iload_n hx hb d_Mod_store_2 rfl (lv_at hl 2 rfl) ?_
  refine tw_wv (wr := [((q 47), aI g 128 nw)]) (tw_runV (ws := [(h0, .inr (10, mob q rf n mm mb fa fp av ev wi mn tp tc sc nf fd me mp xn mt wh tq ag an ig)), ((q 33), aI g 160 lo), ((q 47), aI g 128 nw)]) (wc := [(h0, .inr (10, mob q rf n mm mb fa fp av ev wi mn tp tc sc nf fd me mp xn mt wh tq ag an ig)), ((q 33), aI g 160 lo)]) (As := [.int (nI lc), .int kd1]) (rest := []) E hB hK hZ (g_Mod_needLocal l g H.size h0 q rf n mm mb av ev wi mn tp tc sc nf fd me mp xn mt wh tq ag an ig lo fa fp lc kd1 o1 (by omega) hlo (by omega) (by omega)) mc_Mod_needLocal mi_Mod_needLocal me_Mod_needLocal wd_1660 hP hD hS hA [0, 1] rfl (by decide) 0 rfl rfl rfl rfl rfl (by decide) rfl hl.1 rfl (Nat.le_of_ble_eq_true rfl) (by decide) d_Mod_store_3) hP hD hS hA [0, 1] [2] rfl rfl (by decide) (by decide) (fun u2 H locs hr1 hP hD hS => ?_)
  try dsimp only at hr1
  have hP : va_P g.1 classes [((q 47), aI g 128 nw), (h0, .inr (10, mob q rf n mm mb u2.1 u2.2 av ev wi mn tp tc sc nf fd me mp xn mt wh tq ag an ig)), ((q 33), aI g 160 lo)] H := hP
  have hD : va_D A [((q 47), aI g 128 nw), (h0, .inr (10, mob q rf n mm mb u2.1 u2.2 av ev wi mn tp tc sc nf fd me mp xn mt wh tq ag an ig)), ((q 33), aI g 160 lo)] := hD
  have hP : va_P g.1 classes [(h0, .inr (10, mob q rf n mm mb u2.1 u2.2 av ev wi mn tp tc sc nf fd me mp xn mt wh tq ag an ig)), ((q 33), aI g 160 lo), ((q 47), aI g 128 nw)] H := hP.sub [1, 2, 0] rfl
  have hD : va_D A [(h0, .inr (10, mob q rf n mm mb u2.1 u2.2 av ev wi mn tp tc sc nf fd me mp xn mt wh tq ag an ig)), ((q 33), aI g 160 lo), ((q 47), aI g 128 nw)] := hD.sub [1, 2, 0] (by decide) rfl
  obtain ⟨hp2_0, hp2_1, hp2_2⟩ := hr1
  refine lv_aload_n hx hb d_Mod_store_6 rfl (lv_at hl 0 rfl) ?_
  refine lv_iload_n hx hb d_Mod_store_7 rfl (lv_at hl 2 rfl) ?_
  refine tw_wv (wr := [((q 33), aI g 160 lo)]) (tw_runV (ws := [(h0, .inr (10, mob q rf n mm mb u2.1 u2.2 av ev wi mn tp tc sc nf fd me mp xn mt wh tq ag an ig)), ((q 33), aI g 160 lo), ((q 47), aI g 128 nw)]) (wc := [(h0, .inr (10, mob q rf n mm mb u2.1 u2.2 av ev wi mn tp tc sc nf fd me mp xn mt wh tq ag an ig)), ((q 47), aI g 128 nw)]) (As := [.int kd1]) (rest := []) E hB hK hZ (g_Mod_take l g H.size h0 q rf n mm mb av ev wi mn tp tc sc nf fd me mp xn mt wh ag an ig nw u2.1 u2.2 tq kd1 hNW (by omega)) mc_Mod_take mi_Mod_take me_Mod_take wd_1668 hP hD hS hA [0, 2] rfl (by decide) 0 rfl rfl rfl rfl rfl (by decide) rfl hl.1 rfl (Nat.le_of_ble_eq_true rfl) (by decide) d_Mod_store_8) hP hD hS hA [0, 2] [1] rfl rfl (by decide) (by decide) (fun u4 H locs hr3 hP hD hS => ?_)
  try dsimp only at hr3
  have hP : va_P g.1 classes [((q 33), aI g 160 lo), (h0, .inr (10, mob q rf n mm mb u4.1 u4.2.1 av ev wi mn tp tc sc nf fd me mp xn mt wh u4.2.2 ag an ig)), ((q 47), aI g 128 nw)] H := hP
  have hD : va_D A [((q 33), aI g 160 lo), (h0, .inr (10, mob q rf n mm mb u4.1 u4.2.1 av ev wi mn tp tc sc nf fd me mp xn mt wh u4.2.2 ag an ig)), ((q 47), aI g 128 nw)] := hD
  have hP : va_P g.1 classes [(h0, .inr (10, mob q rf n mm mb u4.1 u4.2.1 av ev wi mn tp tc sc nf fd me mp xn mt wh u4.2.2 ag an ig)), ((q 33), aI g 160 lo), ((q 47), aI g 128 nw)] H := hP.sub [1, 0, 2] rfl
  have hD : va_D A [(h0, .inr (10, mob q rf n mm mb u4.1 u4.2.1 av ev wi mn tp tc sc nf fd me mp xn mt wh u4.2.2 ag an ig)), ((q 33), aI g 160 lo), ((q 47), aI g 128 nw)] := hD.sub [1, 0, 2] (by decide) rfl
  obtain ⟨hp4_0, hp4_1, hp4_2⟩ := hr3
  refine lv_aload_n hx hb d_Mod_store_11 rfl (lv_at hl 0 rfl) ?_
  refine va_get (D := g.1) (ci := 10) (v := .int u4.1) (C := R_Mod) (T := F_Mod) (N := 61) hx hb hts in_Mod hown hK hP 0 rfl rfl 8 (by decide) (hts _ wd_1258) (fun _ h9 => h9) rfl d_Mod_store_12 ?_
  refine lv_if_eq (tgt := 19) hx hb d_Mod_store_15 (by decide) (fun h15 => ?_) (fun h15 => ?_)
  · have hz5 := hp4_0 h15
    have hz6 := hp2_0 hz5
    have hz7 := hp2_1 hz5
    have hz8 := hp2_2 hz5
    refine lv_aload_n hx hb d_Mod_store_19 rfl (lv_at hl 0 rfl) ?_
    refine lv_iload_n hx hb d_Mod_store_20 rfl (lv_at hl 1 rfl) ?_
    refine tw_wv (wr := [((q 33), aI g 160 lo)]) (tw_runV (ws := [(h0, .inr (10, mob q rf n mm mb u4.1 u4.2.1 av ev wi mn tp tc sc nf fd me mp xn mt wh u4.2.2 ag an ig)), ((q 33), aI g 160 lo), ((q 47), aI g 128 nw)]) (wc := [(h0, .inr (10, mob q rf n mm mb u4.1 u4.2.1 av ev wi mn tp tc sc nf fd me mp xn mt wh u4.2.2 ag an ig)), ((q 47), aI g 128 nw)]) (As := [.int (nI lc)]) (rest := []) E hB hK hZ (g_Mod_spoil l g H.size h0 q rf n mm mb u4.1 u4.2.1 av ev wi mn tp tc sc nf fd me mp xn mt wh u4.2.2 ag an ig nw lc hNW (by omega)) mc_Mod_spoil mi_Mod_spoil me_Mod_spoil wd_1672 hP hD hS hA [0, 2] rfl (by decide) 0 rfl rfl rfl rfl rfl (by decide) rfl hl.1 rfl (Nat.le_of_ble_eq_true rfl) (by decide) d_Mod_store_21) hP hD hS hA [0, 2] [1] rfl rfl (by decide) (by decide) (fun u10 H locs hr9 hP hD hS => ?_)
    try dsimp only at hr9
    have hP : va_P g.1 classes [((q 33), aI g 160 lo), (h0, .inr (10, mob q rf n mm mb u4.1 u4.2.1 av ev wi mn tp tc sc nf fd me mp xn mt wh u4.2.2 ag an ig)), ((q 47), aI g 128 u10)] H := hP
    have hD : va_D A [((q 33), aI g 160 lo), (h0, .inr (10, mob q rf n mm mb u4.1 u4.2.1 av ev wi mn tp tc sc nf fd me mp xn mt wh u4.2.2 ag an ig)), ((q 47), aI g 128 u10)] := hD
    have hP : va_P g.1 classes [(h0, .inr (10, mob q rf n mm mb u4.1 u4.2.1 av ev wi mn tp tc sc nf fd me mp xn mt wh u4.2.2 ag an ig)), ((q 33), aI g 160 lo), ((q 47), aI g 128 u10)] H := hP.sub [1, 0, 2] rfl
    have hD : va_D A [(h0, .inr (10, mob q rf n mm mb u4.1 u4.2.1 av ev wi mn tp tc sc nf fd me mp xn mt wh u4.2.2 ag an ig)), ((q 33), aI g 160 lo), ((q 47), aI g 128 u10)] := hD.sub [1, 0, 2] (by decide) rfl
    have hp10_0 := hr9
    refine lv_aload_n hx hb d_Mod_store_24 rfl (lv_at hl 0 rfl) ?_
    refine va_get (D := g.1) (ci := 10) (v := .ref (q 47)) (C := R_Mod) (T := F_Mod) (N := 61) hx hb hts in_Mod hown hK hP 0 rfl rfl 47 (by decide) (hts _ wd_1297) (fun _ h9 => h9) rfl d_Mod_store_25 ?_
    refine lv_iload_n hx hb d_Mod_store_28 rfl (lv_at hl 1 rfl) ?_
    refine lv_iload_n hx hb d_Mod_store_29 rfl (lv_at hl 2 rfl) ?_
    refine va_iast hx hb hK hP hD hS 2 0 rfl rfl (vp_in_nI (by omega) (by decide)) d_Mod_store_30 (fun H locs hP hD hS => ?_)
    have hP : va_P g.1 classes [(h0, .inr (10, mob q rf n mm mb u4.1 u4.2.1 av ev wi mn tp tc sc nf fd me mp xn mt wh u4.2.2 ag an ig)), ((q 33), aI g 160 lo), ((q 47), aI g 128 (upd u10 (nI lc).toNatClampNeg kd1))] H := hP
    have hD : va_D A [(h0, .inr (10, mob q rf n mm mb u4.1 u4.2.1 av ev wi mn tp tc sc nf fd me mp xn mt wh u4.2.2 ag an ig)), ((q 33), aI g 160 lo), ((q 47), aI g 128 (upd u10 (nI lc).toNatClampNeg kd1))] := hD
    have e9 : upd u10 (nI lc).toNatClampNeg kd1 = upd u10 lc kd1 := by rw [nI_clamp (by omega)]
    rw [e9] at hP hD
    refine lv_iload_n hx hb d_Mod_store_31 rfl (lv_at hl 2 rfl) ?_
    refine lv_iconst (v := 2) hx hb d_Mod_store_32 (by decide) ?_
    refine lv_icmp_ne (tgt := 66) hx hb d_Mod_store_33 (by decide) (fun h33 => ?_) (fun h33 => ?_)
    · exact tw_vret E hS (u4.1, u4.2.1, u4.2.2, upd u10 lc kd1) (⟨(fun _ => hz6), (by first | omega | (dsimp only <;> omega)), (hp10_0.put hkn)⟩) hP hD d_Mod_store_66
    · have hl2 := hz8 h33
      refine lv_aload_n hx hb d_Mod_store_36 rfl (lv_at hl 0 rfl) ?_
      refine va_get (D := g.1) (ci := 10) (v := .ref (q 47)) (C := R_Mod) (T := F_Mod) (N := 61) hx hb hts in_Mod hown hK hP 0 rfl rfl 47 (by decide) (hts _ wd_1297) (fun _ h9 => h9) rfl d_Mod_store_37 ?_
      refine lv_iload_n hx hb d_Mod_store_40 rfl (lv_at hl 1 rfl) ?_
      refine lv_iconst (v := 1) hx hb d_Mod_store_41 (by decide) ?_
      refine lv_iadd hx hb d_Mod_store_42 ?_
      refine tw_ri (e2 := nI (lc + 1)) (nI_add lc 1) ?_
      refine va_iald hx hb hK hP 2 0 rfl rfl (vp_in_nI (by omega) (by decide)) d_Mod_store_43 ?_
      obtain ⟨x11, ex11⟩ : ∃ z : Int32, (upd u10 lc kd1) ((nI (lc + 1)).toNatClampNeg) = z := ⟨_, rfl⟩
      refine tw_ri (e2 := x11) ex11 ?_
      refine lv_iconst (v := 2) hx hb d_Mod_store_44 (by decide) ?_
      refine lv_icmp_ne (tgt := 57) hx hb d_Mod_store_45 (by decide) (fun h45 => ?_) (fun h45 => ?_)
      · refine lv_aload_n hx hb d_Mod_store_57 rfl (lv_at hl 0 rfl) ?_
        refine va_get (D := g.1) (ci := 10) (v := .ref (q 47)) (C := R_Mod) (T := F_Mod) (N := 61) hx hb hts in_Mod hown hK hP 0 rfl rfl 47 (by decide) (hts _ wd_1297) (fun _ h9 => h9) rfl d_Mod_store_58 ?_
        refine lv_iload_n hx hb d_Mod_store_61 rfl (lv_at hl 1 rfl) ?_
        refine lv_iconst (v := 1) hx hb d_Mod_store_62 (by decide) ?_
        refine lv_iadd hx hb d_Mod_store_63 ?_
        refine tw_ri (e2 := nI (lc + 1)) (nI_add lc 1) ?_
        refine lv_iconst (v := 3) hx hb d_Mod_store_64 (by decide) ?_
        refine va_iast hx hb hK hP hD hS 2 0 rfl rfl (vp_in_nI (by omega) (by decide)) d_Mod_store_65 (fun H locs hP hD hS => ?_)
        have hP : va_P g.1 classes [(h0, .inr (10, mob q rf n mm mb u4.1 u4.2.1 av ev wi mn tp tc sc nf fd me mp xn mt wh u4.2.2 ag an ig)), ((q 33), aI g 160 lo), ((q 47), aI g 128 (upd (upd u10 lc kd1) (nI (lc + 1)).toNatClampNeg 3))] H := hP
        have hD : va_D A [(h0, .inr (10, mob q rf n mm mb u4.1 u4.2.1 av ev wi mn tp tc sc nf fd me mp xn mt wh u4.2.2 ag an ig)), ((q 33), aI g 160 lo), ((q 47), aI g 128 (upd (upd u10 lc kd1) (nI (lc + 1)).toNatClampNeg 3))] := hD
        have e9 : upd (upd u10 lc kd1) (nI (lc + 1)).toNatClampNeg 3 = upd (upd u10 lc kd1) (lc + 1) 3 := by rw [nI_clamp (by omega)]
        rw [e9] at hP hD
        exact tw_vret E hS (u4.1, u4.2.1, u4.2.2, upd (upd u10 lc kd1) (lc + 1) 3) (⟨(fun _ => hz6), (by first | omega | (dsimp only <;> omega)), ((hp10_0.put hkn).put2 (by omega) (by omega))⟩) hP hD d_Mod_store_66
      · refine lv_aload_n hx hb d_Mod_store_48 rfl (lv_at hl 0 rfl) ?_
        refine va_get (D := g.1) (ci := 10) (v := .ref (q 47)) (C := R_Mod) (T := F_Mod) (N := 61) hx hb hts in_Mod hown hK hP 0 rfl rfl 47 (by decide) (hts _ wd_1297) (fun _ h9 => h9) rfl d_Mod_store_49 ?_
        refine lv_iload_n hx hb d_Mod_store_52 rfl (lv_at hl 1 rfl) ?_
        refine lv_iconst (v := 2) hx hb d_Mod_store_53 (by decide) ?_
        refine lv_iadd hx hb d_Mod_store_54 ?_
        refine tw_ri (e2 := nI (lc + 2)) (nI_add lc 2) ?_
        refine lv_iconst (v := 0) hx hb d_Mod_store_55 (by decide) ?_
        refine va_iast hx hb hK hP hD hS 2 0 rfl rfl (vp_in_nI (by omega) (by decide)) d_Mod_store_56 (fun H locs hP hD hS => ?_)
        have hP : va_P g.1 classes [(h0, .inr (10, mob q rf n mm mb u4.1 u4.2.1 av ev wi mn tp tc sc nf fd me mp xn mt wh u4.2.2 ag an ig)), ((q 33), aI g 160 lo), ((q 47), aI g 128 (upd (upd u10 lc kd1) (nI (lc + 2)).toNatClampNeg 0))] H := hP
        have hD : va_D A [(h0, .inr (10, mob q rf n mm mb u4.1 u4.2.1 av ev wi mn tp tc sc nf fd me mp xn mt wh u4.2.2 ag an ig)), ((q 33), aI g 160 lo), ((q 47), aI g 128 (upd (upd u10 lc kd1) (nI (lc + 2)).toNatClampNeg 0))] := hD
        have e9 : upd (upd u10 lc kd1) (nI (lc + 2)).toNatClampNeg 0 = upd (upd u10 lc kd1) (lc + 2) 0 := by rw [nI_clamp (by omega)]
        rw [e9] at hP hD
        refine lv_aload_n hx hb d_Mod_store_57 rfl (lv_at hl 0 rfl) ?_
        refine va_get (D := g.1) (ci := 10) (v := .ref (q 47)) (C := R_Mod) (T := F_Mod) (N := 61) hx hb hts in_Mod hown hK hP 0 rfl rfl 47 (by decide) (hts _ wd_1297) (fun _ h9 => h9) rfl d_Mod_store_58 ?_
        refine lv_iload_n hx hb d_Mod_store_61 rfl (lv_at hl 1 rfl) ?_
        refine lv_iconst (v := 1) hx hb d_Mod_store_62 (by decide) ?_
        refine lv_iadd hx hb d_Mod_store_63 ?_
        refine tw_ri (e2 := nI (lc + 1)) (nI_add lc 1) ?_
        refine lv_iconst (v := 3) hx hb d_Mod_store_64 (by decide) ?_
        refine va_iast hx hb hK hP hD hS 2 0 rfl rfl (vp_in_nI (by omega) (by decide)) d_Mod_store_65 (fun H locs hP hD hS => ?_)
        have hP : va_P g.1 classes [(h0, .inr (10, mob q rf n mm mb u4.1 u4.2.1 av ev wi mn tp tc sc nf fd me mp xn mt wh u4.2.2 ag an ig)), ((q 33), aI g 160 lo), ((q 47), aI g 128 (upd (upd (upd u10 lc kd1) (lc + 2) 0) (nI (lc + 1)).toNatClampNeg 3))] H := hP
        have hD : va_D A [(h0, .inr (10, mob q rf n mm mb u4.1 u4.2.1 av ev wi mn tp tc sc nf fd me mp xn mt wh u4.2.2 ag an ig)), ((q 33), aI g 160 lo), ((q 47), aI g 128 (upd (upd (upd u10 lc kd1) (lc + 2) 0) (nI (lc + 1)).toNatClampNeg 3))] := hD
        have e9 : upd (upd (upd u10 lc kd1) (lc + 2) 0) (nI (lc + 1)).toNatClampNeg 3 = upd (upd (upd u10 lc kd1) (lc + 2) 0) (lc + 1) 3 := by rw [nI_clamp (by omega)]
        rw [e9] at hP hD
        exact tw_vret E hS (u4.1, u4.2.1, u4.2.2, upd (upd (upd u10 lc kd1) (lc + 2) 0) (lc + 1) 3) (⟨(fun _ => hz6), (by first | omega | (dsimp only <;> omega)), (((hp10_0.put hkn).put (by decide)).put2 (by omega) (by omega))⟩) hP hD d_Mod_store_66
  · exact tw_vret E hS (u4.1, u4.2.1, u4.2.2, nw) (⟨(fun h => absurd h h15), (by first | omega | (dsimp only <;> omega)), hNW⟩) hP hD d_Mod_store_18
set_option maxHeartbeats 4000000 in
set_option maxRecDepth 100000 in
theorem g_Mod_refer (l : Launch) (g : tw_G) (sz : Nat) (h0 : Nat) (q : Nat → Nat) (rf : Int32) (n : Nat) (mm : Int32) (mb : Int32) (av : Nat) (ev : Nat) (wi : Int32) (mn : Nat) (tp : Int32) (tc : Int32) (sc : Int32) (nf : Nat) (fd : Nat) (me : Nat) (mp : Int32) (xn : Nat) (mt : Nat) (wh : Nat) (tq : Nat) (ag : Nat) (an : Int32) (ig : Int32) (fa : Int32) (fp : Int32) (z : Int32) : Met l y_Mod_refer [.code y_Mod_refer b_Mod_refer 2 none] ({ frames := 1, cells := 0, slots := 0, locals := 22 }) (tw_P g [.ref h0, .int z] [(h0, .inr (10, mob q rf n mm mb fa fp av ev wi mn tp tc sc nf fd me mp xn mt wh tq ag an ig))] sz) (tw_Qv g (fun (u : Int32 × Int32) => (u.1 = 0 → fa = 0) ∧ (u.1 = 0 → ¬ z = 0)) (fun u : Int32 × Int32 => [(h0, .inr (10, mob q rf n mm mb u.1 u.2 av ev wi mn tp tc sc nf fd me mp xn mt wh tq ag an ig))]) (va_A [(h0, .inr (10, mob q rf n mm mb fa fp av ev wi mn tp tc sc nf fd me mp xn mt wh tq ag an ig))] sz)) 0 0 (va_A [(h0, .inr (10, mob q rf n mm mb fa fp av ev wi mn tp tc sc nf fd me mp xn mt wh tq ag an ig))] sz) := by
  refine tw_metW (l := l) (g := g) (y := y_Mod_refer) (cc := b_Mod_refer) (maxL := 2) (ret := none) (rm := { frames := 1, cells := 0, slots := 0, locals := 22 }) (mc := 0) (ms := 0) (av := [.ref h0, .int z]) (ws := [(h0, .inr (10, mob q rf n mm mb fa fp av ev wi mn tp tc sc nf fd me mp xn mt wh tq ag an ig))]) (sz := sz) (Qc := fun A => (tw_Qv g (fun (u : Int32 × Int32) => (u.1 = 0 → fa = 0) ∧ (u.1 = 0 → ¬ z = 0)) (fun u : Int32 × Int32 => [(h0, .inr (10, mob q rf n mm mb u.1 u.2 av ev wi mn tp tc sc nf fd me mp xn mt wh tq ag an ig))]) A)) (by decide) (Nat.le_of_ble_eq_true rfl) ?_
  intro p e s m below meth c ls H A E hB hK hZ hP hD hS hA hl
  obtain ⟨hx, hb, hml, hr, hown, hts, hlocks, hin⟩ := id E
  have hl : lv_has ls 2 [(0, .ref h0), (1, .int z)] := hl
  refine lv_iload_n hx hb d_Mod_refer_0 rfl (lv_at hl 1 rfl) ?_
  refine lv_if_ne (tgt := 14) hx hb d_Mod_refer_1 (by decide) (fun h1 => ?_) (fun h1 => ?_)
  · exact tw_vret E hS (fa, fp) (⟨(fun h => h), (fun hz => by exact h1)⟩) hP hD d_Mod_refer_14
  · refine lv_aload_n hx hb d_Mod_refer_4 rfl (lv_at hl 0 rfl) ?_
    refine lv_bipush (v := 6) hx hb d_Mod_refer_5 (by decide) ?_
    refine lv_aload_n hx hb d_Mod_refer_7 rfl (lv_at hl 0 rfl) ?_
    refine va_get (D := g.1) (ci := 10) (v := .int (nI wh)) (C := R_Mod) (T := F_Mod) (N := 61) hx hb hts in_Mod hown hK hP 0 rfl rfl 45 (by decide) (hts _ wd_1295) (fun _ h9 => h9) rfl d_Mod_refer_8 ?_
    refine tw_wv (wr := []) (tw_runV (ws := [(h0, .inr (10, mob q rf n mm mb fa fp av ev wi mn tp tc sc nf fd me mp xn mt wh tq ag an ig))]) (wc := [(h0, .inr (10, mob q rf n mm mb fa fp av ev wi mn tp tc sc nf fd me mp xn mt wh tq ag an ig))]) (As := [.int 6, .int (nI wh)]) (rest := []) E hB hK hZ (g_Mod_fail l g H.size h0 q rf n mm mb av ev wi mn tp tc sc nf fd me mp xn mt wh tq ag an ig fa fp 6 (nI wh) (by decide)) mc_Mod_fail mi_Mod_fail me_Mod_fail wd_1478 hP hD hS hA [0] rfl (by decide) 0 rfl rfl rfl rfl rfl (by decide) rfl hl.1 rfl (Nat.le_of_ble_eq_true rfl) (by decide) d_Mod_refer_11) hP hD hS hA [0] [] rfl rfl (by decide) (by decide) (fun u2 H locs hr1 hP hD hS => ?_)
    try dsimp only at hr1
    have hP : va_P g.1 classes [(h0, .inr (10, mob q rf n mm mb u2.1 u2.2 av ev wi mn tp tc sc nf fd me mp xn mt wh tq ag an ig))] H := hP
    have hD : va_D A [(h0, .inr (10, mob q rf n mm mb u2.1 u2.2 av ev wi mn tp tc sc nf fd me mp xn mt wh tq ag an ig))] := hD
    have hP : va_P g.1 classes [(h0, .inr (10, mob q rf n mm mb u2.1 u2.2 av ev wi mn tp tc sc nf fd me mp xn mt wh tq ag an ig))] H := hP.sub [0] rfl
    have hD : va_D A [(h0, .inr (10, mob q rf n mm mb u2.1 u2.2 av ev wi mn tp tc sc nf fd me mp xn mt wh tq ag an ig))] := hD.sub [0] (by decide) rfl
    have hp2_0 := hr1
    exact tw_vret E hS (u2.1, u2.2) (⟨(fun h => absurd h hp2_0), (fun h => absurd h hp2_0)⟩) hP hD d_Mod_refer_14
set_option maxHeartbeats 4000000 in
set_option maxRecDepth 100000 in
theorem g_Mod_giveAnswer (l : Launch) (g : tw_G) (sz : Nat) (h0 : Nat) (q : Nat → Nat) (rf : Int32) (n : Nat) (mm : Int32) (mb : Int32) (av : Nat) (ev : Nat) (wi : Int32) (mn : Nat) (tp : Int32) (tc : Int32) (sc : Int32) (nf : Nat) (fd : Nat) (me : Nat) (mp : Int32) (xn : Nat) (mt : Nat) (wh : Nat) (ag : Nat) (an : Int32) (ig : Int32) (sk : Nat → Int32) (fa : Int32) (fp : Int32) (tq : Nat) (nw : Nat → Int32) (kd1 : Int32) (s1 : Nat) (hNW : NOW nw) (htq : tq ≤ 64) (hmt : mt < 160) (hsk : sk mt = nI s1) (hs64 : s1 ≤ 64) (hkn : ¬ kd1 = 3) : Met l y_Mod_giveAnswer [.code y_Mod_giveAnswer b_Mod_giveAnswer 2 none] ({ frames := 2, cells := 0, slots := 0, locals := 44 }) (tw_P g [.ref h0, .int kd1] [(h0, .inr (10, mob q rf n mm mb fa fp av ev wi mn tp tc sc nf fd me mp xn mt wh tq ag an ig)), ((q 32), aI g 160 sk), ((q 47), aI g 128 nw)] sz) (tw_Qv g (fun (u : Int32 × Int32 × Nat × (Nat → Int32)) => (u.1 = 0 → fa = 0) ∧ (u.2.2.1 ≤ 64) ∧ (NOW u.2.2.2)) (fun u : Int32 × Int32 × Nat × (Nat → Int32) => [(h0, .inr (10, mob q rf n mm mb u.1 u.2.1 av ev wi mn tp tc sc nf fd me mp xn mt wh u.2.2.1 ag an ig)), ((q 32), aI g 160 sk), ((q 47), aI g 128 u.2.2.2)]) (va_A [(h0, .inr (10, mob q rf n mm mb fa fp av ev wi mn tp tc sc nf fd me mp xn mt wh tq ag an ig)), ((q 32), aI g 160 sk), ((q 47), aI g 128 nw)] sz)) 0 0 (va_A [(h0, .inr (10, mob q rf n mm mb fa fp av ev wi mn tp tc sc nf fd me mp xn mt wh tq ag an ig)), ((q 32), aI g 160 sk), ((q 47), aI g 128 nw)] sz) := by
  refine tw_metW (l := l) (g := g) (y := y_Mod_giveAnswer) (cc := b_Mod_giveAnswer) (maxL := 2) (ret := none) (rm := { frames := 2, cells := 0, slots := 0, locals := 44 }) (mc := 0) (ms := 0) (av := [.ref h0, .int kd1]) (ws := [(h0, .inr (10, mob q rf n mm mb fa fp av ev wi mn tp tc sc nf fd me mp xn mt wh tq ag an ig)), ((q 32), aI g 160 sk), ((q 47), aI g 128 nw)]) (sz := sz) (Qc := fun A => (tw_Qv g (fun (u : Int32 × Int32 × Nat × (Nat → Int32)) => (u.1 = 0 → fa = 0) ∧ (u.2.2.1 ≤ 64) ∧ (NOW u.2.2.2)) (fun u : Int32 × Int32 × Nat × (Nat → Int32) => [(h0, .inr (10, mob q rf n mm mb u.1 u.2.1 av ev wi mn tp tc sc nf fd me mp xn mt wh u.2.2.1 ag an ig)), ((q 32), aI g 160 sk), ((q 47), aI g 128 u.2.2.2)]) A)) (by decide) (Nat.le_of_ble_eq_true rfl) ?_
  intro p e s m below meth c ls H A E hB hK hZ hP hD hS hA hl
  obtain ⟨hx, hb, hml, hr, hown, hts, hlocks, hin⟩ := id E
  have hl : lv_has ls 2 [(0, .ref h0), (1, .int kd1)] := hl
  refine lv_iload_n hx hb d_Mod_giveAnswer_0 rfl (lv_at hl 1 rfl) ?_
  refine lv_if_eq (tgt := 9) hx hb d_Mod_giveAnswer_1 (by decide) (fun h1 => ?_) (fun h1 => ?_)
  · exact tw_vret E hS (fa, fp, tq, nw) (⟨(fun h => h), (by first | omega | (dsimp only <;> omega)), hNW⟩) hP hD d_Mod_giveAnswer_9
  · refine lv_aload_n hx hb d_Mod_giveAnswer_4 rfl (lv_at hl 0 rfl) ?_
    refine lv_iload_n hx hb d_Mod_giveAnswer_5 rfl (lv_at hl 1 rfl) ?_
    refine tw_wv (wr := []) (tw_runV (ws := [(h0, .inr (10, mob q rf n mm mb fa fp av ev wi mn tp tc sc nf fd me mp xn mt wh tq ag an ig)), ((q 32), aI g 160 sk), ((q 47), aI g 128 nw)]) (wc := [(h0, .inr (10, mob q rf n mm mb fa fp av ev wi mn tp tc sc nf fd me mp xn mt wh tq ag an ig)), ((q 32), aI g 160 sk), ((q 47), aI g 128 nw)]) (As := [.int kd1]) (rest := []) E hB hK hZ (g_Mod_give l g H.size h0 q rf n mm mb av ev wi mn tp tc sc nf fd me mp xn mt wh ag an ig sk fa fp tq nw kd1 s1 hNW (by omega) (by omega) hsk (by omega) (fun _ => hkn)) mc_Mod_give mi_Mod_give me_Mod_give wd_1648 hP hD hS hA [0, 1, 2] rfl (by decide) 0 rfl rfl rfl rfl rfl (by decide) rfl hl.1 rfl (Nat.le_of_ble_eq_true rfl) (by decide) d_Mod_giveAnswer_6) hP hD hS hA [0, 1, 2] [] rfl rfl (by decide) (by decide) (fun u2 H locs hr1 hP hD hS => ?_)
    try dsimp only at hr1
    have hP : va_P g.1 classes [(h0, .inr (10, mob q rf n mm mb u2.1 u2.2.1 av ev wi mn tp tc sc nf fd me mp xn mt wh u2.2.2.1 ag an ig)), ((q 32), aI g 160 sk), ((q 47), aI g 128 u2.2.2.2)] H := hP
    have hD : va_D A [(h0, .inr (10, mob q rf n mm mb u2.1 u2.2.1 av ev wi mn tp tc sc nf fd me mp xn mt wh u2.2.2.1 ag an ig)), ((q 32), aI g 160 sk), ((q 47), aI g 128 u2.2.2.2)] := hD
    have hP : va_P g.1 classes [(h0, .inr (10, mob q rf n mm mb u2.1 u2.2.1 av ev wi mn tp tc sc nf fd me mp xn mt wh u2.2.2.1 ag an ig)), ((q 32), aI g 160 sk), ((q 47), aI g 128 u2.2.2.2)] H := hP.sub [0, 1, 2] rfl
    have hD : va_D A [(h0, .inr (10, mob q rf n mm mb u2.1 u2.2.1 av ev wi mn tp tc sc nf fd me mp xn mt wh u2.2.2.1 ag an ig)), ((q 32), aI g 160 sk), ((q 47), aI g 128 u2.2.2.2)] := hD.sub [0, 1, 2] (by decide) rfl
    obtain ⟨hp2_0, hp2_1, hp2_2⟩ := hr1
    exact tw_vret E hS (u2.1, u2.2.1, u2.2.2.1, u2.2.2.2) (⟨(fun h => (fun h => h) (hp2_0 h)), (by first | omega | (dsimp only <;> omega)), hp2_2⟩) hP hD d_Mod_giveAnswer_9
