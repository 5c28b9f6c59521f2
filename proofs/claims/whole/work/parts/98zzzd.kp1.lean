set_option maxHeartbeats 4000000 in
set_option maxRecDepth 100000 in
theorem g_Mod_keepText (l : Launch) (g : tw_G) (sz : Nat) (h0 : Nat) (q : Nat → Nat) (rf : Int32) (n : Nat) (mm : Int32) (mb : Int32) (fa : Int32) (fp : Int32) (av : Nat) (ev : Nat) (wi : Int32) (mn : Nat) (tp : Int32) (tc : Int32) (sc : Int32) (nf : Nat) (fd : Nat) (me : Nat) (mp : Int32) (xn : Nat) (mt : Nat) (wh : Nat) (tq : Nat) (ag : Nat) (an : Int32) (ig : Int32) (on : Nat → Int32) (tw : Nat → Int32) (gt : Nat → Int32) (tt : Nat) (k : Nat) (p1 l1 : Nat) (ht11 : tt + 1 < 1100) (k6k : k < 620) (q1k : on k = nI p1) (q2k : tw k = nI l1) (q3k : p1 + l1 ≤ 600) : Met l y_Mod_keepText [.code y_Mod_keepText b_Mod_keepText 3 none] ({ frames := 0, cells := 0, slots := 0, locals := 0 }) (tw_P g [.ref h0, .int (nI tt), .int (nI k)] [(h0, .inr (10, mob q rf n mm mb fa fp av ev wi mn tp tc sc nf fd me mp xn mt wh tq ag an ig)), ((q 16), aI g 620 on), ((q 17), aI g 620 tw), ((q 55), aI g 1100 gt)] sz) (tw_Qv g (fun (u : (Nat → Int32)) => (u = upd (upd gt tt (nI p1)) (tt + 1) (nI l1))) (fun u : (Nat → Int32) => [(h0, .inr (10, mob q rf n mm mb fa fp av ev wi mn tp tc sc nf fd me mp xn mt wh tq ag an ig)), ((q 16), aI g 620 on), ((q 17), aI g 620 tw), ((q 55), aI g 1100 u)]) (va_A [(h0, .inr (10, mob q rf n mm mb fa fp av ev wi mn tp tc sc nf fd me mp xn mt wh tq ag an ig)), ((q 16), aI g 620 on), ((q 17), aI g 620 tw), ((q 55), aI g 1100 gt)] sz)) 0 0 (va_A [(h0, .inr (10, mob q rf n mm mb fa fp av ev wi mn tp tc sc nf fd me mp xn mt wh tq ag an ig)), ((q 16), aI g 620 on), ((q 17), aI g 620 tw), ((q 55), aI g 1100 gt)] sz) := by
  refine tw_metW (l := l) (g := g) (y := y_Mod_keepText) (cc := b_Mod_keepText) (maxL := 3) (ret := none) (rm := { frames := 0, cells := 0, slots := 0, locals := 0 }) (mc := 0) (ms := 0) (av := [.ref h0, .int (nI tt), .int (nI k)]) (ws := [(h0, .inr (10, mob q rf n mm mb fa fp av ev wi mn tp tc sc nf fd me mp xn mt wh tq ag an ig)), ((q 16), aI g 620 on), ((q 17), aI g 620 tw), ((q 55), aI g 1100 gt)]) (sz := sz) (Qc := fun A => (tw_Qv g (fun (u : (Nat → Int32)) => (u = upd (upd gt tt (nI p1)) (tt + 1) (nI l1))) (fun u : (Nat → Int32) => [(h0, .inr (10, mob q rf n mm mb fa fp av ev wi mn tp tc sc nf fd me mp xn mt wh tq ag an ig)), ((q 16), aI g 620 on), ((q 17), aI g 620 tw), ((q 55), aI g 1100 u)]) A)) (by decide) (Nat.le_of_ble_eq_true rfl) ?_
  intro p e s m below meth c ls H A E hB hK hZ hP hD hS hA hl
  obtain ⟨hx, hb, hml, hr, hown, hts, hlocks, hin⟩ := id E
  have hl : lv_has ls 3 [(0, .ref h0), (1, .int (nI tt)), (2, .int (nI k))] := hl
  refine lv_aload_n hx hb d_Mod_keepText_0 rfl (lv_at hl 0 rfl) ?_
  refine va_get (D := g.1) (ci := 10) (v := .ref (q 55)) (C := R_Mod) (T := F_Mod) (N := 61) hx hb hts in_Mod hown hK hP 0 rfl rfl 55 (by decide) (hts _ wd_1305) (fun _ h9 => h9) rfl d_Mod_keepText_1 ?_
  refine lv_iload_n hx hb d_Mod_keepText_4 rfl (lv_at hl 1 rfl) ?_
  refine lv_aload_n hx hb d_Mod_keepText_5 rfl (lv_at hl 0 rfl) ?_
  refine va_get (D := g.1) (ci := 10) (v := .ref (q 16)) (C := R_Mod) (T := F_Mod) (N := 61) hx hb hts in_Mod hown hK hP 0 rfl rfl 16 (by decide) (hts _ wd_1266) (fun _ h9 => h9) rfl d_Mod_keepText_6 ?_
  refine lv_iload_n hx hb d_Mod_keepText_9 rfl (lv_at hl 2 rfl) ?_
  refine va_iald hx hb hK hP 1 0 rfl rfl (vp_in_nI (by omega) (by decide)) d_Mod_keepText_10 ?_
  refine tw_ri (e2 := nI p1) (by rw [nI_clamp (by omega)]; exact q1k) ?_
  refine va_iast hx hb hK hP hD hS 3 0 rfl rfl (vp_in_nI (by omega) (by decide)) d_Mod_keepText_11 (fun H locs hP hD hS => ?_)
  have hP : va_P g.1 classes [(h0, .inr (10, mob q rf n mm mb fa fp av ev wi mn tp tc sc nf fd me mp xn mt wh tq ag an ig)), ((q 16), aI g 620 on), ((q 17), aI g 620 tw), ((q 55), aI g 1100 (upd gt (nI tt).toNatClampNeg (nI p1)))] H := hP
  have hD : va_D A [(h0, .inr (10, mob q rf n mm mb fa fp av ev wi mn tp tc sc nf fd me mp xn mt wh tq ag an ig)), ((q 16), aI g 620 on), ((q 17), aI g 620 tw), ((q 55), aI g 1100 (upd gt (nI tt).toNatClampNeg (nI p1)))] := hD
  have e9 : upd gt (nI tt).toNatClampNeg (nI p1) = upd gt tt (nI p1) := by rw [nI_clamp (by omega)]
  rw [e9] at hP hD
  refine lv_aload_n hx hb d_Mod_keepText_12 rfl (lv_at hl 0 rfl) ?_
  refine va_get (D := g.1) (ci := 10) (v := .ref (q 55)) (C := R_Mod) (T := F_Mod) (N := 61) hx hb hts in_Mod hown hK hP 0 rfl rfl 55 (by decide) (hts _ wd_1305) (fun _ h9 => h9) rfl d_Mod_keepText_13 ?_
  refine lv_iload_n hx hb d_Mod_keepText_16 rfl (lv_at hl 1 rfl) ?_
  refine lv_iconst (v := 1) hx hb d_Mod_keepText_17 (by decide) ?_
  refine lv_iadd hx hb d_Mod_keepText_18 ?_
  refine tw_ri (e2 := nI (tt + 1)) (nI_add tt 1) ?_
  refine lv_aload_n hx hb d_Mod_keepText_19 rfl (lv_at hl 0 rfl) ?_
  refine va_get (D := g.1) (ci := 10) (v := .ref (q 17)) (C := R_Mod) (T := F_Mod) (N := 61) hx hb hts in_Mod hown hK hP 0 rfl rfl 17 (by decide) (hts _ wd_1267) (fun _ h9 => h9) rfl d_Mod_keepText_20 ?_
  refine lv_iload_n hx hb d_Mod_keepText_23 rfl (lv_at hl 2 rfl) ?_
  refine va_iald hx hb hK hP 2 0 rfl rfl (vp_in_nI (by omega) (by decide)) d_Mod_keepText_24 ?_
  refine tw_ri (e2 := nI l1) (by rw [nI_clamp (by omega)]; exact q2k) ?_
  refine va_iast hx hb hK hP hD hS 3 0 rfl rfl (vp_in_nI (by omega) (by decide)) d_Mod_keepText_25 (fun H locs hP hD hS => ?_)
  have hP : va_P g.1 classes [(h0, .inr (10, mob q rf n mm mb fa fp av ev wi mn tp tc sc nf fd me mp xn mt wh tq ag an ig)), ((q 16), aI g 620 on), ((q 17), aI g 620 tw), ((q 55), aI g 1100 (upd (upd gt tt (nI p1)) (nI (tt + 1)).toNatClampNeg (nI l1)))] H := hP
  have hD : va_D A [(h0, .inr (10, mob q rf n mm mb fa fp av ev wi mn tp tc sc nf fd me mp xn mt wh tq ag an ig)), ((q 16), aI g 620 on), ((q 17), aI g 620 tw), ((q 55), aI g 1100 (upd (upd gt tt (nI p1)) (nI (tt + 1)).toNatClampNeg (nI l1)))] := hD
  have e9 : upd (upd gt tt (nI p1)) (nI (tt + 1)).toNatClampNeg (nI l1) = upd (upd gt tt (nI p1)) (tt + 1) (nI l1) := by rw [nI_clamp (by omega)]
  rw [e9] at hP hD
  exact tw_vret E hS (upd (upd gt tt (nI p1)) (tt + 1) (nI l1)) rfl hP hD d_Mod_keepText_26
set_option maxHeartbeats 4000000 in
set_option maxRecDepth 100000 in
theorem g_Mod_keepFrame (l : Launch) (g : tw_G) (sz : Nat) (h0 : Nat) (q : Nat → Nat) (rf : Int32) (n : Nat) (mm : Int32) (mb : Int32) (fa : Int32) (fp : Int32) (av : Nat) (ev : Nat) (wi : Int32) (mn : Nat) (tp : Int32) (tc : Int32) (sc : Int32) (nf : Nat) (fd : Nat) (me : Nat) (mp : Int32) (xn : Nat) (mt : Nat) (wh : Nat) (tq : Nat) (ag : Nat) (an : Int32) (ig : Int32) (dp : Nat → Int32) (kd : Nat → Int32) (to : Nat → Int32) (gd : Nat → Int32) (gk : Nat → Int32) (pp : Nat) (hp6 : pp < 600) : Met l y_Mod_keepFrame [.code y_Mod_keepFrame b_Mod_keepFrame 3 none] ({ frames := 0, cells := 0, slots := 0, locals := 0 }) (tw_P g [.ref h0, .int (nI pp)] [(h0, .inr (10, mob q rf n mm mb fa fp av ev wi mn tp tc sc nf fd me mp xn mt wh tq ag an ig)), ((q 41), aI g 600 dp), ((q 43), aI g 76800 kd), ((q 54), aI g 8 to), ((q 59), aI g 600 gd), ((q 60), aI g 76800 gk)] sz) (tw_Qv g (fun (u : (Nat → Int32) × (Nat → Int32) × (Nat → Int32)) => (u.2.1 = upd gd pp (dp pp)) ∧ (∀ j, j < 4 → u.1 j = to j)) (fun u : (Nat → Int32) × (Nat → Int32) × (Nat → Int32) => [(h0, .inr (10, mob q rf n mm mb fa fp av ev wi mn tp tc sc nf fd me mp xn mt wh tq ag an ig)), ((q 41), aI g 600 dp), ((q 43), aI g 76800 kd), ((q 54), aI g 8 u.1), ((q 59), aI g 600 u.2.1), ((q 60), aI g 76800 u.2.2)]) (va_A [(h0, .inr (10, mob q rf n mm mb fa fp av ev wi mn tp tc sc nf fd me mp xn mt wh tq ag an ig)), ((q 41), aI g 600 dp), ((q 43), aI g 76800 kd), ((q 54), aI g 8 to), ((q 59), aI g 600 gd), ((q 60), aI g 76800 gk)] sz)) 0 0 (va_A [(h0, .inr (10, mob q rf n mm mb fa fp av ev wi mn tp tc sc nf fd me mp xn mt wh tq ag an ig)), ((q 41), aI g 600 dp), ((q 43), aI g 76800 kd), ((q 54), aI g 8 to), ((q 59), aI g 600 gd), ((q 60), aI g 76800 gk)] sz) := by
  refine tw_metW (l := l) (g := g) (y := y_Mod_keepFrame) (cc := b_Mod_keepFrame) (maxL := 3) (ret := none) (rm := { frames := 0, cells := 0, slots := 0, locals := 0 }) (mc := 0) (ms := 0) (av := [.ref h0, .int (nI pp)]) (ws := [(h0, .inr (10, mob q rf n mm mb fa fp av ev wi mn tp tc sc nf fd me mp xn mt wh tq ag an ig)), ((q 41), aI g 600 dp), ((q 43), aI g 76800 kd), ((q 54), aI g 8 to), ((q 59), aI g 600 gd), ((q 60), aI g 76800 gk)]) (sz := sz) (Qc := fun A => (tw_Qv g (fun (u : (Nat → Int32) × (Nat → Int32) × (Nat → Int32)) => (u.2.1 = upd gd pp (dp pp)) ∧ (∀ j, j < 4 → u.1 j = to j)) (fun u : (Nat → Int32) × (Nat → Int32) × (Nat → Int32) => [(h0, .inr (10, mob q rf n mm mb fa fp av ev wi mn tp tc sc nf fd me mp xn mt wh tq ag an ig)), ((q 41), aI g 600 dp), ((q 43), aI g 76800 kd), ((q 54), aI g 8 u.1), ((q 59), aI g 600 u.2.1), ((q 60), aI g 76800 u.2.2)]) A)) (by decide) (Nat.le_of_ble_eq_true rfl) ?_
  intro p e s m below meth c ls H A E hB hK hZ hP hD hS hA hl
  obtain ⟨hx, hb, hml, hr, hown, hts, hlocks, hin⟩ := id E
  have hl : lv_has ls 3 [(0, .ref h0), (1, .int (nI pp))] := hl
  refine lv_aload_n hx hb d_Mod_keepFrame_0 rfl (lv_at hl 0 rfl) ?_
  refine va_get (D := g.1) (ci := 10) (v := .ref (q 59)) (C := R_Mod) (T := F_Mod) (N := 61) hx hb hts in_Mod hown hK hP 0 rfl rfl 59 (by decide) (hts _ wd_1309) (fun _ h9 => h9) rfl d_Mod_keepFrame_1 ?_
  refine lv_iload_n hx hb d_Mod_keepFrame_4 rfl (lv_at hl 1 rfl) ?_
  refine lv_aload_n hx hb d_Mod_keepFrame_5 rfl (lv_at hl 0 rfl) ?_
  refine va_get (D := g.1) (ci := 10) (v := .ref (q 41)) (C := R_Mod) (T := F_Mod) (N := 61) hx hb hts in_Mod hown hK hP 0 rfl rfl 41 (by decide) (hts _ wd_1291) (fun _ h9 => h9) rfl d_Mod_keepFrame_6 ?_
  refine lv_iload_n hx hb d_Mod_keepFrame_9 rfl (lv_at hl 1 rfl) ?_
  refine va_iald hx hb hK hP 1 0 rfl rfl (vp_in_nI (by omega) (by decide)) d_Mod_keepFrame_10 ?_
  refine tw_ri (e2 := dp pp) (by rw [nI_clamp (by omega)]) ?_
  refine va_iast hx hb hK hP hD hS 4 0 rfl rfl (vp_in_nI (by omega) (by decide)) d_Mod_keepFrame_11 (fun H locs hP hD hS => ?_)
  have hP : va_P g.1 classes [(h0, .inr (10, mob q rf n mm mb fa fp av ev wi mn tp tc sc nf fd me mp xn mt wh tq ag an ig)), ((q 41), aI g 600 dp), ((q 43), aI g 76800 kd), ((q 54), aI g 8 to), ((q 59), aI g 600 (upd gd (nI pp).toNatClampNeg (dp pp))), ((q 60), aI g 76800 gk)] H := hP
  have hD : va_D A [(h0, .inr (10, mob q rf n mm mb fa fp av ev wi mn tp tc sc nf fd me mp xn mt wh tq ag an ig)), ((q 41), aI g 600 dp), ((q 43), aI g 76800 kd), ((q 54), aI g 8 to), ((q 59), aI g 600 (upd gd (nI pp).toNatClampNeg (dp pp))), ((q 60), aI g 76800 gk)] := hD
  have e9 : upd gd (nI pp).toNatClampNeg (dp pp) = upd gd pp (dp pp) := by rw [nI_clamp (by omega)]
  rw [e9] at hP hD
  refine lv_aload_n hx hb d_Mod_keepFrame_12 rfl (lv_at hl 0 rfl) ?_
  refine va_get (D := g.1) (ci := 10) (v := .ref (q 41)) (C := R_Mod) (T := F_Mod) (N := 61) hx hb hts in_Mod hown hK hP 0 rfl rfl 41 (by decide) (hts _ wd_1291) (fun _ h9 => h9) rfl d_Mod_keepFrame_13 ?_
  refine lv_iload_n hx hb d_Mod_keepFrame_16 rfl (lv_at hl 1 rfl) ?_
  refine va_iald hx hb hK hP 1 0 rfl rfl (vp_in_nI (by omega) (by decide)) d_Mod_keepFrame_17 ?_
  obtain ⟨x1, ex1⟩ : ∃ z : Int32, dp ((nI pp).toNatClampNeg) = z := ⟨_, rfl⟩
  refine tw_ri (e2 := x1) ex1 ?_
  refine lv_if_ge (tgt := 22) hx hb d_Mod_keepFrame_18 (by decide) (fun h18 => ?_) (fun h18 => ?_)
  · refine lv_aload_n hx hb d_Mod_keepFrame_22 rfl (lv_at hl 0 rfl) ?_
    refine va_get (D := g.1) (ci := 10) (v := .ref (q 54)) (C := R_Mod) (T := F_Mod) (N := 61) hx hb hts in_Mod hown hK hP 0 rfl rfl 54 (by decide) (hts _ wd_1304) (fun _ h9 => h9) rfl d_Mod_keepFrame_23 ?_
    refine lv_iconst (v := 5) hx hb d_Mod_keepFrame_26 (by decide) ?_
    refine lv_dup2_11 hx hb d_Mod_keepFrame_27 rfl rfl ?_
    refine va_iald hx hb hK hP 3 0 rfl rfl (vp_in_nI (n := 5) (by decide) (by decide)) d_Mod_keepFrame_28 ?_
    obtain ⟨x2, ex2⟩ : ∃ z : Int32, to ((5 : Int32).toNatClampNeg) = z := ⟨_, rfl⟩
    refine tw_ri (e2 := x2) ex2 ?_
    refine lv_iconst (v := 1) hx hb d_Mod_keepFrame_29 (by decide) ?_
    refine lv_iadd hx hb d_Mod_keepFrame_30 ?_
    obtain ⟨x3, ex3⟩ : ∃ z : Int32, x2 + 1 = z := ⟨_, rfl⟩
    refine tw_ri (e2 := x3) ex3 ?_
    refine va_iast hx hb hK hP hD hS 3 0 rfl rfl (vp_in_nI (n := 5) (by decide) (by decide)) d_Mod_keepFrame_31 (fun H locs hP hD hS => ?_)
    have hP : va_P g.1 classes [(h0, .inr (10, mob q rf n mm mb fa fp av ev wi mn tp tc sc nf fd me mp xn mt wh tq ag an ig)), ((q 41), aI g 600 dp), ((q 43), aI g 76800 kd), ((q 54), aI g 8 (upd to (5 : Int32).toNatClampNeg x3)), ((q 59), aI g 600 (upd gd pp (dp pp))), ((q 60), aI g 76800 gk)] H := hP
    have hD : va_D A [(h0, .inr (10, mob q rf n mm mb fa fp av ev wi mn tp tc sc nf fd me mp xn mt wh tq ag an ig)), ((q 41), aI g 600 dp), ((q 43), aI g 76800 kd), ((q 54), aI g 8 (upd to (5 : Int32).toNatClampNeg x3)), ((q 59), aI g 600 (upd gd pp (dp pp))), ((q 60), aI g 76800 gk)] := hD
    have e9 : upd to (5 : Int32).toNatClampNeg x3 = upd to 5 x3 := rfl
    rw [e9] at hP hD
    refine lv_aload_n hx hb d_Mod_keepFrame_32 rfl (lv_at hl 0 rfl) ?_
    refine va_get (D := g.1) (ci := 10) (v := .ref (q 54)) (C := R_Mod) (T := F_Mod) (N := 61) hx hb hts in_Mod hown hK hP 0 rfl rfl 54 (by decide) (hts _ wd_1304) (fun _ h9 => h9) rfl d_Mod_keepFrame_33 ?_
    refine lv_bipush (v := 6) hx hb d_Mod_keepFrame_36 (by decide) ?_
    refine lv_aload_n hx hb d_Mod_keepFrame_38 rfl (lv_at hl 0 rfl) ?_
    refine va_get (D := g.1) (ci := 10) (v := .ref (q 41)) (C := R_Mod) (T := F_Mod) (N := 61) hx hb hts in_Mod hown hK hP 0 rfl rfl 41 (by decide) (hts _ wd_1291) (fun _ h9 => h9) rfl d_Mod_keepFrame_39 ?_
    refine lv_iload_n hx hb d_Mod_keepFrame_42 rfl (lv_at hl 1 rfl) ?_
    refine va_iald hx hb hK hP 1 0 rfl rfl (vp_in_nI (by omega) (by decide)) d_Mod_keepFrame_43 ?_
    obtain ⟨x4, ex4⟩ : ∃ z : Int32, dp ((nI pp).toNatClampNeg) = z := ⟨_, rfl⟩
    refine tw_ri (e2 := x4) ex4 ?_
    refine lv_aload_n hx hb d_Mod_keepFrame_44 rfl (lv_at hl 0 rfl) ?_
    refine va_get (D := g.1) (ci := 10) (v := .ref (q 54)) (C := R_Mod) (T := F_Mod) (N := 61) hx hb hts in_Mod hown hK hP 0 rfl rfl 54 (by decide) (hts _ wd_1304) (fun _ h9 => h9) rfl d_Mod_keepFrame_45 ?_
    refine lv_bipush (v := 6) hx hb d_Mod_keepFrame_48 (by decide) ?_
    refine va_iald hx hb hK hP 3 0 rfl rfl (vp_in_nI (n := 6) (by decide) (by decide)) d_Mod_keepFrame_50 ?_
    obtain ⟨x5, ex5⟩ : ∃ z : Int32, (upd to 5 x3) ((6 : Int32).toNatClampNeg) = z := ⟨_, rfl⟩
    refine tw_ri (e2 := x5) ex5 ?_
    refine lv_icmp_le (tgt := 63) hx hb d_Mod_keepFrame_51 (by decide) (fun h51 => ?_) (fun h51 => ?_)
    · refine lv_aload_n hx hb d_Mod_keepFrame_63 rfl (lv_at hl 0 rfl) ?_
      refine va_get (D := g.1) (ci := 10) (v := .ref (q 54)) (C := R_Mod) (T := F_Mod) (N := 61) hx hb hts in_Mod hown hK hP 0 rfl rfl 54 (by decide) (hts _ wd_1304) (fun _ h9 => h9) rfl d_Mod_keepFrame_64 ?_
      refine lv_bipush (v := 6) hx hb d_Mod_keepFrame_67 (by decide) ?_
      refine va_iald hx hb hK hP 3 0 rfl rfl (vp_in_nI (n := 6) (by decide) (by decide)) d_Mod_keepFrame_69 ?_
      obtain ⟨x6, ex6⟩ : ∃ z : Int32, (upd to 5 x3) ((6 : Int32).toNatClampNeg) = z := ⟨_, rfl⟩
      refine tw_ri (e2 := x6) ex6 ?_
      refine va_iast hx hb hK hP hD hS 3 0 rfl rfl (vp_in_nI (n := 6) (by decide) (by decide)) d_Mod_keepFrame_70 (fun H locs hP hD hS => ?_)
      have hP : va_P g.1 classes [(h0, .inr (10, mob q rf n mm mb fa fp av ev wi mn tp tc sc nf fd me mp xn mt wh tq ag an ig)), ((q 41), aI g 600 dp), ((q 43), aI g 76800 kd), ((q 54), aI g 8 (upd (upd to 5 x3) (6 : Int32).toNatClampNeg x6)), ((q 59), aI g 600 (upd gd pp (dp pp))), ((q 60), aI g 76800 gk)] H := hP
      have hD : va_D A [(h0, .inr (10, mob q rf n mm mb fa fp av ev wi mn tp tc sc nf fd me mp xn mt wh tq ag an ig)), ((q 41), aI g 600 dp), ((q 43), aI g 76800 kd), ((q 54), aI g 8 (upd (upd to 5 x3) (6 : Int32).toNatClampNeg x6)), ((q 59), aI g 600 (upd gd pp (dp pp))), ((q 60), aI g 76800 gk)] := hD
      have e9 : upd (upd to 5 x3) (6 : Int32).toNatClampNeg x6 = upd (upd to 5 x3) 6 x6 := rfl
      rw [e9] at hP hD
      refine lv_iconst (v := 0) hx hb d_Mod_keepFrame_71 (by decide) ?_
      refine lv_istore_n hx hb d_Mod_keepFrame_72 rfl hl (by decide) rfl (fun ls hl => ?_)
      have hl : lv_has ls 3 [(2, .int 0), (0, .ref h0), (1, .int (nI pp))] := hl
      have loop73 : ∀ (kq : Nat) (k : Nat) (gk9 : Nat → Int32) (ls : Array Slot) (H : Heap) (locs : List Loc) , 128 - k = kq → (hk4 : k ≤ 128) → lv_has ls 3 [(2, .int (nI k)), (0, .ref h0), (1, .int (nI pp))] → va_P g.1 classes [(h0, .inr (10, mob q rf n mm mb fa fp av ev wi mn tp tc sc nf fd me mp xn mt wh tq ag an ig)), ((q 41), aI g 600 dp), ((q 43), aI g 76800 kd), ((q 54), aI g 8 (upd (upd to 5 x3) 6 x6)), ((q 59), aI g 600 (upd gd pp (dp pp))), ((q 60), aI g 76800 gk9)] H → va_D A [(h0, .inr (10, mob q rf n mm mb fa fp av ev wi mn tp tc sc nf fd me mp xn mt wh tq ag an ig)), ((q 41), aI g 600 dp), ((q 43), aI g 76800 kd), ((q 54), aI g 8 (upd (upd to 5 x3) 6 x6)), ((q 59), aI g 600 (upd gd pp (dp pp))), ((q 60), aI g 76800 gk9)] → va_S A s.heap H locs → W p l e ({ frames := 0, cells := 0, slots := 0, locals := 0 }) s m [.ref h0, .int (nI pp)].toArray below meth c H locs 0 0 (MQ below (tw_Qv g (fun (u : (Nat → Int32) × (Nat → Int32) × (Nat → Int32)) => (u.2.1 = upd gd pp (dp pp)) ∧ (∀ j, j < 4 → u.1 j = to j)) (fun u : (Nat → Int32) × (Nat → Int32) × (Nat → Int32) => [(h0, .inr (10, mob q rf n mm mb fa fp av ev wi mn tp tc sc nf fd me mp xn mt wh tq ag an ig)), ((q 41), aI g 600 dp), ((q 43), aI g 76800 kd), ((q 54), aI g 8 u.1), ((q 59), aI g 600 u.2.1), ((q 60), aI g 76800 u.2.2)]) A) [.ref h0, .int (nI pp)].toArray s 0 0 A) (F0 m 73 ls []) := by
        intro kq
        induction kq using Nat.strongRecOn with
        | _ kq ih =>
          intro k gk9 ls H locs hk hk4 hl hP hD hS
          refine lv_iload_n hx hb d_Mod_keepFrame_73 rfl (lv_at hl 0 rfl) ?_
          refine lv_sipush (v := 128) hx hb d_Mod_keepFrame_74 (by decide) ?_
          refine lv_icmp_ge (tgt := 110) hx hb d_Mod_keepFrame_77 (by decide) (fun h77 => ?_) (fun h77 => ?_)
          · exact tw_vret E hS (upd (upd to 5 x3) 6 x6, upd gd pp (dp pp), gk9) (⟨rfl, (fun j hj => (if_neg (by omega)).trans (if_neg (by omega)))⟩) hP hD d_Mod_keepFrame_110
          · have h77 := tn_nle (a := 128) h77 (by decide) (by omega)
            refine lv_aload_n hx hb d_Mod_keepFrame_80 rfl (lv_at hl 1 rfl) ?_
            refine va_get (D := g.1) (ci := 10) (v := .ref (q 60)) (C := R_Mod) (T := F_Mod) (N := 61) hx hb hts in_Mod hown hK hP 0 rfl rfl 60 (by decide) (hts _ wd_1310) (fun _ h9 => h9) rfl d_Mod_keepFrame_81 ?_
            refine lv_sipush (v := 128) hx hb d_Mod_keepFrame_84 (by decide) ?_
            refine lv_iload_n hx hb d_Mod_keepFrame_87 rfl (lv_at hl 2 rfl) ?_
            refine lv_imul hx hb d_Mod_keepFrame_88 ?_
            refine tw_ri (e2 := nI (128 * pp)) (pk_mul 128 pp) ?_
            refine lv_iload_n hx hb d_Mod_keepFrame_89 rfl (lv_at hl 0 rfl) ?_
            refine lv_iadd hx hb d_Mod_keepFrame_90 ?_
            refine tw_ri (e2 := nI (128 * pp + k)) (nI_add _ _) ?_
            refine lv_aload_n hx hb d_Mod_keepFrame_91 rfl (lv_at hl 1 rfl) ?_
            refine va_get (D := g.1) (ci := 10) (v := .ref (q 43)) (C := R_Mod) (T := F_Mod) (N := 61) hx hb hts in_Mod hown hK hP 0 rfl rfl 43 (by decide) (hts _ wd_1293) (fun _ h9 => h9) rfl d_Mod_keepFrame_92 ?_
            refine lv_sipush (v := 128) hx hb d_Mod_keepFrame_95 (by decide) ?_
            refine lv_iload_n hx hb d_Mod_keepFrame_98 rfl (lv_at hl 2 rfl) ?_
            refine lv_imul hx hb d_Mod_keepFrame_99 ?_
            refine tw_ri (e2 := nI (128 * pp)) (pk_mul 128 pp) ?_
            refine lv_iload_n hx hb d_Mod_keepFrame_100 rfl (lv_at hl 0 rfl) ?_
            refine lv_iadd hx hb d_Mod_keepFrame_101 ?_
            refine tw_ri (e2 := nI (128 * pp + k)) (nI_add _ _) ?_
            refine va_iald hx hb hK hP 2 0 rfl rfl (vp_in_nI (by omega) (by decide)) d_Mod_keepFrame_102 ?_
            obtain ⟨x7, ex7⟩ : ∃ z : Int32, kd ((nI (128 * pp + k)).toNatClampNeg) = z := ⟨_, rfl⟩
            refine tw_ri (e2 := x7) ex7 ?_
            refine va_iast hx hb hK hP hD hS 5 0 rfl rfl (vp_in_nI (by omega) (by decide)) d_Mod_keepFrame_103 (fun H locs hP hD hS => ?_)
            have hP : va_P g.1 classes [(h0, .inr (10, mob q rf n mm mb fa fp av ev wi mn tp tc sc nf fd me mp xn mt wh tq ag an ig)), ((q 41), aI g 600 dp), ((q 43), aI g 76800 kd), ((q 54), aI g 8 (upd (upd to 5 x3) 6 x6)), ((q 59), aI g 600 (upd gd pp (dp pp))), ((q 60), aI g 76800 (upd gk9 (nI (128 * pp + k)).toNatClampNeg x7))] H := hP
            have hD : va_D A [(h0, .inr (10, mob q rf n mm mb fa fp av ev wi mn tp tc sc nf fd me mp xn mt wh tq ag an ig)), ((q 41), aI g 600 dp), ((q 43), aI g 76800 kd), ((q 54), aI g 8 (upd (upd to 5 x3) 6 x6)), ((q 59), aI g 600 (upd gd pp (dp pp))), ((q 60), aI g 76800 (upd gk9 (nI (128 * pp + k)).toNatClampNeg x7))] := hD
            refine lv_iinc (k := 0) (v := nI (k + 1)) hx hb d_Mod_keepFrame_104 hl rfl ((nI_succ k).symm) (by decide) rfl (fun ls hl => ?_)
            have hl : lv_has ls 3 [(2, .int (nI (k + 1))), (0, .ref h0), (1, .int (nI pp))] := hl
            refine lv_goto (tgt := 73) hx hb d_Mod_keepFrame_107 (by decide) ?_
            have hP : va_P g.1 classes [(h0, .inr (10, mob q rf n mm mb fa fp av ev wi mn tp tc sc nf fd me mp xn mt wh tq ag an ig)), ((q 41), aI g 600 dp), ((q 43), aI g 76800 kd), ((q 54), aI g 8 (upd (upd to 5 x3) 6 x6)), ((q 59), aI g 600 (upd gd pp (dp pp))), ((q 60), aI g 76800 (upd gk9 (nI (128 * pp + k)).toNatClampNeg x7))] H := hP.sub [0, 1, 2, 3, 4, 5] rfl
            have hD : va_D A [(h0, .inr (10, mob q rf n mm mb fa fp av ev wi mn tp tc sc nf fd me mp xn mt wh tq ag an ig)), ((q 41), aI g 600 dp), ((q 43), aI g 76800 kd), ((q 54), aI g 8 (upd (upd to 5 x3) 6 x6)), ((q 59), aI g 600 (upd gd pp (dp pp))), ((q 60), aI g 76800 (upd gk9 (nI (128 * pp + k)).toNatClampNeg x7))] := hD.sub [0, 1, 2, 3, 4, 5] (by decide) rfl
            exact ih _ (by omega) (k + 1) (upd gk9 (nI (128 * pp + k)).toNatClampNeg x7) ls _ _ rfl (by omega) (lv_sub hl [0, 1, 2] rfl) hP hD hS
      exact loop73 _ 0 gk ls _ _ rfl (Nat.zero_le _) (hl) hP hD hS
    · refine lv_aload_n hx hb d_Mod_keepFrame_54 rfl (lv_at hl 0 rfl) ?_
      refine va_get (D := g.1) (ci := 10) (v := .ref (q 41)) (C := R_Mod) (T := F_Mod) (N := 61) hx hb hts in_Mod hown hK hP 0 rfl rfl 41 (by decide) (hts _ wd_1291) (fun _ h9 => h9) rfl d_Mod_keepFrame_55 ?_
      refine lv_iload_n hx hb d_Mod_keepFrame_58 rfl (lv_at hl 1 rfl) ?_
      refine va_iald hx hb hK hP 1 0 rfl rfl (vp_in_nI (by omega) (by decide)) d_Mod_keepFrame_59 ?_
      obtain ⟨x8, ex8⟩ : ∃ z : Int32, dp ((nI pp).toNatClampNeg) = z := ⟨_, rfl⟩
      refine tw_ri (e2 := x8) ex8 ?_
      refine lv_goto (tgt := 70) hx hb d_Mod_keepFrame_60 (by decide) ?_
      refine va_iast hx hb hK hP hD hS 3 0 rfl rfl (vp_in_nI (n := 6) (by decide) (by decide)) d_Mod_keepFrame_70 (fun H locs hP hD hS => ?_)
      have hP : va_P g.1 classes [(h0, .inr (10, mob q rf n mm mb fa fp av ev wi mn tp tc sc nf fd me mp xn mt wh tq ag an ig)), ((q 41), aI g 600 dp), ((q 43), aI g 76800 kd), ((q 54), aI g 8 (upd (upd to 5 x3) (6 : Int32).toNatClampNeg x8)), ((q 59), aI g 600 (upd gd pp (dp pp))), ((q 60), aI g 76800 gk)] H := hP
      have hD : va_D A [(h0, .inr (10, mob q rf n mm mb fa fp av ev wi mn tp tc sc nf fd me mp xn mt wh tq ag an ig)), ((q 41), aI g 600 dp), ((q 43), aI g 76800 kd), ((q 54), aI g 8 (upd (upd to 5 x3) (6 : Int32).toNatClampNeg x8)), ((q 59), aI g 600 (upd gd pp (dp pp))), ((q 60), aI g 76800 gk)] := hD
      have e9 : upd (upd to 5 x3) (6 : Int32).toNatClampNeg x8 = upd (upd to 5 x3) 6 x8 := rfl
      rw [e9] at hP hD
      refine lv_iconst (v := 0) hx hb d_Mod_keepFrame_71 (by decide) ?_
      refine lv_istore_n hx hb d_Mod_keepFrame_72 rfl hl (by decide) rfl (fun ls hl => ?_)
      have hl : lv_has ls 3 [(2, .int 0), (0, .ref h0), (1, .int (nI pp))] := hl
      have loop73 : ∀ (kq : Nat) (k : Nat) (gk9 : Nat → Int32) (ls : Array Slot) (H : Heap) (locs : List Loc) , 128 - k = kq → (hk4 : k ≤ 128) → lv_has ls 3 [(2, .int (nI k)), (0, .ref h0), (1, .int (nI pp))] → va_P g.1 classes [(h0, .inr (10, mob q rf n mm mb fa fp av ev wi mn tp tc sc nf fd me mp xn mt wh tq ag an ig)), ((q 41), aI g 600 dp), ((q 43), aI g 76800 kd), ((q 54), aI g 8 (upd (upd to 5 x3) 6 x8)), ((q 59), aI g 600 (upd gd pp (dp pp))), ((q 60), aI g 76800 gk9)] H → va_D A [(h0, .inr (10, mob q rf n mm mb fa fp av ev wi mn tp tc sc nf fd me mp xn mt wh tq ag an ig)), ((q 41), aI g 600 dp), ((q 43), aI g 76800 kd), ((q 54), aI g 8 (upd (upd to 5 x3) 6 x8)), ((q 59), aI g 600 (upd gd pp (dp pp))), ((q 60), aI g 76800 gk9)] → va_S A s.heap H locs → W p l e ({ frames := 0, cells := 0, slots := 0, locals := 0 }) s m [.ref h0, .int (nI pp)].toArray below meth c H locs 0 0 (MQ below (tw_Qv g (fun (u : (Nat → Int32) × (Nat → Int32) × (Nat → Int32)) => (u.2.1 = upd gd pp (dp pp)) ∧ (∀ j, j < 4 → u.1 j = to j)) (fun u : (Nat → Int32) × (Nat → Int32) × (Nat → Int32) => [(h0, .inr (10, mob q rf n mm mb fa fp av ev wi mn tp tc sc nf fd me mp xn mt wh tq ag an ig)), ((q 41), aI g 600 dp), ((q 43), aI g 76800 kd), ((q 54), aI g 8 u.1), ((q 59), aI g 600 u.2.1), ((q 60), aI g 76800 u.2.2)]) A) [.ref h0, .int (nI pp)].toArray s 0 0 A) (F0 m 73 ls []) := by
        intro kq
        induction kq using Nat.strongRecOn with
        | _ kq ih =>
          intro k gk9 ls H locs hk hk4 hl hP hD hS
          refine lv_iload_n hx hb d_Mod_keepFrame_73 rfl (lv_at hl 0 rfl) ?_
          refine lv_sipush (v := 128) hx hb d_Mod_keepFrame_74 (by decide) ?_
          refine lv_icmp_ge (tgt := 110) hx hb d_Mod_keepFrame_77 (by decide) (fun h77 => ?_) (fun h77 => ?_)
          · exact tw_vret E hS (upd (upd to 5 x3) 6 x8, upd gd pp (dp pp), gk9) (⟨rfl, (fun j hj => (if_neg (by omega)).trans (if_neg (by omega)))⟩) hP hD d_Mod_keepFrame_110
          · have h77 := tn_nle (a := 128) h77 (by decide) (by omega)
            refine lv_aload_n hx hb d_Mod_keepFrame_80 rfl (lv_at hl 1 rfl) ?_
            refine va_get (D := g.1) (ci := 10) (v := .ref (q 60)) (C := R_Mod) (T := F_Mod) (N := 61) hx hb hts in_Mod hown hK hP 0 rfl rfl 60 (by decide) (hts _ wd_1310) (fun _ h9 => h9) rfl d_Mod_keepFrame_81 ?_
            refine lv_sipush (v := 128) hx hb d_Mod_keepFrame_84 (by decide) ?_
            refine lv_iload_n hx hb d_Mod_keepFrame_87 rfl (lv_at hl 2 rfl) ?_
            refine lv_imul hx hb d_Mod_keepFrame_88 ?_
            refine tw_ri (e2 := nI (128 * pp)) (pk_mul 128 pp) ?_
            refine lv_iload_n hx hb d_Mod_keepFrame_89 rfl (lv_at hl 0 rfl) ?_
            refine lv_iadd hx hb d_Mod_keepFrame_90 ?_
            refine tw_ri (e2 := nI (128 * pp + k)) (nI_add _ _) ?_
            refine lv_aload_n hx hb d_Mod_keepFrame_91 rfl (lv_at hl 1 rfl) ?_
            refine va_get (D := g.1) (ci := 10) (v := .ref (q 43)) (C := R_Mod) (T := F_Mod) (N := 61) hx hb hts in_Mod hown hK hP 0 rfl rfl 43 (by decide) (hts _ wd_1293) (fun _ h9 => h9) rfl d_Mod_keepFrame_92 ?_
            refine lv_sipush (v := 128) hx hb d_Mod_keepFrame_95 (by decide) ?_
            refine lv_iload_n hx hb d_Mod_keepFrame_98 rfl (lv_at hl 2 rfl) ?_
            refine lv_imul hx hb d_Mod_keepFrame_99 ?_
            refine tw_ri (e2 := nI (128 * pp)) (pk_mul 128 pp) ?_
            refine lv_iload_n hx hb d_Mod_keepFrame_100 rfl (lv_at hl 0 rfl) ?_
            refine lv_iadd hx hb d_Mod_keepFrame_101 ?_
            refine tw_ri (e2 := nI (128 * pp + k)) (nI_add _ _) ?_
            refine va_iald hx hb hK hP 2 0 rfl rfl (vp_in_nI (by omega) (by decide)) d_Mod_keepFrame_102 ?_
            obtain ⟨x9, ex9⟩ : ∃ z : Int32, kd ((nI (128 * pp + k)).toNatClampNeg) = z := ⟨_, rfl⟩
            refine tw_ri (e2 := x9) ex9 ?_
            refine va_iast hx hb hK hP hD hS 5 0 rfl rfl (vp_in_nI (by omega) (by decide)) d_Mod_keepFrame_103 (fun H locs hP hD hS => ?_)
            have hP : va_P g.1 classes [(h0, .inr (10, mob q rf n mm mb fa fp av ev wi mn tp tc sc nf fd me mp xn mt wh tq ag an ig)), ((q 41), aI g 600 dp), ((q 43), aI g 76800 kd), ((q 54), aI g 8 (upd (upd to 5 x3) 6 x8)), ((q 59), aI g 600 (upd gd pp (dp pp))), ((q 60), aI g 76800 (upd gk9 (nI (128 * pp + k)).toNatClampNeg x9))] H := hP
            have hD : va_D A [(h0, .inr (10, mob q rf n mm mb fa fp av ev wi mn tp tc sc nf fd me mp xn mt wh tq ag an ig)), ((q 41), aI g 600 dp), ((q 43), aI g 76800 kd), ((q 54), aI g 8 (upd (upd to 5 x3) 6 x8)), ((q 59), aI g 600 (upd gd pp (dp pp))), ((q 60), aI g 76800 (upd gk9 (nI (128 * pp + k)).toNatClampNeg x9))] := hD
            refine lv_iinc (k := 0) (v := nI (k + 1)) hx hb d_Mod_keepFrame_104 hl rfl ((nI_succ k).symm) (by decide) rfl (fun ls hl => ?_)
            have hl : lv_has ls 3 [(2, .int (nI (k + 1))), (0, .ref h0), (1, .int (nI pp))] := hl
            refine lv_goto (tgt := 73) hx hb d_Mod_keepFrame_107 (by decide) ?_
            have hP : va_P g.1 classes [(h0, .inr (10, mob q rf n mm mb fa fp av ev wi mn tp tc sc nf fd me mp xn mt wh tq ag an ig)), ((q 41), aI g 600 dp), ((q 43), aI g 76800 kd), ((q 54), aI g 8 (upd (upd to 5 x3) 6 x8)), ((q 59), aI g 600 (upd gd pp (dp pp))), ((q 60), aI g 76800 (upd gk9 (nI (128 * pp + k)).toNatClampNeg x9))] H := hP.sub [0, 1, 2, 3, 4, 5] rfl
            have hD : va_D A [(h0, .inr (10, mob q rf n mm mb fa fp av ev wi mn tp tc sc nf fd me mp xn mt wh tq ag an ig)), ((q 41), aI g 600 dp), ((q 43), aI g 76800 kd), ((q 54), aI g 8 (upd (upd to 5 x3) 6 x8)), ((q 59), aI g 600 (upd gd pp (dp pp))), ((q 60), aI g 76800 (upd gk9 (nI (128 * pp + k)).toNatClampNeg x9))] := hD.sub [0, 1, 2, 3, 4, 5] (by decide) rfl
            exact ih _ (by omega) (k + 1) (upd gk9 (nI (128 * pp + k)).toNatClampNeg x9) ls _ _ rfl (by omega) (lv_sub hl [0, 1, 2] rfl) hP hD hS
      exact loop73 _ 0 gk ls _ _ rfl (Nat.zero_le _) (hl) hP hD hS
  · exact tw_vret E hS (to, upd gd pp (dp pp), gk) (⟨rfl, (fun j hj => rfl)⟩) hP hD d_Mod_keepFrame_21
