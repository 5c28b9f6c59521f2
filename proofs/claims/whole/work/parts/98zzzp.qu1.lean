set_option maxHeartbeats 4000000 in
set_option maxRecDepth 100000 in
theorem g_Mod_refused (l : Launch) (g : tw_G) (sz : Nat) (h0 : Nat) (q : Nat → Nat) (n : Nat) (mm : Int32) (mb : Int32) (fa : Int32) (fp : Int32) (av : Nat) (ev : Nat) (wi : Int32) (mn : Nat) (tp : Int32) (tc : Int32) (sc : Int32) (nf : Nat) (fd : Nat) (me : Nat) (mp : Int32) (xn : Nat) (mt : Nat) (wh : Nat) (tq : Nat) (ag : Nat) (an : Int32) (ig : Int32) (rf : Int32) (x : Int32) : Met l y_Mod_refused [.code y_Mod_refused b_Mod_refused 2 (some .boolean)] ({ frames := 0, cells := 0, slots := 0, locals := 0 }) (tw_P g [.ref h0, .int x] [(h0, .inr (10, mob q rf n mm mb fa fp av ev wi mn tp tc sc nf fd me mp xn mt wh tq ag an ig))] sz) (tw_Qi g (fun (r : Int32) (u : Int32) => ((r = 0 ∨ r = 1) ∧ r = (if 0 < x then 1 else 0)) ∧ (u = x)) (fun u : Int32 => [(h0, .inr (10, mob q u n mm mb fa fp av ev wi mn tp tc sc nf fd me mp xn mt wh tq ag an ig))]) (va_A [(h0, .inr (10, mob q rf n mm mb fa fp av ev wi mn tp tc sc nf fd me mp xn mt wh tq ag an ig))] sz)) 0 0 (va_A [(h0, .inr (10, mob q rf n mm mb fa fp av ev wi mn tp tc sc nf fd me mp xn mt wh tq ag an ig))] sz) := by
  refine tw_metW (l := l) (g := g) (y := y_Mod_refused) (cc := b_Mod_refused) (maxL := 2) (ret := (some .boolean)) (rm := { frames := 0, cells := 0, slots := 0, locals := 0 }) (mc := 0) (ms := 0) (av := [.ref h0, .int x]) (ws := [(h0, .inr (10, mob q rf n mm mb fa fp av ev wi mn tp tc sc nf fd me mp xn mt wh tq ag an ig))]) (sz := sz) (Qc := fun A => (tw_Qi g (fun (r : Int32) (u : Int32) => ((r = 0 ∨ r = 1) ∧ r = (if 0 < x then 1 else 0)) ∧ (u = x)) (fun u : Int32 => [(h0, .inr (10, mob q u n mm mb fa fp av ev wi mn tp tc sc nf fd me mp xn mt wh tq ag an ig))]) A)) (by decide) (Nat.le_of_ble_eq_true rfl) ?_
  intro p e s m below meth c ls H A E hB hK hZ hP hD hS hA hl
  obtain ⟨hx, hb, hml, hr, hown, hts, hlocks, hin⟩ := id E
  have hl : lv_has ls 2 [(0, .ref h0), (1, .int x)] := hl
  refine lv_aload_n hx hb d_Mod_refused_0 rfl (lv_at hl 0 rfl) ?_
  refine lv_iload_n hx hb d_Mod_refused_1 rfl (lv_at hl 1 rfl) ?_
  refine va_put (D := g.1) (ci := 10) (v := .int x) (ty := .int) (C := R_Mod) (T := F_Mod) (N := 61) hx hb hts in_Mod t_Mod t_Mod_ok n_Mod hown hK hP hD hS 0 rfl rfl 0 (by decide) (hts _ wd_1250) (fun _ h9 => h9) rfl (t_Mod_ok 0 (by decide)) rfl rfl (Nat.le_of_ble_eq_true rfl) d_Mod_refused_2 (fun H locs hP hD hS => ?_)
  have hP : va_P g.1 classes [(h0, .inr (10, mob q x n mm mb fa fp av ev wi mn tp tc sc nf fd me mp xn mt wh tq ag an ig))] H := hP
  have hD : va_D A [(h0, .inr (10, mob q x n mm mb fa fp av ev wi mn tp tc sc nf fd me mp xn mt wh tq ag an ig))] := hD
  refine lv_iload_n hx hb d_Mod_refused_5 rfl (lv_at hl 1 rfl) ?_
  refine lv_if_le (tgt := 13) hx hb d_Mod_refused_6 (by decide) (fun h6 => ?_) (fun h6 => ?_)
  · refine lv_iconst (v := 0) hx hb d_Mod_refused_13 (by decide) ?_
    exact tw_zret E hS x (by decide) (⟨⟨Or.inl rfl, (if_neg (Int32.not_lt.mpr h6)).symm⟩, rfl⟩) hP hD d_Mod_refused_14
  · refine lv_iconst (v := 1) hx hb d_Mod_refused_9 (by decide) ?_
    refine lv_goto (tgt := 14) hx hb d_Mod_refused_10 (by decide) ?_
    exact tw_zret E hS x (by decide) (⟨⟨Or.inr rfl, (if_pos (Int32.not_le.mp h6)).symm⟩, rfl⟩) hP hD d_Mod_refused_14
set_option maxHeartbeats 4000000 in
set_option maxRecDepth 100000 in
theorem g_Mod_count (l : Launch) (g : tw_G) (sz : Nat) (h0 : Nat) (q : Nat → Nat) (n : Nat) (mm : Int32) (mb : Int32) (fa : Int32) (fp : Int32) (av : Nat) (ev : Nat) (wi : Int32) (mn : Nat) (tp : Int32) (tc : Int32) (sc : Int32) (nf : Nat) (fd : Nat) (me : Nat) (mp : Int32) (xn : Nat) (mt : Nat) (wh : Nat) (tq : Nat) (ag : Nat) (an : Int32) (ig : Int32) (to : Nat → Int32) (rf : Int32) (wt : Int32) : Met l y_Mod_count [.code y_Mod_count b_Mod_count 2 (some .int)] ({ frames := 1, cells := 0, slots := 0, locals := 22 }) (tw_P g [.ref h0, .int wt] [(h0, .inr (10, mob q rf n mm mb fa fp av ev wi mn tp tc sc nf fd me mp xn mt wh tq ag an ig)), ((q 54), aI g 8 to)] sz) (tw_Qi g (fun (r : Int32) (u : Int32) => True) (fun u : Int32 => [(h0, .inr (10, mob q u n mm mb fa fp av ev wi mn tp tc sc nf fd me mp xn mt wh tq ag an ig)), ((q 54), aI g 8 to)]) (va_A [(h0, .inr (10, mob q rf n mm mb fa fp av ev wi mn tp tc sc nf fd me mp xn mt wh tq ag an ig)), ((q 54), aI g 8 to)] sz)) 0 0 (va_A [(h0, .inr (10, mob q rf n mm mb fa fp av ev wi mn tp tc sc nf fd me mp xn mt wh tq ag an ig)), ((q 54), aI g 8 to)] sz) := by
  refine tw_metW (l := l) (g := g) (y := y_Mod_count) (cc := b_Mod_count) (maxL := 2) (ret := (some .int)) (rm := { frames := 1, cells := 0, slots := 0, locals := 22 }) (mc := 0) (ms := 0) (av := [.ref h0, .int wt]) (ws := [(h0, .inr (10, mob q rf n mm mb fa fp av ev wi mn tp tc sc nf fd me mp xn mt wh tq ag an ig)), ((q 54), aI g 8 to)]) (sz := sz) (Qc := fun A => (tw_Qi g (fun (r : Int32) (u : Int32) => True) (fun u : Int32 => [(h0, .inr (10, mob q u n mm mb fa fp av ev wi mn tp tc sc nf fd me mp xn mt wh tq ag an ig)), ((q 54), aI g 8 to)]) A)) (by decide) (Nat.le_of_ble_eq_true rfl) ?_
  intro p e s m below meth c ls H A E hB hK hZ hP hD hS hA hl
  obtain ⟨hx, hb, hml, hr, hown, hts, hlocks, hin⟩ := id E
  have hl : lv_has ls 2 [(0, .ref h0), (1, .int wt)] := hl
  refine lv_aload_n hx hb d_Mod_count_0 rfl (lv_at hl 0 rfl) ?_
  refine lv_aload_n hx hb d_Mod_count_1 rfl (lv_at hl 0 rfl) ?_
  refine va_get (D := g.1) (ci := 10) (v := .int ig) (C := R_Mod) (T := F_Mod) (N := 61) hx hb hts in_Mod hown hK hP 0 rfl rfl 52 (by decide) (hts _ wd_1302) (fun _ h9 => h9) rfl d_Mod_count_2 ?_
  refine lv_if_ne (tgt := 12) hx hb d_Mod_count_5 (by decide) (fun h5 => ?_) (fun h5 => ?_)
  · refine lv_iload_n hx hb d_Mod_count_12 rfl (lv_at hl 1 rfl) ?_
    refine lv_iconst (v := 0) hx hb d_Mod_count_13 (by decide) ?_
    refine lv_bipush (v := 6) hx hb d_Mod_count_14 (by decide) ?_
    refine tw_si (tw_runS (ws := [(h0, .inr (10, mob q rf n mm mb fa fp av ev wi mn tp tc sc nf fd me mp xn mt wh tq ag an ig)), ((q 54), aI g 8 to)]) (wc := []) (As := [.int wt, .int 0, .int 6]) (rest := [.ref h0]) E hB hK hZ (c_Mod_isIn l g H.size wt 0 6) mc_Mod_isIn ms_Mod_isIn wd_1443 hP hD hS hA [] rfl (by decide) rfl rfl (by decide) rfl hl.1 rfl (Nat.le_of_ble_eq_true rfl) (by decide) d_Mod_count_16) (fun r1 hr1 => ?_)
    obtain rfl : r1 = is_in wt 0 6 := hr1
    refine lv_if_ne (tgt := 26) hx hb d_Mod_count_19 (by decide) (fun h19 => ?_) (fun h19 => ?_)
    · obtain ⟨i1, i2⟩ := is_inN h19
      obtain ⟨jw, hjw, hje⟩ := nI_of2 (n := 6) (by decide) i1 (Int32.not_lt.mp i2)
      subst hje
      refine lv_iconst (v := 0) hx hb d_Mod_count_26 (by decide) ?_
      refine tw_wi (wr := [((q 54), aI g 8 to)]) (tw_runV (ws := [(h0, .inr (10, mob q rf n mm mb fa fp av ev wi mn tp tc sc nf fd me mp xn mt wh tq ag an ig)), ((q 54), aI g 8 to)]) (wc := [(h0, .inr (10, mob q rf n mm mb fa fp av ev wi mn tp tc sc nf fd me mp xn mt wh tq ag an ig))]) (As := [.int 0]) (rest := []) E hB hK hZ (g_Mod_refused l g H.size h0 q n mm mb fa fp av ev wi mn tp tc sc nf fd me mp xn mt wh tq ag an ig rf 0) mc_Mod_refused mi_Mod_refused me_Mod_refused wd_1446 hP hD hS hA [0] rfl (by decide) 0 rfl rfl rfl rfl rfl (by decide) rfl hl.1 rfl (Nat.le_of_ble_eq_true rfl) (by decide) d_Mod_count_27) hP hD hS hA [0] [1] rfl rfl (by decide) (by decide) (fun r2 u3 H locs hr2 hP hD hS => ?_)
      try dsimp only at hr2
      have hP : va_P g.1 classes [((q 54), aI g 8 to), (h0, .inr (10, mob q u3 n mm mb fa fp av ev wi mn tp tc sc nf fd me mp xn mt wh tq ag an ig))] H := hP
      have hD : va_D A [((q 54), aI g 8 to), (h0, .inr (10, mob q u3 n mm mb fa fp av ev wi mn tp tc sc nf fd me mp xn mt wh tq ag an ig))] := hD
      have hP : va_P g.1 classes [(h0, .inr (10, mob q u3 n mm mb fa fp av ev wi mn tp tc sc nf fd me mp xn mt wh tq ag an ig)), ((q 54), aI g 8 to)] H := hP.sub [1, 0] rfl
      have hD : va_D A [(h0, .inr (10, mob q u3 n mm mb fa fp av ev wi mn tp tc sc nf fd me mp xn mt wh tq ag an ig)), ((q 54), aI g 8 to)] := hD.sub [1, 0] (by decide) rfl
      obtain ⟨hB3, hp3_0⟩ := hr2
      have hrr27 : r2 = 0 := hB3.2.trans (by decide)
      subst hrr27
      refine lv_if_eq (tgt := 37) hx hb d_Mod_count_30 (by decide) (fun h30 => ?_) (fun h30 => ?_)
      · refine lv_aload_n hx hb d_Mod_count_37 rfl (lv_at hl 0 rfl) ?_
        refine va_get (D := g.1) (ci := 10) (v := .ref (q 54)) (C := R_Mod) (T := F_Mod) (N := 61) hx hb hts in_Mod hown hK hP 0 rfl rfl 54 (by decide) (hts _ wd_1304) (fun _ h9 => h9) rfl d_Mod_count_38 ?_
        refine lv_iload_n hx hb d_Mod_count_41 rfl (lv_at hl 1 rfl) ?_
        refine va_iald hx hb hK hP 1 0 rfl rfl (vp_in_nI (by omega) (by decide)) d_Mod_count_42 ?_
        obtain ⟨x4, ex4⟩ : ∃ z : Int32, to ((nI jw).toNatClampNeg) = z := ⟨_, rfl⟩
        refine tw_ri (e2 := x4) ex4 ?_
        exact tw_iret E hS u3 trivial hP hD d_Mod_count_43
      · first | exact absurd h30 (by decide) | exact absurd (by decide) h30
    · refine lv_iconst (v := 2) hx hb d_Mod_count_22 (by decide) ?_
      refine lv_goto (tgt := 27) hx hb d_Mod_count_23 (by decide) ?_
      refine tw_wi (wr := [((q 54), aI g 8 to)]) (tw_runV (ws := [(h0, .inr (10, mob q rf n mm mb fa fp av ev wi mn tp tc sc nf fd me mp xn mt wh tq ag an ig)), ((q 54), aI g 8 to)]) (wc := [(h0, .inr (10, mob q rf n mm mb fa fp av ev wi mn tp tc sc nf fd me mp xn mt wh tq ag an ig))]) (As := [.int 2]) (rest := []) E hB hK hZ (g_Mod_refused l g H.size h0 q n mm mb fa fp av ev wi mn tp tc sc nf fd me mp xn mt wh tq ag an ig rf 2) mc_Mod_refused mi_Mod_refused me_Mod_refused wd_1446 hP hD hS hA [0] rfl (by decide) 0 rfl rfl rfl rfl rfl (by decide) rfl hl.1 rfl (Nat.le_of_ble_eq_true rfl) (by decide) d_Mod_count_27) hP hD hS hA [0] [1] rfl rfl (by decide) (by decide) (fun r5 u6 H locs hr5 hP hD hS => ?_)
      try dsimp only at hr5
      have hP : va_P g.1 classes [((q 54), aI g 8 to), (h0, .inr (10, mob q u6 n mm mb fa fp av ev wi mn tp tc sc nf fd me mp xn mt wh tq ag an ig))] H := hP
      have hD : va_D A [((q 54), aI g 8 to), (h0, .inr (10, mob q u6 n mm mb fa fp av ev wi mn tp tc sc nf fd me mp xn mt wh tq ag an ig))] := hD
      have hP : va_P g.1 classes [(h0, .inr (10, mob q u6 n mm mb fa fp av ev wi mn tp tc sc nf fd me mp xn mt wh tq ag an ig)), ((q 54), aI g 8 to)] H := hP.sub [1, 0] rfl
      have hD : va_D A [(h0, .inr (10, mob q u6 n mm mb fa fp av ev wi mn tp tc sc nf fd me mp xn mt wh tq ag an ig)), ((q 54), aI g 8 to)] := hD.sub [1, 0] (by decide) rfl
      obtain ⟨hB6, hp6_0⟩ := hr5
      have hrr27 : r5 = 1 := hB6.2.trans (by decide)
      subst hrr27
      refine lv_if_eq (tgt := 37) hx hb d_Mod_count_30 (by decide) (fun h30 => ?_) (fun h30 => ?_)
      · first | exact absurd h30 (by decide) | exact absurd (by decide) h30
      · refine lv_iconst (v := 0) hx hb d_Mod_count_33 (by decide) ?_
        refine lv_goto (tgt := 43) hx hb d_Mod_count_34 (by decide) ?_
        exact tw_iret E hS u6 trivial hP hD d_Mod_count_43
  · refine lv_iconst (v := 1) hx hb d_Mod_count_8 (by decide) ?_
    refine lv_goto (tgt := 27) hx hb d_Mod_count_9 (by decide) ?_
    refine tw_wi (wr := [((q 54), aI g 8 to)]) (tw_runV (ws := [(h0, .inr (10, mob q rf n mm mb fa fp av ev wi mn tp tc sc nf fd me mp xn mt wh tq ag an ig)), ((q 54), aI g 8 to)]) (wc := [(h0, .inr (10, mob q rf n mm mb fa fp av ev wi mn tp tc sc nf fd me mp xn mt wh tq ag an ig))]) (As := [.int 1]) (rest := []) E hB hK hZ (g_Mod_refused l g H.size h0 q n mm mb fa fp av ev wi mn tp tc sc nf fd me mp xn mt wh tq ag an ig rf 1) mc_Mod_refused mi_Mod_refused me_Mod_refused wd_1446 hP hD hS hA [0] rfl (by decide) 0 rfl rfl rfl rfl rfl (by decide) rfl hl.1 rfl (Nat.le_of_ble_eq_true rfl) (by decide) d_Mod_count_27) hP hD hS hA [0] [1] rfl rfl (by decide) (by decide) (fun r7 u8 H locs hr7 hP hD hS => ?_)
    try dsimp only at hr7
    have hP : va_P g.1 classes [((q 54), aI g 8 to), (h0, .inr (10, mob q u8 n mm mb fa fp av ev wi mn tp tc sc nf fd me mp xn mt wh tq ag an ig))] H := hP
    have hD : va_D A [((q 54), aI g 8 to), (h0, .inr (10, mob q u8 n mm mb fa fp av ev wi mn tp tc sc nf fd me mp xn mt wh tq ag an ig))] := hD
    have hP : va_P g.1 classes [(h0, .inr (10, mob q u8 n mm mb fa fp av ev wi mn tp tc sc nf fd me mp xn mt wh tq ag an ig)), ((q 54), aI g 8 to)] H := hP.sub [1, 0] rfl
    have hD : va_D A [(h0, .inr (10, mob q u8 n mm mb fa fp av ev wi mn tp tc sc nf fd me mp xn mt wh tq ag an ig)), ((q 54), aI g 8 to)] := hD.sub [1, 0] (by decide) rfl
    obtain ⟨hB8, hp8_0⟩ := hr7
    have hrr27 : r7 = 1 := hB8.2.trans (by decide)
    subst hrr27
    refine lv_if_eq (tgt := 37) hx hb d_Mod_count_30 (by decide) (fun h30 => ?_) (fun h30 => ?_)
    · first | exact absurd h30 (by decide) | exact absurd (by decide) h30
    · refine lv_iconst (v := 0) hx hb d_Mod_count_33 (by decide) ?_
      refine lv_goto (tgt := 43) hx hb d_Mod_count_34 (by decide) ?_
      exact tw_iret E hS u8 trivial hP hD d_Mod_count_43
set_option maxHeartbeats 4000000 in
set_option maxRecDepth 100000 in
theorem g_Mod_text (l : Launch) (g : tw_G) (sz : Nat) (h0 : Nat) (q : Nat → Nat) (n : Nat) (mm : Int32) (mb : Int32) (fa : Int32) (fp : Int32) (av : Nat) (ev : Nat) (wi : Int32) (mn : Nat) (tp : Int32) (tc : Int32) (sc : Int32) (nf : Nat) (fd : Nat) (me : Nat) (mp : Int32) (xn : Nat) (mt : Nat) (wh : Nat) (tq : Nat) (ag : Nat) (an : Int32) (ig : Int32) (gb : Nat → Int32) (to : Nat → Int32) (gt : Nat → Int32) (gbg : Nat → Int32) (gl : Nat → Int32) (glo : Nat → Int32) (gd : Nat → Int32) (rf : Int32) (wt : Int32) (k1 : Int32) (i9 : Int32) (hGZ : ig = 0 ∨ GOK to gt gbg gl glo gd) : Met l y_Mod_text [.code y_Mod_text b_Mod_text 6 (some .char)] ({ frames := 1, cells := 0, slots := 0, locals := 22 }) (tw_P g [.ref h0, .int wt, .int k1, .int i9] [(h0, .inr (10, mob q rf n mm mb fa fp av ev wi mn tp tc sc nf fd me mp xn mt wh tq ag an ig)), ((q 53), aI g 600 gb), ((q 54), aI g 8 to), ((q 55), aI g 1100 gt), ((q 56), aI g 160 gbg), ((q 57), aI g 160 gl), ((q 58), aI g 160 glo), ((q 59), aI g 600 gd)] sz) (tw_Qi g (fun (r : Int32) (u : Int32) => True) (fun u : Int32 => [(h0, .inr (10, mob q u n mm mb fa fp av ev wi mn tp tc sc nf fd me mp xn mt wh tq ag an ig)), ((q 53), aI g 600 gb), ((q 54), aI g 8 to), ((q 55), aI g 1100 gt), ((q 56), aI g 160 gbg), ((q 57), aI g 160 gl), ((q 58), aI g 160 glo), ((q 59), aI g 600 gd)]) (va_A [(h0, .inr (10, mob q rf n mm mb fa fp av ev wi mn tp tc sc nf fd me mp xn mt wh tq ag an ig)), ((q 53), aI g 600 gb), ((q 54), aI g 8 to), ((q 55), aI g 1100 gt), ((q 56), aI g 160 gbg), ((q 57), aI g 160 gl), ((q 58), aI g 160 glo), ((q 59), aI g 600 gd)] sz)) 0 0 (va_A [(h0, .inr (10, mob q rf n mm mb fa fp av ev wi mn tp tc sc nf fd me mp xn mt wh tq ag an ig)), ((q 53), aI g 600 gb), ((q 54), aI g 8 to), ((q 55), aI g 1100 gt), ((q 56), aI g 160 gbg), ((q 57), aI g 160 gl), ((q 58), aI g 160 glo), ((q 59), aI g 600 gd)] sz) := by
  refine tw_metW (l := l) (g := g) (y := y_Mod_text) (cc := b_Mod_text) (maxL := 6) (ret := (some .char)) (rm := { frames := 1, cells := 0, slots := 0, locals := 22 }) (mc := 0) (ms := 0) (av := [.ref h0, .int wt, .int k1, .int i9]) (ws := [(h0, .inr (10, mob q rf n mm mb fa fp av ev wi mn tp tc sc nf fd me mp xn mt wh tq ag an ig)), ((q 53), aI g 600 gb), ((q 54), aI g 8 to), ((q 55), aI g 1100 gt), ((q 56), aI g 160 gbg), ((q 57), aI g 160 gl), ((q 58), aI g 160 glo), ((q 59), aI g 600 gd)]) (sz := sz) (Qc := fun A => (tw_Qi g (fun (r : Int32) (u : Int32) => True) (fun u : Int32 => [(h0, .inr (10, mob q u n mm mb fa fp av ev wi mn tp tc sc nf fd me mp xn mt wh tq ag an ig)), ((q 53), aI g 600 gb), ((q 54), aI g 8 to), ((q 55), aI g 1100 gt), ((q 56), aI g 160 gbg), ((q 57), aI g 160 gl), ((q 58), aI g 160 glo), ((q 59), aI g 600 gd)]) A)) (by decide) (Nat.le_of_ble_eq_true rfl) ?_
  intro p e s m below meth c ls H A E hB hK hZ hP hD hS hA hl
  obtain ⟨hx, hb, hml, hr, hown, hts, hlocks, hin⟩ := id E
  have hl : lv_has ls 6 [(0, .ref h0), (1, .int wt), (2, .int k1), (3, .int i9)] := hl
  refine lv_aload_n hx hb d_Mod_text_0 rfl (lv_at hl 0 rfl) ?_
  refine lv_aload_n hx hb d_Mod_text_1 rfl (lv_at hl 0 rfl) ?_
  refine va_get (D := g.1) (ci := 10) (v := .int ig) (C := R_Mod) (T := F_Mod) (N := 61) hx hb hts in_Mod hown hK hP 0 rfl rfl 52 (by decide) (hts _ wd_1302) (fun _ h9 => h9) rfl d_Mod_text_2 ?_
  refine lv_if_ne (tgt := 12) hx hb d_Mod_text_5 (by decide) (fun h5 => ?_) (fun h5 => ?_)
  · obtain ⟨c1, c2, c3, gc1, gc2, gT, g0, g2, gm, gf, gk_, gd_⟩ := hGZ.resolve_left h5
    refine lv_iload_n hx hb d_Mod_text_12 rfl (lv_at hl 1 rfl) ?_
    refine lv_iconst (v := 0) hx hb d_Mod_text_13 (by decide) ?_
    refine lv_bipush (v := 6) hx hb d_Mod_text_14 (by decide) ?_
    refine tw_si (tw_runS (ws := [(h0, .inr (10, mob q rf n mm mb fa fp av ev wi mn tp tc sc nf fd me mp xn mt wh tq ag an ig)), ((q 53), aI g 600 gb), ((q 54), aI g 8 to), ((q 55), aI g 1100 gt), ((q 56), aI g 160 gbg), ((q 57), aI g 160 gl), ((q 58), aI g 160 glo), ((q 59), aI g 600 gd)]) (wc := []) (As := [.int wt, .int 0, .int 6]) (rest := [.ref h0]) E hB hK hZ (c_Mod_isIn l g H.size wt 0 6) mc_Mod_isIn ms_Mod_isIn wd_1443 hP hD hS hA [] rfl (by decide) rfl rfl (by decide) rfl hl.1 rfl (Nat.le_of_ble_eq_true rfl) (by decide) d_Mod_text_16) (fun r1 hr1 => ?_)
    obtain rfl : r1 = is_in wt 0 6 := hr1
    refine lv_if_ne (tgt := 26) hx hb d_Mod_text_19 (by decide) (fun h19 => ?_) (fun h19 => ?_)
    · obtain ⟨i1, i2⟩ := is_inN h19
      obtain ⟨jw, hjw, hje⟩ := nI_of2 (n := 6) (by decide) i1 (Int32.not_lt.mp i2)
      subst hje
      refine lv_iconst (v := 0) hx hb d_Mod_text_26 (by decide) ?_
      refine tw_wi (wr := [((q 53), aI g 600 gb), ((q 54), aI g 8 to), ((q 55), aI g 1100 gt), ((q 56), aI g 160 gbg), ((q 57), aI g 160 gl), ((q 58), aI g 160 glo), ((q 59), aI g 600 gd)]) (tw_runV (ws := [(h0, .inr (10, mob q rf n mm mb fa fp av ev wi mn tp tc sc nf fd me mp xn mt wh tq ag an ig)), ((q 53), aI g 600 gb), ((q 54), aI g 8 to), ((q 55), aI g 1100 gt), ((q 56), aI g 160 gbg), ((q 57), aI g 160 gl), ((q 58), aI g 160 glo), ((q 59), aI g 600 gd)]) (wc := [(h0, .inr (10, mob q rf n mm mb fa fp av ev wi mn tp tc sc nf fd me mp xn mt wh tq ag an ig))]) (As := [.int 0]) (rest := []) E hB hK hZ (g_Mod_refused l g H.size h0 q n mm mb fa fp av ev wi mn tp tc sc nf fd me mp xn mt wh tq ag an ig rf 0) mc_Mod_refused mi_Mod_refused me_Mod_refused wd_1446 hP hD hS hA [0] rfl (by decide) 0 rfl rfl rfl rfl rfl (by decide) rfl hl.1 rfl (Nat.le_of_ble_eq_true rfl) (by decide) d_Mod_text_27) hP hD hS hA [0] [1, 2, 3, 4, 5, 6, 7] rfl rfl (by decide) (by decide) (fun r2 u3 H locs hr2 hP hD hS => ?_)
      try dsimp only at hr2
      have hP : va_P g.1 classes [((q 53), aI g 600 gb), ((q 54), aI g 8 to), ((q 55), aI g 1100 gt), ((q 56), aI g 160 gbg), ((q 57), aI g 160 gl), ((q 58), aI g 160 glo), ((q 59), aI g 600 gd), (h0, .inr (10, mob q u3 n mm mb fa fp av ev wi mn tp tc sc nf fd me mp xn mt wh tq ag an ig))] H := hP
      have hD : va_D A [((q 53), aI g 600 gb), ((q 54), aI g 8 to), ((q 55), aI g 1100 gt), ((q 56), aI g 160 gbg), ((q 57), aI g 160 gl), ((q 58), aI g 160 glo), ((q 59), aI g 600 gd), (h0, .inr (10, mob q u3 n mm mb fa fp av ev wi mn tp tc sc nf fd me mp xn mt wh tq ag an ig))] := hD
      have hP : va_P g.1 classes [(h0, .inr (10, mob q u3 n mm mb fa fp av ev wi mn tp tc sc nf fd me mp xn mt wh tq ag an ig)), ((q 53), aI g 600 gb), ((q 54), aI g 8 to), ((q 55), aI g 1100 gt), ((q 56), aI g 160 gbg), ((q 57), aI g 160 gl), ((q 58), aI g 160 glo), ((q 59), aI g 600 gd)] H := hP.sub [7, 0, 1, 2, 3, 4, 5, 6] rfl
      have hD : va_D A [(h0, .inr (10, mob q u3 n mm mb fa fp av ev wi mn tp tc sc nf fd me mp xn mt wh tq ag an ig)), ((q 53), aI g 600 gb), ((q 54), aI g 8 to), ((q 55), aI g 1100 gt), ((q 56), aI g 160 gbg), ((q 57), aI g 160 gl), ((q 58), aI g 160 glo), ((q 59), aI g 600 gd)] := hD.sub [7, 0, 1, 2, 3, 4, 5, 6] (by decide) rfl
      obtain ⟨hB3, hp3_0⟩ := hr2
      have hrr27 : r2 = 0 := hB3.2.trans (by decide)
      subst hrr27
      refine lv_if_eq (tgt := 36) hx hb d_Mod_text_30 (by decide) (fun h30 => ?_) (fun h30 => ?_)
      · refine lv_iload_n hx hb d_Mod_text_36 rfl (lv_at hl 1 rfl) ?_
        refine lv_if_ne (tgt := 44) hx hb d_Mod_text_37 (by decide) (fun h37 => ?_) (fun h37 => ?_)
        · have h37 := tn_ne (b := 0) h37
          refine lv_iload_n hx hb d_Mod_text_44 rfl (lv_at hl 1 rfl) ?_
          refine lv_iconst (v := 1) hx hb d_Mod_text_45 (by decide) ?_
          refine lv_icmp_ne (tgt := 53) hx hb d_Mod_text_46 (by decide) (fun h46 => ?_) (fun h46 => ?_)
          · have h46 := tn_ne (b := 1) h46
            refine lv_iload_n hx hb d_Mod_text_53 rfl (lv_at hl 1 rfl) ?_
            refine lv_iconst (v := 2) hx hb d_Mod_text_54 (by decide) ?_
            refine lv_icmp_ne (tgt := 68) hx hb d_Mod_text_55 (by decide) (fun h55 => ?_) (fun h55 => ?_)
            · have h55b := tn_ne (b := 2) h55
              refine lv_iload_n hx hb d_Mod_text_68 rfl (lv_at hl 1 rfl) ?_
              refine lv_iconst (v := 5) hx hb d_Mod_text_69 (by decide) ?_
              refine lv_icmp_ge (tgt := 87) hx hb d_Mod_text_70 (by decide) (fun h70 => ?_) (fun h70 => ?_)
              · have h70b := tn_le (a := 5) h70 (by decide) (by omega)
                refine lv_iconst (v := 4) hx hb d_Mod_text_87 (by decide) ?_
                refine lv_iconst (v := 4) hx hb d_Mod_text_88 (by decide) ?_
                refine lv_aload_n hx hb d_Mod_text_89 rfl (lv_at hl 0 rfl) ?_
                refine va_get (D := g.1) (ci := 10) (v := .ref (q 54)) (C := R_Mod) (T := F_Mod) (N := 61) hx hb hts in_Mod hown hK hP 0 rfl rfl 54 (by decide) (hts _ wd_1304) (fun _ h9 => h9) rfl d_Mod_text_90 ?_
                refine lv_iconst (v := 2) hx hb d_Mod_text_93 (by decide) ?_
                refine va_iald hx hb hK hP 2 0 rfl rfl (vp_in_nI (n := 2) (by decide) (by decide)) d_Mod_text_94 ?_
                refine tw_ri (e2 := nI c2) gT.2.1 ?_
                refine lv_iload_n hx hb d_Mod_text_95 rfl (lv_at hl 2 rfl) ?_
                refine lv_iadd hx hb d_Mod_text_96 ?_
                refine tw_ri (e2 := (nI c2) + k1) rfl ?_
                refine lv_imul hx hb d_Mod_text_97 ?_
                refine tw_ri (e2 := 4 * ((nI c2) + k1)) rfl ?_
                refine lv_iadd hx hb d_Mod_text_98 ?_
                refine tw_ri (e2 := 4 + (4 * ((nI c2) + k1))) rfl ?_
                refine lv_iconst (v := 2) hx hb d_Mod_text_99 (by decide) ?_
                refine lv_iload_n hx hb d_Mod_text_100 rfl (lv_at hl 1 rfl) ?_
                refine lv_iconst (v := 5) hx hb d_Mod_text_101 (by decide) ?_
                refine lv_isub hx hb d_Mod_text_102 ?_
                refine tw_ri (e2 := (nI jw) - 5) rfl ?_
                refine lv_imul hx hb d_Mod_text_103 ?_
                refine tw_ri (e2 := 2 * ((nI jw) - 5)) rfl ?_
                refine lv_iadd hx hb d_Mod_text_104 ?_
                refine tw_ri (e2 := (4 + (4 * ((nI c2) + k1))) + (2 * ((nI jw) - 5))) rfl ?_
                refine lv_istore hx hb d_Mod_text_105 hl (by decide) rfl (fun ls hl => ?_)
                have hl : lv_has ls 6 [(4, .int ((4 + (4 * ((nI c2) + k1))) + (2 * ((nI jw) - 5)))), (0, .ref h0), (1, .int (nI jw)), (2, .int k1), (3, .int i9)] := hl
                refine lv_iload_n hx hb d_Mod_text_107 rfl (lv_at hl 2 rfl) ?_
                refine lv_iconst (v := 2) hx hb d_Mod_text_108 (by decide) ?_
                refine lv_icmp_lt (tgt := 154) hx hb d_Mod_text_109 (by decide) (fun h109 => ?_) (fun h109 => ?_)
                · exact absurd (tn_lt (b := 2) h109 (by omega) (by decide)) (by omega)
                · refine lv_iload_n hx hb d_Mod_text_112 rfl (lv_at hl 3 rfl) ?_
                  refine lv_if_lt (tgt := 158) hx hb d_Mod_text_113 (by decide) (fun h113 => ?_) (fun h113 => ?_)
                  · refine lv_iconst (v := 0) hx hb d_Mod_text_158 (by decide) ?_
                    refine lv_istore hx hb d_Mod_text_159 hl (by decide) rfl (fun ls hl => ?_)
                    have hl : lv_has ls 6 [(5, .int 0), (4, .int ((4 + (4 * ((nI c2) + k1))) + (2 * ((nI jw) - 5)))), (0, .ref h0), (1, .int (nI jw)), (2, .int k1), (3, .int i9)] := hl
                    refine lv_iload hx hb d_Mod_text_161 (lv_at hl 0 rfl) ?_
                    refine lv_if_eq (tgt := 201) hx hb d_Mod_text_163 (by decide) (fun h163 => ?_) (fun h163 => ?_)
                    · refine lv_bipush (v := 32) hx hb d_Mod_text_201 (by decide) ?_
                      exact tw_zret E hS u3 (by decide) trivial hP hD d_Mod_text_203
                    · first | exact absurd h163 (by decide) | exact absurd (by decide) h163
                  · obtain ⟨jk, hjk, hke⟩ := nI_of h113
                    subst hke
                    refine lv_iload_n hx hb d_Mod_text_116 rfl (lv_at hl 3 rfl) ?_
                    refine lv_iload_n hx hb d_Mod_text_117 rfl (lv_at hl 2 rfl) ?_
                    refine lv_iconst (v := 2) hx hb d_Mod_text_118 (by decide) ?_
                    refine lv_icmp_ne (tgt := 131) hx hb d_Mod_text_119 (by decide) (fun h119 => ?_) (fun h119 => ?_)
                    · refine lv_iload_n hx hb d_Mod_text_131 rfl (lv_at hl 2 rfl) ?_
                      refine lv_iconst (v := 5) hx hb d_Mod_text_132 (by decide) ?_
                      refine lv_icmp_ge (tgt := 145) hx hb d_Mod_text_133 (by decide) (fun h133 => ?_) (fun h133 => ?_)
                      · refine lv_aload_n hx hb d_Mod_text_145 rfl (lv_at hl 1 rfl) ?_
                        refine va_get (D := g.1) (ci := 10) (v := .ref (q 54)) (C := R_Mod) (T := F_Mod) (N := 61) hx hb hts in_Mod hown hK hP 0 rfl rfl 54 (by decide) (hts _ wd_1304) (fun _ h9 => h9) rfl d_Mod_text_146 ?_
                        refine lv_iconst (v := 3) hx hb d_Mod_text_149 (by decide) ?_
                        refine va_iald hx hb hK hP 2 0 rfl rfl (vp_in_nI (n := 3) (by decide) (by decide)) d_Mod_text_150 ?_
                        refine tw_ri (e2 := nI c3) gT.2.2 ?_
                        refine lv_icmp_ge (tgt := 158) hx hb d_Mod_text_151 (by decide) (fun h151 => ?_) (fun h151 => ?_)
                        · refine lv_iconst (v := 0) hx hb d_Mod_text_158 (by decide) ?_
                          refine lv_istore hx hb d_Mod_text_159 hl (by decide) rfl (fun ls hl => ?_)
                          have hl : lv_has ls 6 [(5, .int 0), (4, .int ((4 + (4 * ((nI c2) + (nI jk)))) + (2 * ((nI jw) - 5)))), (0, .ref h0), (1, .int (nI jw)), (2, .int (nI jk)), (3, .int i9)] := hl
                          refine lv_iload hx hb d_Mod_text_161 (lv_at hl 0 rfl) ?_
                          refine lv_if_eq (tgt := 201) hx hb d_Mod_text_163 (by decide) (fun h163 => ?_) (fun h163 => ?_)
                          · refine lv_bipush (v := 32) hx hb d_Mod_text_201 (by decide) ?_
                            exact tw_zret E hS u3 (by decide) trivial hP hD d_Mod_text_203
                          · first | exact absurd h163 (by decide) | exact absurd (by decide) h163
                        · have h151 := tn_nle h151 (by omega) (by omega)
                          obtain ⟨pg, lg, z1, z2, z3⟩ : TXG gt (4 + 4 * (c2 + jk) + 2 * (jw - 5)) := (txg_w5 (gm (c2 + jk) (by omega)) (by omega))
                          refine lv_iconst (v := 1) hx hb d_Mod_text_154 (by decide) ?_
                          refine lv_goto (tgt := 159) hx hb d_Mod_text_155 (by decide) ?_
                          refine lv_istore hx hb d_Mod_text_159 hl (by decide) rfl (fun ls hl => ?_)
                          have hl : lv_has ls 6 [(5, .int 1), (4, .int ((4 + (4 * ((nI c2) + (nI jk)))) + (2 * ((nI jw) - 5)))), (0, .ref h0), (1, .int (nI jw)), (2, .int (nI jk)), (3, .int i9)] := hl
                          refine lv_iload hx hb d_Mod_text_161 (lv_at hl 0 rfl) ?_
                          refine lv_if_eq (tgt := 201) hx hb d_Mod_text_163 (by decide) (fun h163 => ?_) (fun h163 => ?_)
                          · first | exact absurd h163 (by decide) | exact absurd (by decide) h163
                          · refine lv_iload_n hx hb d_Mod_text_166 rfl (lv_at hl 5 rfl) ?_
                            refine lv_if_lt (tgt := 201) hx hb d_Mod_text_167 (by decide) (fun h167 => ?_) (fun h167 => ?_)
                            · refine lv_bipush (v := 32) hx hb d_Mod_text_201 (by decide) ?_
                              exact tw_zret E hS u3 (by decide) trivial hP hD d_Mod_text_203
                            · obtain ⟨ji, hji, hie⟩ := nI_of h167
                              subst hie
                              refine lv_iload_n hx hb d_Mod_text_170 rfl (lv_at hl 5 rfl) ?_
                              refine lv_aload_n hx hb d_Mod_text_171 rfl (lv_at hl 2 rfl) ?_
                              refine va_get (D := g.1) (ci := 10) (v := .ref (q 55)) (C := R_Mod) (T := F_Mod) (N := 61) hx hb hts in_Mod hown hK hP 0 rfl rfl 55 (by decide) (hts _ wd_1305) (fun _ h9 => h9) rfl d_Mod_text_172 ?_
                              refine lv_iload hx hb d_Mod_text_175 (lv_at hl 1 rfl) ?_
                              refine lv_iconst (v := 1) hx hb d_Mod_text_177 (by decide) ?_
                              refine lv_iadd hx hb d_Mod_text_178 ?_
                              refine tw_ri (e2 := nI ((4 + 4 * (c2 + jk) + 2 * (jw - 5)) + 1)) (by rw [show ((4 + (4 * ((nI c2) + (nI jk)))) + (2 * ((nI jw) - 5))) = nI (4 + 4 * (c2 + jk) + 2 * (jw - 5)) from tx_5 (by omega)]; exact nI_add _ 1) ?_
                              refine va_iald hx hb hK hP 3 0 rfl rfl (vp_in_nI (by omega) (by decide)) d_Mod_text_179 ?_
                              refine tw_ri (e2 := nI lg) (by rw [nI_clamp (by omega)]; exact z2) ?_
                              refine lv_icmp_ge (tgt := 201) hx hb d_Mod_text_180 (by decide) (fun h180 => ?_) (fun h180 => ?_)
                              · refine lv_bipush (v := 32) hx hb d_Mod_text_201 (by decide) ?_
                                exact tw_zret E hS u3 (by decide) trivial hP hD d_Mod_text_203
                              · have h180 := tn_nle h180 (by omega) (by omega)
                                refine lv_aload_n hx hb d_Mod_text_183 rfl (lv_at hl 2 rfl) ?_
                                refine va_get (D := g.1) (ci := 10) (v := .ref (q 53)) (C := R_Mod) (T := F_Mod) (N := 61) hx hb hts in_Mod hown hK hP 0 rfl rfl 53 (by decide) (hts _ wd_1303) (fun _ h9 => h9) rfl d_Mod_text_184 ?_
                                refine lv_aload_n hx hb d_Mod_text_187 rfl (lv_at hl 2 rfl) ?_
                                refine va_get (D := g.1) (ci := 10) (v := .ref (q 55)) (C := R_Mod) (T := F_Mod) (N := 61) hx hb hts in_Mod hown hK hP 0 rfl rfl 55 (by decide) (hts _ wd_1305) (fun _ h9 => h9) rfl d_Mod_text_188 ?_
                                refine lv_iload hx hb d_Mod_text_191 (lv_at hl 1 rfl) ?_
                                refine va_iald hx hb hK hP 3 0 rfl rfl (by rw [show ((4 + (4 * ((nI c2) + (nI jk)))) + (2 * ((nI jw) - 5))) = nI (4 + 4 * (c2 + jk) + 2 * (jw - 5)) from tx_5 (by omega)]; exact vp_in_nI (by omega) (by decide)) d_Mod_text_193 ?_
                                refine tw_ri (e2 := nI pg) (by rw [show ((4 + (4 * ((nI c2) + (nI jk)))) + (2 * ((nI jw) - 5))) = nI (4 + 4 * (c2 + jk) + 2 * (jw - 5)) from tx_5 (by omega), nI_clamp (by omega)]; exact z1) ?_
                                refine lv_iload_n hx hb d_Mod_text_194 rfl (lv_at hl 5 rfl) ?_
                                refine lv_iadd hx hb d_Mod_text_195 ?_
                                refine tw_ri (e2 := nI (pg + ji)) (nI_add _ _) ?_
                                refine va_iald hx hb hK hP 1 0 rfl rfl (vp_in_nI (by omega) (by decide)) d_Mod_text_196 ?_
                                obtain ⟨x4, ex4⟩ : ∃ z : Int32, gb ((nI (pg + ji)).toNatClampNeg) = z := ⟨_, rfl⟩
                                refine tw_ri (e2 := x4) ex4 ?_
                                refine lv_i2c (v := (x4.toUInt32 % 65536).toInt32) hx hb d_Mod_text_197 rfl ?_
                                refine lv_goto (tgt := 203) hx hb d_Mod_text_198 (by decide) ?_
                                exact tw_zret E hS u3 (tn_char _) trivial hP hD d_Mod_text_203
                      · exact absurd h70 h133
                    · exact absurd h119 h55
              · have h70b := tn_nle (a := 5) h70 (by decide) (by omega)
                refine lv_iconst (v := 4) hx hb d_Mod_text_73 (by decide) ?_
                refine lv_iconst (v := 4) hx hb d_Mod_text_74 (by decide) ?_
                refine lv_iload_n hx hb d_Mod_text_75 rfl (lv_at hl 2 rfl) ?_
                refine lv_imul hx hb d_Mod_text_76 ?_
                refine tw_ri (e2 := 4 * k1) rfl ?_
                refine lv_iadd hx hb d_Mod_text_77 ?_
                refine tw_ri (e2 := 4 + (4 * k1)) rfl ?_
                refine lv_iconst (v := 2) hx hb d_Mod_text_78 (by decide) ?_
                refine lv_iload_n hx hb d_Mod_text_79 rfl (lv_at hl 1 rfl) ?_
                refine lv_iconst (v := 3) hx hb d_Mod_text_80 (by decide) ?_
                refine lv_isub hx hb d_Mod_text_81 ?_
                refine tw_ri (e2 := (nI jw) - 3) rfl ?_
                refine lv_imul hx hb d_Mod_text_82 ?_
                refine tw_ri (e2 := 2 * ((nI jw) - 3)) rfl ?_
                refine lv_iadd hx hb d_Mod_text_83 ?_
                refine tw_ri (e2 := (4 + (4 * k1)) + (2 * ((nI jw) - 3))) rfl ?_
                refine lv_goto (tgt := 105) hx hb d_Mod_text_84 (by decide) ?_
                refine lv_istore hx hb d_Mod_text_105 hl (by decide) rfl (fun ls hl => ?_)
                have hl : lv_has ls 6 [(4, .int ((4 + (4 * k1)) + (2 * ((nI jw) - 3)))), (0, .ref h0), (1, .int (nI jw)), (2, .int k1), (3, .int i9)] := hl
                refine lv_iload_n hx hb d_Mod_text_107 rfl (lv_at hl 2 rfl) ?_
                refine lv_iconst (v := 2) hx hb d_Mod_text_108 (by decide) ?_
                refine lv_icmp_lt (tgt := 154) hx hb d_Mod_text_109 (by decide) (fun h109 => ?_) (fun h109 => ?_)
                · exact absurd (tn_lt (b := 2) h109 (by omega) (by decide)) (by omega)
                · refine lv_iload_n hx hb d_Mod_text_112 rfl (lv_at hl 3 rfl) ?_
                  refine lv_if_lt (tgt := 158) hx hb d_Mod_text_113 (by decide) (fun h113 => ?_) (fun h113 => ?_)
                  · refine lv_iconst (v := 0) hx hb d_Mod_text_158 (by decide) ?_
                    refine lv_istore hx hb d_Mod_text_159 hl (by decide) rfl (fun ls hl => ?_)
                    have hl : lv_has ls 6 [(5, .int 0), (4, .int ((4 + (4 * k1)) + (2 * ((nI jw) - 3)))), (0, .ref h0), (1, .int (nI jw)), (2, .int k1), (3, .int i9)] := hl
                    refine lv_iload hx hb d_Mod_text_161 (lv_at hl 0 rfl) ?_
                    refine lv_if_eq (tgt := 201) hx hb d_Mod_text_163 (by decide) (fun h163 => ?_) (fun h163 => ?_)
                    · refine lv_bipush (v := 32) hx hb d_Mod_text_201 (by decide) ?_
                      exact tw_zret E hS u3 (by decide) trivial hP hD d_Mod_text_203
                    · first | exact absurd h163 (by decide) | exact absurd (by decide) h163
                  · obtain ⟨jk, hjk, hke⟩ := nI_of h113
                    subst hke
                    refine lv_iload_n hx hb d_Mod_text_116 rfl (lv_at hl 3 rfl) ?_
                    refine lv_iload_n hx hb d_Mod_text_117 rfl (lv_at hl 2 rfl) ?_
                    refine lv_iconst (v := 2) hx hb d_Mod_text_118 (by decide) ?_
                    refine lv_icmp_ne (tgt := 131) hx hb d_Mod_text_119 (by decide) (fun h119 => ?_) (fun h119 => ?_)
                    · refine lv_iload_n hx hb d_Mod_text_131 rfl (lv_at hl 2 rfl) ?_
                      refine lv_iconst (v := 5) hx hb d_Mod_text_132 (by decide) ?_
                      refine lv_icmp_ge (tgt := 145) hx hb d_Mod_text_133 (by decide) (fun h133 => ?_) (fun h133 => ?_)
                      · exact absurd h133 h70
                      · refine lv_aload_n hx hb d_Mod_text_136 rfl (lv_at hl 1 rfl) ?_
                        refine va_get (D := g.1) (ci := 10) (v := .ref (q 54)) (C := R_Mod) (T := F_Mod) (N := 61) hx hb hts in_Mod hown hK hP 0 rfl rfl 54 (by decide) (hts _ wd_1304) (fun _ h9 => h9) rfl d_Mod_text_137 ?_
                        refine lv_iconst (v := 2) hx hb d_Mod_text_140 (by decide) ?_
                        refine va_iald hx hb hK hP 2 0 rfl rfl (vp_in_nI (n := 2) (by decide) (by decide)) d_Mod_text_141 ?_
                        refine tw_ri (e2 := nI c2) gT.2.1 ?_
                        refine lv_goto (tgt := 151) hx hb d_Mod_text_142 (by decide) ?_
                        refine lv_icmp_ge (tgt := 158) hx hb d_Mod_text_151 (by decide) (fun h151 => ?_) (fun h151 => ?_)
                        · refine lv_iconst (v := 0) hx hb d_Mod_text_158 (by decide) ?_
                          refine lv_istore hx hb d_Mod_text_159 hl (by decide) rfl (fun ls hl => ?_)
                          have hl : lv_has ls 6 [(5, .int 0), (4, .int ((4 + (4 * (nI jk))) + (2 * ((nI jw) - 3)))), (0, .ref h0), (1, .int (nI jw)), (2, .int (nI jk)), (3, .int i9)] := hl
                          refine lv_iload hx hb d_Mod_text_161 (lv_at hl 0 rfl) ?_
                          refine lv_if_eq (tgt := 201) hx hb d_Mod_text_163 (by decide) (fun h163 => ?_) (fun h163 => ?_)
                          · refine lv_bipush (v := 32) hx hb d_Mod_text_201 (by decide) ?_
                            exact tw_zret E hS u3 (by decide) trivial hP hD d_Mod_text_203
                          · first | exact absurd h163 (by decide) | exact absurd (by decide) h163
                        · have h151 := tn_nle h151 (by omega) (by omega)
                          obtain ⟨pg, lg, z1, z2, z3⟩ : TXG gt (4 + 4 * jk + 2 * (jw - 3)) := (txg_w3 (gm jk (by omega)) (by omega))
                          refine lv_iconst (v := 1) hx hb d_Mod_text_154 (by decide) ?_
                          refine lv_goto (tgt := 159) hx hb d_Mod_text_155 (by decide) ?_
                          refine lv_istore hx hb d_Mod_text_159 hl (by decide) rfl (fun ls hl => ?_)
                          have hl : lv_has ls 6 [(5, .int 1), (4, .int ((4 + (4 * (nI jk))) + (2 * ((nI jw) - 3)))), (0, .ref h0), (1, .int (nI jw)), (2, .int (nI jk)), (3, .int i9)] := hl
                          refine lv_iload hx hb d_Mod_text_161 (lv_at hl 0 rfl) ?_
                          refine lv_if_eq (tgt := 201) hx hb d_Mod_text_163 (by decide) (fun h163 => ?_) (fun h163 => ?_)
                          · first | exact absurd h163 (by decide) | exact absurd (by decide) h163
                          · refine lv_iload_n hx hb d_Mod_text_166 rfl (lv_at hl 5 rfl) ?_
                            refine lv_if_lt (tgt := 201) hx hb d_Mod_text_167 (by decide) (fun h167 => ?_) (fun h167 => ?_)
                            · refine lv_bipush (v := 32) hx hb d_Mod_text_201 (by decide) ?_
                              exact tw_zret E hS u3 (by decide) trivial hP hD d_Mod_text_203
                            · obtain ⟨ji, hji, hie⟩ := nI_of h167
                              subst hie
                              refine lv_iload_n hx hb d_Mod_text_170 rfl (lv_at hl 5 rfl) ?_
                              refine lv_aload_n hx hb d_Mod_text_171 rfl (lv_at hl 2 rfl) ?_
                              refine va_get (D := g.1) (ci := 10) (v := .ref (q 55)) (C := R_Mod) (T := F_Mod) (N := 61) hx hb hts in_Mod hown hK hP 0 rfl rfl 55 (by decide) (hts _ wd_1305) (fun _ h9 => h9) rfl d_Mod_text_172 ?_
                              refine lv_iload hx hb d_Mod_text_175 (lv_at hl 1 rfl) ?_
                              refine lv_iconst (v := 1) hx hb d_Mod_text_177 (by decide) ?_
                              refine lv_iadd hx hb d_Mod_text_178 ?_
                              refine tw_ri (e2 := nI ((4 + 4 * jk + 2 * (jw - 3)) + 1)) (by rw [show ((4 + (4 * (nI jk))) + (2 * ((nI jw) - 3))) = nI (4 + 4 * jk + 2 * (jw - 3)) from tx_3 (by omega)]; exact nI_add _ 1) ?_
                              refine va_iald hx hb hK hP 3 0 rfl rfl (vp_in_nI (by omega) (by decide)) d_Mod_text_179 ?_
                              refine tw_ri (e2 := nI lg) (by rw [nI_clamp (by omega)]; exact z2) ?_
                              refine lv_icmp_ge (tgt := 201) hx hb d_Mod_text_180 (by decide) (fun h180 => ?_) (fun h180 => ?_)
                              · refine lv_bipush (v := 32) hx hb d_Mod_text_201 (by decide) ?_
                                exact tw_zret E hS u3 (by decide) trivial hP hD d_Mod_text_203
                              · have h180 := tn_nle h180 (by omega) (by omega)
                                refine lv_aload_n hx hb d_Mod_text_183 rfl (lv_at hl 2 rfl) ?_
                                refine va_get (D := g.1) (ci := 10) (v := .ref (q 53)) (C := R_Mod) (T := F_Mod) (N := 61) hx hb hts in_Mod hown hK hP 0 rfl rfl 53 (by decide) (hts _ wd_1303) (fun _ h9 => h9) rfl d_Mod_text_184 ?_
                                refine lv_aload_n hx hb d_Mod_text_187 rfl (lv_at hl 2 rfl) ?_
                                refine va_get (D := g.1) (ci := 10) (v := .ref (q 55)) (C := R_Mod) (T := F_Mod) (N := 61) hx hb hts in_Mod hown hK hP 0 rfl rfl 55 (by decide) (hts _ wd_1305) (fun _ h9 => h9) rfl d_Mod_text_188 ?_
                                refine lv_iload hx hb d_Mod_text_191 (lv_at hl 1 rfl) ?_
                                refine va_iald hx hb hK hP 3 0 rfl rfl (by rw [show ((4 + (4 * (nI jk))) + (2 * ((nI jw) - 3))) = nI (4 + 4 * jk + 2 * (jw - 3)) from tx_3 (by omega)]; exact vp_in_nI (by omega) (by decide)) d_Mod_text_193 ?_
                                refine tw_ri (e2 := nI pg) (by rw [show ((4 + (4 * (nI jk))) + (2 * ((nI jw) - 3))) = nI (4 + 4 * jk + 2 * (jw - 3)) from tx_3 (by omega), nI_clamp (by omega)]; exact z1) ?_
                                refine lv_iload_n hx hb d_Mod_text_194 rfl (lv_at hl 5 rfl) ?_
                                refine lv_iadd hx hb d_Mod_text_195 ?_
                                refine tw_ri (e2 := nI (pg + ji)) (nI_add _ _) ?_
                                refine va_iald hx hb hK hP 1 0 rfl rfl (vp_in_nI (by omega) (by decide)) d_Mod_text_196 ?_
                                obtain ⟨x5, ex5⟩ : ∃ z : Int32, gb ((nI (pg + ji)).toNatClampNeg) = z := ⟨_, rfl⟩
                                refine tw_ri (e2 := x5) ex5 ?_
                                refine lv_i2c (v := (x5.toUInt32 % 65536).toInt32) hx hb d_Mod_text_197 rfl ?_
                                refine lv_goto (tgt := 203) hx hb d_Mod_text_198 (by decide) ?_
                                exact tw_zret E hS u3 (tn_char _) trivial hP hD d_Mod_text_203
                    · exact absurd h119 h55
            · have h55b := tn_eq (b := 2) h55 (by omega) (by decide)
              refine lv_sipush (v := 400) hx hb d_Mod_text_58 (by decide) ?_
              refine lv_iconst (v := 2) hx hb d_Mod_text_61 (by decide) ?_
              refine lv_iload_n hx hb d_Mod_text_62 rfl (lv_at hl 2 rfl) ?_
              refine lv_imul hx hb d_Mod_text_63 ?_
              refine tw_ri (e2 := 2 * k1) rfl ?_
              refine lv_iadd hx hb d_Mod_text_64 ?_
              refine tw_ri (e2 := 400 + (2 * k1)) rfl ?_
              refine lv_goto (tgt := 105) hx hb d_Mod_text_65 (by decide) ?_
              refine lv_istore hx hb d_Mod_text_105 hl (by decide) rfl (fun ls hl => ?_)
              have hl : lv_has ls 6 [(4, .int (400 + (2 * k1))), (0, .ref h0), (1, .int (nI jw)), (2, .int k1), (3, .int i9)] := hl
              refine lv_iload_n hx hb d_Mod_text_107 rfl (lv_at hl 2 rfl) ?_
              refine lv_iconst (v := 2) hx hb d_Mod_text_108 (by decide) ?_
              refine lv_icmp_lt (tgt := 154) hx hb d_Mod_text_109 (by decide) (fun h109 => ?_) (fun h109 => ?_)
              · exact absurd (tn_lt (b := 2) h109 (by omega) (by decide)) (by omega)
              · refine lv_iload_n hx hb d_Mod_text_112 rfl (lv_at hl 3 rfl) ?_
                refine lv_if_lt (tgt := 158) hx hb d_Mod_text_113 (by decide) (fun h113 => ?_) (fun h113 => ?_)
                · refine lv_iconst (v := 0) hx hb d_Mod_text_158 (by decide) ?_
                  refine lv_istore hx hb d_Mod_text_159 hl (by decide) rfl (fun ls hl => ?_)
                  have hl : lv_has ls 6 [(5, .int 0), (4, .int (400 + (2 * k1))), (0, .ref h0), (1, .int (nI jw)), (2, .int k1), (3, .int i9)] := hl
                  refine lv_iload hx hb d_Mod_text_161 (lv_at hl 0 rfl) ?_
                  refine lv_if_eq (tgt := 201) hx hb d_Mod_text_163 (by decide) (fun h163 => ?_) (fun h163 => ?_)
                  · refine lv_bipush (v := 32) hx hb d_Mod_text_201 (by decide) ?_
                    exact tw_zret E hS u3 (by decide) trivial hP hD d_Mod_text_203
                  · first | exact absurd h163 (by decide) | exact absurd (by decide) h163
                · obtain ⟨jk, hjk, hke⟩ := nI_of h113
                  subst hke
                  refine lv_iload_n hx hb d_Mod_text_116 rfl (lv_at hl 3 rfl) ?_
                  refine lv_iload_n hx hb d_Mod_text_117 rfl (lv_at hl 2 rfl) ?_
                  refine lv_iconst (v := 2) hx hb d_Mod_text_118 (by decide) ?_
                  refine lv_icmp_ne (tgt := 131) hx hb d_Mod_text_119 (by decide) (fun h119 => ?_) (fun h119 => ?_)
                  · exact absurd h55 h119
                  · refine lv_aload_n hx hb d_Mod_text_122 rfl (lv_at hl 1 rfl) ?_
                    refine va_get (D := g.1) (ci := 10) (v := .ref (q 54)) (C := R_Mod) (T := F_Mod) (N := 61) hx hb hts in_Mod hown hK hP 0 rfl rfl 54 (by decide) (hts _ wd_1304) (fun _ h9 => h9) rfl d_Mod_text_123 ?_
                    refine lv_iconst (v := 1) hx hb d_Mod_text_126 (by decide) ?_
                    refine va_iald hx hb hK hP 2 0 rfl rfl (vp_in_nI (n := 1) (by decide) (by decide)) d_Mod_text_127 ?_
                    refine tw_ri (e2 := nI c1) gT.1 ?_
                    refine lv_goto (tgt := 151) hx hb d_Mod_text_128 (by decide) ?_
                    refine lv_icmp_ge (tgt := 158) hx hb d_Mod_text_151 (by decide) (fun h151 => ?_) (fun h151 => ?_)
                    · refine lv_iconst (v := 0) hx hb d_Mod_text_158 (by decide) ?_
                      refine lv_istore hx hb d_Mod_text_159 hl (by decide) rfl (fun ls hl => ?_)
                      have hl : lv_has ls 6 [(5, .int 0), (4, .int (400 + (2 * (nI jk)))), (0, .ref h0), (1, .int (nI jw)), (2, .int (nI jk)), (3, .int i9)] := hl
                      refine lv_iload hx hb d_Mod_text_161 (lv_at hl 0 rfl) ?_
                      refine lv_if_eq (tgt := 201) hx hb d_Mod_text_163 (by decide) (fun h163 => ?_) (fun h163 => ?_)
                      · refine lv_bipush (v := 32) hx hb d_Mod_text_201 (by decide) ?_
                        exact tw_zret E hS u3 (by decide) trivial hP hD d_Mod_text_203
                      · first | exact absurd h163 (by decide) | exact absurd (by decide) h163
                    · have h151 := tn_nle h151 (by omega) (by omega)
                      obtain ⟨pg, lg, z1, z2, z3⟩ : TXG gt (400 + 2 * jk) := (gf jk h151)
                      refine lv_iconst (v := 1) hx hb d_Mod_text_154 (by decide) ?_
                      refine lv_goto (tgt := 159) hx hb d_Mod_text_155 (by decide) ?_
                      refine lv_istore hx hb d_Mod_text_159 hl (by decide) rfl (fun ls hl => ?_)
                      have hl : lv_has ls 6 [(5, .int 1), (4, .int (400 + (2 * (nI jk)))), (0, .ref h0), (1, .int (nI jw)), (2, .int (nI jk)), (3, .int i9)] := hl
                      refine lv_iload hx hb d_Mod_text_161 (lv_at hl 0 rfl) ?_
                      refine lv_if_eq (tgt := 201) hx hb d_Mod_text_163 (by decide) (fun h163 => ?_) (fun h163 => ?_)
                      · first | exact absurd h163 (by decide) | exact absurd (by decide) h163
                      · refine lv_iload_n hx hb d_Mod_text_166 rfl (lv_at hl 5 rfl) ?_
                        refine lv_if_lt (tgt := 201) hx hb d_Mod_text_167 (by decide) (fun h167 => ?_) (fun h167 => ?_)
                        · refine lv_bipush (v := 32) hx hb d_Mod_text_201 (by decide) ?_
                          exact tw_zret E hS u3 (by decide) trivial hP hD d_Mod_text_203
                        · obtain ⟨ji, hji, hie⟩ := nI_of h167
                          subst hie
                          refine lv_iload_n hx hb d_Mod_text_170 rfl (lv_at hl 5 rfl) ?_
                          refine lv_aload_n hx hb d_Mod_text_171 rfl (lv_at hl 2 rfl) ?_
                          refine va_get (D := g.1) (ci := 10) (v := .ref (q 55)) (C := R_Mod) (T := F_Mod) (N := 61) hx hb hts in_Mod hown hK hP 0 rfl rfl 55 (by decide) (hts _ wd_1305) (fun _ h9 => h9) rfl d_Mod_text_172 ?_
                          refine lv_iload hx hb d_Mod_text_175 (lv_at hl 1 rfl) ?_
                          refine lv_iconst (v := 1) hx hb d_Mod_text_177 (by decide) ?_
                          refine lv_iadd hx hb d_Mod_text_178 ?_
                          refine tw_ri (e2 := nI ((400 + 2 * jk) + 1)) (by rw [show (400 + (2 * (nI jk))) = nI (400 + 2 * jk) from tx_2 jk]; exact nI_add _ 1) ?_
                          refine va_iald hx hb hK hP 3 0 rfl rfl (vp_in_nI (by omega) (by decide)) d_Mod_text_179 ?_
                          refine tw_ri (e2 := nI lg) (by rw [nI_clamp (by omega)]; exact z2) ?_
                          refine lv_icmp_ge (tgt := 201) hx hb d_Mod_text_180 (by decide) (fun h180 => ?_) (fun h180 => ?_)
                          · refine lv_bipush (v := 32) hx hb d_Mod_text_201 (by decide) ?_
                            exact tw_zret E hS u3 (by decide) trivial hP hD d_Mod_text_203
                          · have h180 := tn_nle h180 (by omega) (by omega)
                            refine lv_aload_n hx hb d_Mod_text_183 rfl (lv_at hl 2 rfl) ?_
                            refine va_get (D := g.1) (ci := 10) (v := .ref (q 53)) (C := R_Mod) (T := F_Mod) (N := 61) hx hb hts in_Mod hown hK hP 0 rfl rfl 53 (by decide) (hts _ wd_1303) (fun _ h9 => h9) rfl d_Mod_text_184 ?_
                            refine lv_aload_n hx hb d_Mod_text_187 rfl (lv_at hl 2 rfl) ?_
                            refine va_get (D := g.1) (ci := 10) (v := .ref (q 55)) (C := R_Mod) (T := F_Mod) (N := 61) hx hb hts in_Mod hown hK hP 0 rfl rfl 55 (by decide) (hts _ wd_1305) (fun _ h9 => h9) rfl d_Mod_text_188 ?_
                            refine lv_iload hx hb d_Mod_text_191 (lv_at hl 1 rfl) ?_
                            refine va_iald hx hb hK hP 3 0 rfl rfl (by rw [show (400 + (2 * (nI jk))) = nI (400 + 2 * jk) from tx_2 jk]; exact vp_in_nI (by omega) (by decide)) d_Mod_text_193 ?_
                            refine tw_ri (e2 := nI pg) (by rw [show (400 + (2 * (nI jk))) = nI (400 + 2 * jk) from tx_2 jk, nI_clamp (by omega)]; exact z1) ?_
                            refine lv_iload_n hx hb d_Mod_text_194 rfl (lv_at hl 5 rfl) ?_
                            refine lv_iadd hx hb d_Mod_text_195 ?_
                            refine tw_ri (e2 := nI (pg + ji)) (nI_add _ _) ?_
                            refine va_iald hx hb hK hP 1 0 rfl rfl (vp_in_nI (by omega) (by decide)) d_Mod_text_196 ?_
                            obtain ⟨x6, ex6⟩ : ∃ z : Int32, gb ((nI (pg + ji)).toNatClampNeg) = z := ⟨_, rfl⟩
                            refine tw_ri (e2 := x6) ex6 ?_
                            refine lv_i2c (v := (x6.toUInt32 % 65536).toInt32) hx hb d_Mod_text_197 rfl ?_
                            refine lv_goto (tgt := 203) hx hb d_Mod_text_198 (by decide) ?_
                            exact tw_zret E hS u3 (tn_char _) trivial hP hD d_Mod_text_203
          · refine lv_iconst (v := 2) hx hb d_Mod_text_49 (by decide) ?_
            refine lv_goto (tgt := 105) hx hb d_Mod_text_50 (by decide) ?_
            refine lv_istore hx hb d_Mod_text_105 hl (by decide) rfl (fun ls hl => ?_)
            have hl : lv_has ls 6 [(4, .int 2), (0, .ref h0), (1, .int (nI jw)), (2, .int k1), (3, .int i9)] := hl
            refine lv_iload_n hx hb d_Mod_text_107 rfl (lv_at hl 2 rfl) ?_
            refine lv_iconst (v := 2) hx hb d_Mod_text_108 (by decide) ?_
            refine lv_icmp_lt (tgt := 154) hx hb d_Mod_text_109 (by decide) (fun h109 => ?_) (fun h109 => ?_)
            · obtain ⟨pg, lg, z1, z2, z3⟩ : TXG gt 2 := g2
              refine lv_iconst (v := 1) hx hb d_Mod_text_154 (by decide) ?_
              refine lv_goto (tgt := 159) hx hb d_Mod_text_155 (by decide) ?_
              refine lv_istore hx hb d_Mod_text_159 hl (by decide) rfl (fun ls hl => ?_)
              have hl : lv_has ls 6 [(5, .int 1), (4, .int 2), (0, .ref h0), (1, .int (nI jw)), (2, .int k1), (3, .int i9)] := hl
              refine lv_iload hx hb d_Mod_text_161 (lv_at hl 0 rfl) ?_
              refine lv_if_eq (tgt := 201) hx hb d_Mod_text_163 (by decide) (fun h163 => ?_) (fun h163 => ?_)
              · first | exact absurd h163 (by decide) | exact absurd (by decide) h163
              · refine lv_iload_n hx hb d_Mod_text_166 rfl (lv_at hl 5 rfl) ?_
                refine lv_if_lt (tgt := 201) hx hb d_Mod_text_167 (by decide) (fun h167 => ?_) (fun h167 => ?_)
                · refine lv_bipush (v := 32) hx hb d_Mod_text_201 (by decide) ?_
                  exact tw_zret E hS u3 (by decide) trivial hP hD d_Mod_text_203
                · obtain ⟨ji, hji, hie⟩ := nI_of h167
                  subst hie
                  refine lv_iload_n hx hb d_Mod_text_170 rfl (lv_at hl 5 rfl) ?_
                  refine lv_aload_n hx hb d_Mod_text_171 rfl (lv_at hl 2 rfl) ?_
                  refine va_get (D := g.1) (ci := 10) (v := .ref (q 55)) (C := R_Mod) (T := F_Mod) (N := 61) hx hb hts in_Mod hown hK hP 0 rfl rfl 55 (by decide) (hts _ wd_1305) (fun _ h9 => h9) rfl d_Mod_text_172 ?_
                  refine lv_iload hx hb d_Mod_text_175 (lv_at hl 1 rfl) ?_
                  refine lv_iconst (v := 1) hx hb d_Mod_text_177 (by decide) ?_
                  refine lv_iadd hx hb d_Mod_text_178 ?_
                  refine tw_ri (e2 := nI (2 + 1)) (by rw [show 2 = nI 2 from rfl]; exact nI_add _ 1) ?_
                  refine va_iald hx hb hK hP 3 0 rfl rfl (vp_in_nI (by omega) (by decide)) d_Mod_text_179 ?_
                  refine tw_ri (e2 := nI lg) (by rw [nI_clamp (by omega)]; exact z2) ?_
                  refine lv_icmp_ge (tgt := 201) hx hb d_Mod_text_180 (by decide) (fun h180 => ?_) (fun h180 => ?_)
                  · refine lv_bipush (v := 32) hx hb d_Mod_text_201 (by decide) ?_
                    exact tw_zret E hS u3 (by decide) trivial hP hD d_Mod_text_203
                  · have h180 := tn_nle h180 (by omega) (by omega)
                    refine lv_aload_n hx hb d_Mod_text_183 rfl (lv_at hl 2 rfl) ?_
                    refine va_get (D := g.1) (ci := 10) (v := .ref (q 53)) (C := R_Mod) (T := F_Mod) (N := 61) hx hb hts in_Mod hown hK hP 0 rfl rfl 53 (by decide) (hts _ wd_1303) (fun _ h9 => h9) rfl d_Mod_text_184 ?_
                    refine lv_aload_n hx hb d_Mod_text_187 rfl (lv_at hl 2 rfl) ?_
                    refine va_get (D := g.1) (ci := 10) (v := .ref (q 55)) (C := R_Mod) (T := F_Mod) (N := 61) hx hb hts in_Mod hown hK hP 0 rfl rfl 55 (by decide) (hts _ wd_1305) (fun _ h9 => h9) rfl d_Mod_text_188 ?_
                    refine lv_iload hx hb d_Mod_text_191 (lv_at hl 1 rfl) ?_
                    refine va_iald hx hb hK hP 3 0 rfl rfl (by rw [show 2 = nI 2 from rfl]; exact vp_in_nI (by omega) (by decide)) d_Mod_text_193 ?_
                    refine tw_ri (e2 := nI pg) (by rw [show 2 = nI 2 from rfl, nI_clamp (by omega)]; exact z1) ?_
                    refine lv_iload_n hx hb d_Mod_text_194 rfl (lv_at hl 5 rfl) ?_
                    refine lv_iadd hx hb d_Mod_text_195 ?_
                    refine tw_ri (e2 := nI (pg + ji)) (nI_add _ _) ?_
                    refine va_iald hx hb hK hP 1 0 rfl rfl (vp_in_nI (by omega) (by decide)) d_Mod_text_196 ?_
                    obtain ⟨x7, ex7⟩ : ∃ z : Int32, gb ((nI (pg + ji)).toNatClampNeg) = z := ⟨_, rfl⟩
                    refine tw_ri (e2 := x7) ex7 ?_
                    refine lv_i2c (v := (x7.toUInt32 % 65536).toInt32) hx hb d_Mod_text_197 rfl ?_
                    refine lv_goto (tgt := 203) hx hb d_Mod_text_198 (by decide) ?_
                    exact tw_zret E hS u3 (tn_char _) trivial hP hD d_Mod_text_203
            · exact absurd (by rw [h46]; decide) h109
        · refine lv_iconst (v := 0) hx hb d_Mod_text_40 (by decide) ?_
          refine lv_goto (tgt := 105) hx hb d_Mod_text_41 (by decide) ?_
          refine lv_istore hx hb d_Mod_text_105 hl (by decide) rfl (fun ls hl => ?_)
          have hl : lv_has ls 6 [(4, .int 0), (0, .ref h0), (1, .int (nI jw)), (2, .int k1), (3, .int i9)] := hl
          refine lv_iload_n hx hb d_Mod_text_107 rfl (lv_at hl 2 rfl) ?_
          refine lv_iconst (v := 2) hx hb d_Mod_text_108 (by decide) ?_
          refine lv_icmp_lt (tgt := 154) hx hb d_Mod_text_109 (by decide) (fun h109 => ?_) (fun h109 => ?_)
          · obtain ⟨pg, lg, z1, z2, z3⟩ : TXG gt 0 := g0
            refine lv_iconst (v := 1) hx hb d_Mod_text_154 (by decide) ?_
            refine lv_goto (tgt := 159) hx hb d_Mod_text_155 (by decide) ?_
            refine lv_istore hx hb d_Mod_text_159 hl (by decide) rfl (fun ls hl => ?_)
            have hl : lv_has ls 6 [(5, .int 1), (4, .int 0), (0, .ref h0), (1, .int (nI jw)), (2, .int k1), (3, .int i9)] := hl
            refine lv_iload hx hb d_Mod_text_161 (lv_at hl 0 rfl) ?_
            refine lv_if_eq (tgt := 201) hx hb d_Mod_text_163 (by decide) (fun h163 => ?_) (fun h163 => ?_)
            · first | exact absurd h163 (by decide) | exact absurd (by decide) h163
            · refine lv_iload_n hx hb d_Mod_text_166 rfl (lv_at hl 5 rfl) ?_
              refine lv_if_lt (tgt := 201) hx hb d_Mod_text_167 (by decide) (fun h167 => ?_) (fun h167 => ?_)
              · refine lv_bipush (v := 32) hx hb d_Mod_text_201 (by decide) ?_
                exact tw_zret E hS u3 (by decide) trivial hP hD d_Mod_text_203
              · obtain ⟨ji, hji, hie⟩ := nI_of h167
                subst hie
                refine lv_iload_n hx hb d_Mod_text_170 rfl (lv_at hl 5 rfl) ?_
                refine lv_aload_n hx hb d_Mod_text_171 rfl (lv_at hl 2 rfl) ?_
                refine va_get (D := g.1) (ci := 10) (v := .ref (q 55)) (C := R_Mod) (T := F_Mod) (N := 61) hx hb hts in_Mod hown hK hP 0 rfl rfl 55 (by decide) (hts _ wd_1305) (fun _ h9 => h9) rfl d_Mod_text_172 ?_
                refine lv_iload hx hb d_Mod_text_175 (lv_at hl 1 rfl) ?_
                refine lv_iconst (v := 1) hx hb d_Mod_text_177 (by decide) ?_
                refine lv_iadd hx hb d_Mod_text_178 ?_
                refine tw_ri (e2 := nI (0 + 1)) (by rw [show 0 = nI 0 from rfl]; exact nI_add _ 1) ?_
                refine va_iald hx hb hK hP 3 0 rfl rfl (vp_in_nI (by omega) (by decide)) d_Mod_text_179 ?_
                refine tw_ri (e2 := nI lg) (by rw [nI_clamp (by omega)]; exact z2) ?_
                refine lv_icmp_ge (tgt := 201) hx hb d_Mod_text_180 (by decide) (fun h180 => ?_) (fun h180 => ?_)
                · refine lv_bipush (v := 32) hx hb d_Mod_text_201 (by decide) ?_
                  exact tw_zret E hS u3 (by decide) trivial hP hD d_Mod_text_203
                · have h180 := tn_nle h180 (by omega) (by omega)
                  refine lv_aload_n hx hb d_Mod_text_183 rfl (lv_at hl 2 rfl) ?_
                  refine va_get (D := g.1) (ci := 10) (v := .ref (q 53)) (C := R_Mod) (T := F_Mod) (N := 61) hx hb hts in_Mod hown hK hP 0 rfl rfl 53 (by decide) (hts _ wd_1303) (fun _ h9 => h9) rfl d_Mod_text_184 ?_
                  refine lv_aload_n hx hb d_Mod_text_187 rfl (lv_at hl 2 rfl) ?_
                  refine va_get (D := g.1) (ci := 10) (v := .ref (q 55)) (C := R_Mod) (T := F_Mod) (N := 61) hx hb hts in_Mod hown hK hP 0 rfl rfl 55 (by decide) (hts _ wd_1305) (fun _ h9 => h9) rfl d_Mod_text_188 ?_
                  refine lv_iload hx hb d_Mod_text_191 (lv_at hl 1 rfl) ?_
                  refine va_iald hx hb hK hP 3 0 rfl rfl (by rw [show 0 = nI 0 from rfl]; exact vp_in_nI (by omega) (by decide)) d_Mod_text_193 ?_
                  refine tw_ri (e2 := nI pg) (by rw [show 0 = nI 0 from rfl, nI_clamp (by omega)]; exact z1) ?_
                  refine lv_iload_n hx hb d_Mod_text_194 rfl (lv_at hl 5 rfl) ?_
                  refine lv_iadd hx hb d_Mod_text_195 ?_
                  refine tw_ri (e2 := nI (pg + ji)) (nI_add _ _) ?_
                  refine va_iald hx hb hK hP 1 0 rfl rfl (vp_in_nI (by omega) (by decide)) d_Mod_text_196 ?_
                  obtain ⟨x8, ex8⟩ : ∃ z : Int32, gb ((nI (pg + ji)).toNatClampNeg) = z := ⟨_, rfl⟩
                  refine tw_ri (e2 := x8) ex8 ?_
                  refine lv_i2c (v := (x8.toUInt32 % 65536).toInt32) hx hb d_Mod_text_197 rfl ?_
                  refine lv_goto (tgt := 203) hx hb d_Mod_text_198 (by decide) ?_
                  exact tw_zret E hS u3 (tn_char _) trivial hP hD d_Mod_text_203
          · exact absurd (by rw [h37]; decide) h109
      · first | exact absurd h30 (by decide) | exact absurd (by decide) h30
    · refine lv_iconst (v := 2) hx hb d_Mod_text_22 (by decide) ?_
      refine lv_goto (tgt := 27) hx hb d_Mod_text_23 (by decide) ?_
      refine tw_wi (wr := [((q 53), aI g 600 gb), ((q 54), aI g 8 to), ((q 55), aI g 1100 gt), ((q 56), aI g 160 gbg), ((q 57), aI g 160 gl), ((q 58), aI g 160 glo), ((q 59), aI g 600 gd)]) (tw_runV (ws := [(h0, .inr (10, mob q rf n mm mb fa fp av ev wi mn tp tc sc nf fd me mp xn mt wh tq ag an ig)), ((q 53), aI g 600 gb), ((q 54), aI g 8 to), ((q 55), aI g 1100 gt), ((q 56), aI g 160 gbg), ((q 57), aI g 160 gl), ((q 58), aI g 160 glo), ((q 59), aI g 600 gd)]) (wc := [(h0, .inr (10, mob q rf n mm mb fa fp av ev wi mn tp tc sc nf fd me mp xn mt wh tq ag an ig))]) (As := [.int 2]) (rest := []) E hB hK hZ (g_Mod_refused l g H.size h0 q n mm mb fa fp av ev wi mn tp tc sc nf fd me mp xn mt wh tq ag an ig rf 2) mc_Mod_refused mi_Mod_refused me_Mod_refused wd_1446 hP hD hS hA [0] rfl (by decide) 0 rfl rfl rfl rfl rfl (by decide) rfl hl.1 rfl (Nat.le_of_ble_eq_true rfl) (by decide) d_Mod_text_27) hP hD hS hA [0] [1, 2, 3, 4, 5, 6, 7] rfl rfl (by decide) (by decide) (fun r9 u10 H locs hr9 hP hD hS => ?_)
      try dsimp only at hr9
      have hP : va_P g.1 classes [((q 53), aI g 600 gb), ((q 54), aI g 8 to), ((q 55), aI g 1100 gt), ((q 56), aI g 160 gbg), ((q 57), aI g 160 gl), ((q 58), aI g 160 glo), ((q 59), aI g 600 gd), (h0, .inr (10, mob q u10 n mm mb fa fp av ev wi mn tp tc sc nf fd me mp xn mt wh tq ag an ig))] H := hP
      have hD : va_D A [((q 53), aI g 600 gb), ((q 54), aI g 8 to), ((q 55), aI g 1100 gt), ((q 56), aI g 160 gbg), ((q 57), aI g 160 gl), ((q 58), aI g 160 glo), ((q 59), aI g 600 gd), (h0, .inr (10, mob q u10 n mm mb fa fp av ev wi mn tp tc sc nf fd me mp xn mt wh tq ag an ig))] := hD
      have hP : va_P g.1 classes [(h0, .inr (10, mob q u10 n mm mb fa fp av ev wi mn tp tc sc nf fd me mp xn mt wh tq ag an ig)), ((q 53), aI g 600 gb), ((q 54), aI g 8 to), ((q 55), aI g 1100 gt), ((q 56), aI g 160 gbg), ((q 57), aI g 160 gl), ((q 58), aI g 160 glo), ((q 59), aI g 600 gd)] H := hP.sub [7, 0, 1, 2, 3, 4, 5, 6] rfl
      have hD : va_D A [(h0, .inr (10, mob q u10 n mm mb fa fp av ev wi mn tp tc sc nf fd me mp xn mt wh tq ag an ig)), ((q 53), aI g 600 gb), ((q 54), aI g 8 to), ((q 55), aI g 1100 gt), ((q 56), aI g 160 gbg), ((q 57), aI g 160 gl), ((q 58), aI g 160 glo), ((q 59), aI g 600 gd)] := hD.sub [7, 0, 1, 2, 3, 4, 5, 6] (by decide) rfl
      obtain ⟨hB10, hp10_0⟩ := hr9
      have hrr27 : r9 = 1 := hB10.2.trans (by decide)
      subst hrr27
      refine lv_if_eq (tgt := 36) hx hb d_Mod_text_30 (by decide) (fun h30 => ?_) (fun h30 => ?_)
      · first | exact absurd h30 (by decide) | exact absurd (by decide) h30
      · refine lv_bipush (v := 32) hx hb d_Mod_text_33 (by decide) ?_
        exact tw_zret E hS u10 (by decide) trivial hP hD d_Mod_text_35
  · refine lv_iconst (v := 1) hx hb d_Mod_text_8 (by decide) ?_
    refine lv_goto (tgt := 27) hx hb d_Mod_text_9 (by decide) ?_
    refine tw_wi (wr := [((q 53), aI g 600 gb), ((q 54), aI g 8 to), ((q 55), aI g 1100 gt), ((q 56), aI g 160 gbg), ((q 57), aI g 160 gl), ((q 58), aI g 160 glo), ((q 59), aI g 600 gd)]) (tw_runV (ws := [(h0, .inr (10, mob q rf n mm mb fa fp av ev wi mn tp tc sc nf fd me mp xn mt wh tq ag an ig)), ((q 53), aI g 600 gb), ((q 54), aI g 8 to), ((q 55), aI g 1100 gt), ((q 56), aI g 160 gbg), ((q 57), aI g 160 gl), ((q 58), aI g 160 glo), ((q 59), aI g 600 gd)]) (wc := [(h0, .inr (10, mob q rf n mm mb fa fp av ev wi mn tp tc sc nf fd me mp xn mt wh tq ag an ig))]) (As := [.int 1]) (rest := []) E hB hK hZ (g_Mod_refused l g H.size h0 q n mm mb fa fp av ev wi mn tp tc sc nf fd me mp xn mt wh tq ag an ig rf 1) mc_Mod_refused mi_Mod_refused me_Mod_refused wd_1446 hP hD hS hA [0] rfl (by decide) 0 rfl rfl rfl rfl rfl (by decide) rfl hl.1 rfl (Nat.le_of_ble_eq_true rfl) (by decide) d_Mod_text_27) hP hD hS hA [0] [1, 2, 3, 4, 5, 6, 7] rfl rfl (by decide) (by decide) (fun r11 u12 H locs hr11 hP hD hS => ?_)
    try dsimp only at hr11
    have hP : va_P g.1 classes [((q 53), aI g 600 gb), ((q 54), aI g 8 to), ((q 55), aI g 1100 gt), ((q 56), aI g 160 gbg), ((q 57), aI g 160 gl), ((q 58), aI g 160 glo), ((q 59), aI g 600 gd), (h0, .inr (10, mob q u12 n mm mb fa fp av ev wi mn tp tc sc nf fd me mp xn mt wh tq ag an ig))] H := hP
    have hD : va_D A [((q 53), aI g 600 gb), ((q 54), aI g 8 to), ((q 55), aI g 1100 gt), ((q 56), aI g 160 gbg), ((q 57), aI g 160 gl), ((q 58), aI g 160 glo), ((q 59), aI g 600 gd), (h0, .inr (10, mob q u12 n mm mb fa fp av ev wi mn tp tc sc nf fd me mp xn mt wh tq ag an ig))] := hD
    have hP : va_P g.1 classes [(h0, .inr (10, mob q u12 n mm mb fa fp av ev wi mn tp tc sc nf fd me mp xn mt wh tq ag an ig)), ((q 53), aI g 600 gb), ((q 54), aI g 8 to), ((q 55), aI g 1100 gt), ((q 56), aI g 160 gbg), ((q 57), aI g 160 gl), ((q 58), aI g 160 glo), ((q 59), aI g 600 gd)] H := hP.sub [7, 0, 1, 2, 3, 4, 5, 6] rfl
    have hD : va_D A [(h0, .inr (10, mob q u12 n mm mb fa fp av ev wi mn tp tc sc nf fd me mp xn mt wh tq ag an ig)), ((q 53), aI g 600 gb), ((q 54), aI g 8 to), ((q 55), aI g 1100 gt), ((q 56), aI g 160 gbg), ((q 57), aI g 160 gl), ((q 58), aI g 160 glo), ((q 59), aI g 600 gd)] := hD.sub [7, 0, 1, 2, 3, 4, 5, 6] (by decide) rfl
    obtain ⟨hB12, hp12_0⟩ := hr11
    have hrr27 : r11 = 1 := hB12.2.trans (by decide)
    subst hrr27
    refine lv_if_eq (tgt := 36) hx hb d_Mod_text_30 (by decide) (fun h30 => ?_) (fun h30 => ?_)
    · first | exact absurd h30 (by decide) | exact absurd (by decide) h30
    · refine lv_bipush (v := 32) hx hb d_Mod_text_33 (by decide) ?_
      exact tw_zret E hS u12 (by decide) trivial hP hD d_Mod_text_35
set_option maxHeartbeats 4000000 in
set_option maxRecDepth 100000 in
theorem g_Mod_frameAt (l : Launch) (g : tw_G) (sz : Nat) (h0 : Nat) (q : Nat → Nat) (rf : Int32) (n : Nat) (mm : Int32) (mb : Int32) (fa : Int32) (fp : Int32) (av : Nat) (ev : Nat) (wi : Int32) (mn : Nat) (tp : Int32) (tc : Int32) (sc : Int32) (nf : Nat) (fd : Nat) (me : Nat) (mp : Int32) (xn : Nat) (mt : Nat) (wh : Nat) (tq : Nat) (ag : Nat) (an : Int32) (ig : Int32) (to : Nat → Int32) (gbg : Nat → Int32) (gl : Nat → Int32) (glo : Nat → Int32) (gd : Nat → Int32) (m1 : Int32) (y1 : Int32) (c1 c2 c3 : Nat) (hT : T3 to c1 c2 c3) (hgm : ∀ j, j < c3 → GME gbg gl glo j) (hc3 : c3 ≤ 75) (hgd : GDD gd) : Met l y_Mod_frameAt [.code y_Mod_frameAt b_Mod_frameAt 4 (some .int)] ({ frames := 0, cells := 0, slots := 0, locals := 0 }) (tw_P g [.ref h0, .int m1, .int y1] [(h0, .inr (10, mob q rf n mm mb fa fp av ev wi mn tp tc sc nf fd me mp xn mt wh tq ag an ig)), ((q 54), aI g 8 to), ((q 56), aI g 160 gbg), ((q 57), aI g 160 gl), ((q 58), aI g 160 glo), ((q 59), aI g 600 gd)] sz) (vp_Si (fun (r : Int32) => r = -1 ∨ ∃ jm p o, m1 = nI jm ∧ jm < c3 ∧ r = nI p ∧ p < 600 ∧ glo jm = nI o ∧ o ≤ 64 ∧ ∃ d, d ≤ 64 ∧ gd p = nI d)) 0 0 (fun _ => False) := by
  refine tw_met (l := l) (g := g) (y := y_Mod_frameAt) (cc := b_Mod_frameAt) (maxL := 4) (ret := (some .int)) (rm := { frames := 0, cells := 0, slots := 0, locals := 0 }) (mc := 0) (ms := 0) (av := [.ref h0, .int m1, .int y1]) (ws := [(h0, .inr (10, mob q rf n mm mb fa fp av ev wi mn tp tc sc nf fd me mp xn mt wh tq ag an ig)), ((q 54), aI g 8 to), ((q 56), aI g 160 gbg), ((q 57), aI g 160 gl), ((q 58), aI g 160 glo), ((q 59), aI g 600 gd)]) (sz := sz) (Qc := fun _ => (vp_Si (fun (r : Int32) => r = -1 ∨ ∃ jm p o, m1 = nI jm ∧ jm < c3 ∧ r = nI p ∧ p < 600 ∧ glo jm = nI o ∧ o ≤ 64 ∧ ∃ d, d ≤ 64 ∧ gd p = nI d))) (free := fun _ _ => False) (by decide) (Nat.le_of_ble_eq_true rfl) ?_
  intro p e s m below meth c ls A E hB hK hZ hP hD hS hA hl
  obtain ⟨hx, hb, hml, hr, hown, hts, hlocks, hin⟩ := id E
  have hl : lv_has ls 4 [(0, .ref h0), (1, .int m1), (2, .int y1)] := hl
  refine lv_iload_n hx hb d_Mod_frameAt_0 rfl (lv_at hl 1 rfl) ?_
  refine lv_if_lt (tgt := 32) hx hb d_Mod_frameAt_1 (by decide) (fun h1 => ?_) (fun h1 => ?_)
  · refine lv_iconst (v := 0) hx hb d_Mod_frameAt_32 (by decide) ?_
    refine lv_istore_n hx hb d_Mod_frameAt_33 rfl hl (by decide) rfl (fun ls hl => ?_)
    have hl : lv_has ls 4 [(3, .int 0), (0, .ref h0), (1, .int m1), (2, .int y1)] := hl
    refine lv_iload_n hx hb d_Mod_frameAt_34 rfl (lv_at hl 0 rfl) ?_
    refine lv_if_eq (tgt := 65) hx hb d_Mod_frameAt_35 (by decide) (fun h35 => ?_) (fun h35 => ?_)
    · refine lv_iconst (v := (-1)) hx hb d_Mod_frameAt_65 (by decide) ?_
      exact tw_isret E (Or.inl rfl) d_Mod_frameAt_66
    · first | exact absurd h35 (by decide) | exact absurd (by decide) h35
  · obtain ⟨jm, hjm, hme⟩ := nI_of h1
    subst hme
    refine lv_iload_n hx hb d_Mod_frameAt_4 rfl (lv_at hl 1 rfl) ?_
    refine lv_aload_n hx hb d_Mod_frameAt_5 rfl (lv_at hl 0 rfl) ?_
    refine va_get (D := g.1) (ci := 10) (v := .ref (q 54)) (C := R_Mod) (T := F_Mod) (N := 61) hx hb hts in_Mod hown hK hP 0 rfl rfl 54 (by decide) (hts _ wd_1304) (fun _ h9 => h9) rfl d_Mod_frameAt_6 ?_
    refine lv_iconst (v := 3) hx hb d_Mod_frameAt_9 (by decide) ?_
    refine va_iald hx hb hK hP 1 0 rfl rfl (vp_in_nI (n := 3) (by decide) (by decide)) d_Mod_frameAt_10 ?_
    refine tw_ri (e2 := nI c3) hT.2.2 ?_
    refine lv_icmp_ge (tgt := 32) hx hb d_Mod_frameAt_11 (by decide) (fun h11 => ?_) (fun h11 => ?_)
    · refine lv_iconst (v := 0) hx hb d_Mod_frameAt_32 (by decide) ?_
      refine lv_istore_n hx hb d_Mod_frameAt_33 rfl hl (by decide) rfl (fun ls hl => ?_)
      have hl : lv_has ls 4 [(3, .int 0), (0, .ref h0), (1, .int (nI jm)), (2, .int y1)] := hl
      refine lv_iload_n hx hb d_Mod_frameAt_34 rfl (lv_at hl 0 rfl) ?_
      refine lv_if_eq (tgt := 65) hx hb d_Mod_frameAt_35 (by decide) (fun h35 => ?_) (fun h35 => ?_)
      · refine lv_iconst (v := (-1)) hx hb d_Mod_frameAt_65 (by decide) ?_
        exact tw_isret E (Or.inl rfl) d_Mod_frameAt_66
      · first | exact absurd h35 (by decide) | exact absurd (by decide) h35
    · have h11 := tn_nle h11 (by omega) (by omega)
      refine lv_iload_n hx hb d_Mod_frameAt_14 rfl (lv_at hl 2 rfl) ?_
      refine lv_if_lt (tgt := 32) hx hb d_Mod_frameAt_15 (by decide) (fun h15 => ?_) (fun h15 => ?_)
      · refine lv_iconst (v := 0) hx hb d_Mod_frameAt_32 (by decide) ?_
        refine lv_istore_n hx hb d_Mod_frameAt_33 rfl hl (by decide) rfl (fun ls hl => ?_)
        have hl : lv_has ls 4 [(3, .int 0), (0, .ref h0), (1, .int (nI jm)), (2, .int y1)] := hl
        refine lv_iload_n hx hb d_Mod_frameAt_34 rfl (lv_at hl 0 rfl) ?_
        refine lv_if_eq (tgt := 65) hx hb d_Mod_frameAt_35 (by decide) (fun h35 => ?_) (fun h35 => ?_)
        · refine lv_iconst (v := (-1)) hx hb d_Mod_frameAt_65 (by decide) ?_
          exact tw_isret E (Or.inl rfl) d_Mod_frameAt_66
        · first | exact absurd h35 (by decide) | exact absurd (by decide) h35
      · obtain ⟨jb, hjb, hbe⟩ := nI_of h15
        subst hbe
        refine lv_iload_n hx hb d_Mod_frameAt_18 rfl (lv_at hl 2 rfl) ?_
        refine lv_aload_n hx hb d_Mod_frameAt_19 rfl (lv_at hl 0 rfl) ?_
        refine va_get (D := g.1) (ci := 10) (v := .ref (q 57)) (C := R_Mod) (T := F_Mod) (N := 61) hx hb hts in_Mod hown hK hP 0 rfl rfl 57 (by decide) (hts _ wd_1307) (fun _ h9 => h9) rfl d_Mod_frameAt_20 ?_
        refine lv_iload_n hx hb d_Mod_frameAt_23 rfl (lv_at hl 1 rfl) ?_
        refine va_iald hx hb hK hP 3 0 rfl rfl (vp_in_nI (by omega) (by decide)) d_Mod_frameAt_24 ?_
        refine tw_ri (e2 := gl jm) (by rw [nI_clamp (by omega)]) ?_
        refine lv_icmp_ge (tgt := 32) hx hb d_Mod_frameAt_25 (by decide) (fun h25 => ?_) (fun h25 => ?_)
        · refine lv_iconst (v := 0) hx hb d_Mod_frameAt_32 (by decide) ?_
          refine lv_istore_n hx hb d_Mod_frameAt_33 rfl hl (by decide) rfl (fun ls hl => ?_)
          have hl : lv_has ls 4 [(3, .int 0), (0, .ref h0), (1, .int (nI jm)), (2, .int (nI jb))] := hl
          refine lv_iload_n hx hb d_Mod_frameAt_34 rfl (lv_at hl 0 rfl) ?_
          refine lv_if_eq (tgt := 65) hx hb d_Mod_frameAt_35 (by decide) (fun h35 => ?_) (fun h35 => ?_)
          · refine lv_iconst (v := (-1)) hx hb d_Mod_frameAt_65 (by decide) ?_
            exact tw_isret E (Or.inl rfl) d_Mod_frameAt_66
          · first | exact absurd h35 (by decide) | exact absurd (by decide) h35
        · obtain ⟨b9, l9, o9, e1, e2, e3, e4, e5, e6⟩ := gme_ne (hgm jm h11) h25 hjb
          refine lv_iconst (v := 1) hx hb d_Mod_frameAt_28 (by decide) ?_
          refine lv_goto (tgt := 33) hx hb d_Mod_frameAt_29 (by decide) ?_
          refine lv_istore_n hx hb d_Mod_frameAt_33 rfl hl (by decide) rfl (fun ls hl => ?_)
          have hl : lv_has ls 4 [(3, .int 1), (0, .ref h0), (1, .int (nI jm)), (2, .int (nI jb))] := hl
          refine lv_iload_n hx hb d_Mod_frameAt_34 rfl (lv_at hl 0 rfl) ?_
          refine lv_if_eq (tgt := 65) hx hb d_Mod_frameAt_35 (by decide) (fun h35 => ?_) (fun h35 => ?_)
          · first | exact absurd h35 (by decide) | exact absurd (by decide) h35
          · refine lv_aload_n hx hb d_Mod_frameAt_38 rfl (lv_at hl 1 rfl) ?_
            refine va_get (D := g.1) (ci := 10) (v := .ref (q 59)) (C := R_Mod) (T := F_Mod) (N := 61) hx hb hts in_Mod hown hK hP 0 rfl rfl 59 (by decide) (hts _ wd_1309) (fun _ h9 => h9) rfl d_Mod_frameAt_39 ?_
            refine lv_aload_n hx hb d_Mod_frameAt_42 rfl (lv_at hl 1 rfl) ?_
            refine va_get (D := g.1) (ci := 10) (v := .ref (q 56)) (C := R_Mod) (T := F_Mod) (N := 61) hx hb hts in_Mod hown hK hP 0 rfl rfl 56 (by decide) (hts _ wd_1306) (fun _ h9 => h9) rfl d_Mod_frameAt_43 ?_
            refine lv_iload_n hx hb d_Mod_frameAt_46 rfl (lv_at hl 2 rfl) ?_
            refine va_iald hx hb hK hP 2 0 rfl rfl (vp_in_nI (by omega) (by decide)) d_Mod_frameAt_47 ?_
            refine tw_ri (e2 := nI b9) (by rw [nI_clamp (by omega)]; exact e1) ?_
            refine lv_iload_n hx hb d_Mod_frameAt_48 rfl (lv_at hl 3 rfl) ?_
            refine lv_iadd hx hb d_Mod_frameAt_49 ?_
            refine tw_ri (e2 := nI (b9 + jb)) (nI_add _ _) ?_
            refine va_iald hx hb hK hP 5 0 rfl rfl (vp_in_nI (by omega) (by decide)) d_Mod_frameAt_50 ?_
            refine tw_ri (e2 := gd (b9 + jb)) (by rw [nI_clamp (by omega)]) ?_
            refine lv_if_lt (tgt := 65) hx hb d_Mod_frameAt_51 (by decide) (fun h51 => ?_) (fun h51 => ?_)
            · refine lv_iconst (v := (-1)) hx hb d_Mod_frameAt_65 (by decide) ?_
              exact tw_isret E (Or.inl rfl) d_Mod_frameAt_66
            · refine lv_aload_n hx hb d_Mod_frameAt_54 rfl (lv_at hl 1 rfl) ?_
              refine va_get (D := g.1) (ci := 10) (v := .ref (q 56)) (C := R_Mod) (T := F_Mod) (N := 61) hx hb hts in_Mod hown hK hP 0 rfl rfl 56 (by decide) (hts _ wd_1306) (fun _ h9 => h9) rfl d_Mod_frameAt_55 ?_
              refine lv_iload_n hx hb d_Mod_frameAt_58 rfl (lv_at hl 2 rfl) ?_
              refine va_iald hx hb hK hP 2 0 rfl rfl (vp_in_nI (by omega) (by decide)) d_Mod_frameAt_59 ?_
              refine tw_ri (e2 := nI b9) (by rw [nI_clamp (by omega)]; exact e1) ?_
              refine lv_iload_n hx hb d_Mod_frameAt_60 rfl (lv_at hl 3 rfl) ?_
              refine lv_iadd hx hb d_Mod_frameAt_61 ?_
              refine tw_ri (e2 := nI (b9 + jb)) (nI_add _ _) ?_
              refine lv_goto (tgt := 66) hx hb d_Mod_frameAt_62 (by decide) ?_
              exact tw_isret E (Or.inr ⟨jm, b9 + jb, o9, rfl, h11, rfl, by omega, e4, e5, gdd_ge hgd (by omega) h51⟩) d_Mod_frameAt_66
set_option maxHeartbeats 4000000 in
set_option maxRecDepth 100000 in
theorem g_Mod_depth (l : Launch) (g : tw_G) (sz : Nat) (h0 : Nat) (q : Nat → Nat) (n : Nat) (mm : Int32) (mb : Int32) (fa : Int32) (fp : Int32) (av : Nat) (ev : Nat) (wi : Int32) (mn : Nat) (tp : Int32) (tc : Int32) (sc : Int32) (nf : Nat) (fd : Nat) (me : Nat) (mp : Int32) (xn : Nat) (mt : Nat) (wh : Nat) (tq : Nat) (ag : Nat) (an : Int32) (ig : Int32) (to : Nat → Int32) (gt : Nat → Int32) (gbg : Nat → Int32) (gl : Nat → Int32) (glo : Nat → Int32) (gd : Nat → Int32) (rf : Int32) (m1 : Int32) (y1 : Int32) (hGZ : ig = 0 ∨ GOK to gt gbg gl glo gd) : Met l y_Mod_depth [.code y_Mod_depth b_Mod_depth 4 (some .int)] ({ frames := 1, cells := 0, slots := 0, locals := 23 }) (tw_P g [.ref h0, .int m1, .int y1] [(h0, .inr (10, mob q rf n mm mb fa fp av ev wi mn tp tc sc nf fd me mp xn mt wh tq ag an ig)), ((q 54), aI g 8 to), ((q 55), aI g 1100 gt), ((q 56), aI g 160 gbg), ((q 57), aI g 160 gl), ((q 58), aI g 160 glo), ((q 59), aI g 600 gd)] sz) (tw_Qi g (fun (r : Int32) (u : Int32) => True) (fun u : Int32 => [(h0, .inr (10, mob q u n mm mb fa fp av ev wi mn tp tc sc nf fd me mp xn mt wh tq ag an ig)), ((q 54), aI g 8 to), ((q 55), aI g 1100 gt), ((q 56), aI g 160 gbg), ((q 57), aI g 160 gl), ((q 58), aI g 160 glo), ((q 59), aI g 600 gd)]) (va_A [(h0, .inr (10, mob q rf n mm mb fa fp av ev wi mn tp tc sc nf fd me mp xn mt wh tq ag an ig)), ((q 54), aI g 8 to), ((q 55), aI g 1100 gt), ((q 56), aI g 160 gbg), ((q 57), aI g 160 gl), ((q 58), aI g 160 glo), ((q 59), aI g 600 gd)] sz)) 0 0 (va_A [(h0, .inr (10, mob q rf n mm mb fa fp av ev wi mn tp tc sc nf fd me mp xn mt wh tq ag an ig)), ((q 54), aI g 8 to), ((q 55), aI g 1100 gt), ((q 56), aI g 160 gbg), ((q 57), aI g 160 gl), ((q 58), aI g 160 glo), ((q 59), aI g 600 gd)] sz) := by
  refine tw_metW (l := l) (g := g) (y := y_Mod_depth) (cc := b_Mod_depth) (maxL := 4) (ret := (some .int)) (rm := { frames := 1, cells := 0, slots := 0, locals := 23 }) (mc := 0) (ms := 0) (av := [.ref h0, .int m1, .int y1]) (ws := [(h0, .inr (10, mob q rf n mm mb fa fp av ev wi mn tp tc sc nf fd me mp xn mt wh tq ag an ig)), ((q 54), aI g 8 to), ((q 55), aI g 1100 gt), ((q 56), aI g 160 gbg), ((q 57), aI g 160 gl), ((q 58), aI g 160 glo), ((q 59), aI g 600 gd)]) (sz := sz) (Qc := fun A => (tw_Qi g (fun (r : Int32) (u : Int32) => True) (fun u : Int32 => [(h0, .inr (10, mob q u n mm mb fa fp av ev wi mn tp tc sc nf fd me mp xn mt wh tq ag an ig)), ((q 54), aI g 8 to), ((q 55), aI g 1100 gt), ((q 56), aI g 160 gbg), ((q 57), aI g 160 gl), ((q 58), aI g 160 glo), ((q 59), aI g 600 gd)]) A)) (by decide) (Nat.le_of_ble_eq_true rfl) ?_
  intro p e s m below meth c ls H A E hB hK hZ hP hD hS hA hl
  obtain ⟨hx, hb, hml, hr, hown, hts, hlocks, hin⟩ := id E
  have hl : lv_has ls 4 [(0, .ref h0), (1, .int m1), (2, .int y1)] := hl
  refine lv_aload_n hx hb d_Mod_depth_0 rfl (lv_at hl 0 rfl) ?_
  refine lv_aload_n hx hb d_Mod_depth_1 rfl (lv_at hl 0 rfl) ?_
  refine va_get (D := g.1) (ci := 10) (v := .int ig) (C := R_Mod) (T := F_Mod) (N := 61) hx hb hts in_Mod hown hK hP 0 rfl rfl 52 (by decide) (hts _ wd_1302) (fun _ h9 => h9) rfl d_Mod_depth_2 ?_
  refine lv_if_eq (tgt := 12) hx hb d_Mod_depth_5 (by decide) (fun h5 => ?_) (fun h5 => ?_)
  · refine lv_iconst (v := 1) hx hb d_Mod_depth_12 (by decide) ?_
    refine tw_wi (wr := [((q 54), aI g 8 to), ((q 55), aI g 1100 gt), ((q 56), aI g 160 gbg), ((q 57), aI g 160 gl), ((q 58), aI g 160 glo), ((q 59), aI g 600 gd)]) (tw_runV (ws := [(h0, .inr (10, mob q rf n mm mb fa fp av ev wi mn tp tc sc nf fd me mp xn mt wh tq ag an ig)), ((q 54), aI g 8 to), ((q 55), aI g 1100 gt), ((q 56), aI g 160 gbg), ((q 57), aI g 160 gl), ((q 58), aI g 160 glo), ((q 59), aI g 600 gd)]) (wc := [(h0, .inr (10, mob q rf n mm mb fa fp av ev wi mn tp tc sc nf fd me mp xn mt wh tq ag an ig))]) (As := [.int 1]) (rest := []) E hB hK hZ (g_Mod_refused l g H.size h0 q n mm mb fa fp av ev wi mn tp tc sc nf fd me mp xn mt wh tq ag an ig rf 1) mc_Mod_refused mi_Mod_refused me_Mod_refused wd_1446 hP hD hS hA [0] rfl (by decide) 0 rfl rfl rfl rfl rfl (by decide) rfl hl.1 rfl (Nat.le_of_ble_eq_true rfl) (by decide) d_Mod_depth_13) hP hD hS hA [0] [1, 2, 3, 4, 5, 6] rfl rfl (by decide) (by decide) (fun r1 u2 H locs hr1 hP hD hS => ?_)
    try dsimp only at hr1
    have hP : va_P g.1 classes [((q 54), aI g 8 to), ((q 55), aI g 1100 gt), ((q 56), aI g 160 gbg), ((q 57), aI g 160 gl), ((q 58), aI g 160 glo), ((q 59), aI g 600 gd), (h0, .inr (10, mob q u2 n mm mb fa fp av ev wi mn tp tc sc nf fd me mp xn mt wh tq ag an ig))] H := hP
    have hD : va_D A [((q 54), aI g 8 to), ((q 55), aI g 1100 gt), ((q 56), aI g 160 gbg), ((q 57), aI g 160 gl), ((q 58), aI g 160 glo), ((q 59), aI g 600 gd), (h0, .inr (10, mob q u2 n mm mb fa fp av ev wi mn tp tc sc nf fd me mp xn mt wh tq ag an ig))] := hD
    have hP : va_P g.1 classes [(h0, .inr (10, mob q u2 n mm mb fa fp av ev wi mn tp tc sc nf fd me mp xn mt wh tq ag an ig)), ((q 54), aI g 8 to), ((q 55), aI g 1100 gt), ((q 56), aI g 160 gbg), ((q 57), aI g 160 gl), ((q 58), aI g 160 glo), ((q 59), aI g 600 gd)] H := hP.sub [6, 0, 1, 2, 3, 4, 5] rfl
    have hD : va_D A [(h0, .inr (10, mob q u2 n mm mb fa fp av ev wi mn tp tc sc nf fd me mp xn mt wh tq ag an ig)), ((q 54), aI g 8 to), ((q 55), aI g 1100 gt), ((q 56), aI g 160 gbg), ((q 57), aI g 160 gl), ((q 58), aI g 160 glo), ((q 59), aI g 600 gd)] := hD.sub [6, 0, 1, 2, 3, 4, 5] (by decide) rfl
    obtain ⟨hB2, hp2_0⟩ := hr1
    have hrr13 : r1 = 1 := hB2.2.trans (by decide)
    subst hrr13
    refine lv_if_eq (tgt := 21) hx hb d_Mod_depth_16 (by decide) (fun h16 => ?_) (fun h16 => ?_)
    · first | exact absurd h16 (by decide) | exact absurd (by decide) h16
    · refine lv_iconst (v := 0) hx hb d_Mod_depth_19 (by decide) ?_
      exact tw_iret E hS u2 trivial hP hD d_Mod_depth_20
  · obtain ⟨c1, c2, c3, gc1, gc2, gT, g0, g2, gm, gf, gk_, gd_⟩ := hGZ.resolve_left h5
    refine lv_iconst (v := 0) hx hb d_Mod_depth_8 (by decide) ?_
    refine lv_goto (tgt := 13) hx hb d_Mod_depth_9 (by decide) ?_
    refine tw_wi (wr := [((q 54), aI g 8 to), ((q 55), aI g 1100 gt), ((q 56), aI g 160 gbg), ((q 57), aI g 160 gl), ((q 58), aI g 160 glo), ((q 59), aI g 600 gd)]) (tw_runV (ws := [(h0, .inr (10, mob q rf n mm mb fa fp av ev wi mn tp tc sc nf fd me mp xn mt wh tq ag an ig)), ((q 54), aI g 8 to), ((q 55), aI g 1100 gt), ((q 56), aI g 160 gbg), ((q 57), aI g 160 gl), ((q 58), aI g 160 glo), ((q 59), aI g 600 gd)]) (wc := [(h0, .inr (10, mob q rf n mm mb fa fp av ev wi mn tp tc sc nf fd me mp xn mt wh tq ag an ig))]) (As := [.int 0]) (rest := []) E hB hK hZ (g_Mod_refused l g H.size h0 q n mm mb fa fp av ev wi mn tp tc sc nf fd me mp xn mt wh tq ag an ig rf 0) mc_Mod_refused mi_Mod_refused me_Mod_refused wd_1446 hP hD hS hA [0] rfl (by decide) 0 rfl rfl rfl rfl rfl (by decide) rfl hl.1 rfl (Nat.le_of_ble_eq_true rfl) (by decide) d_Mod_depth_13) hP hD hS hA [0] [1, 2, 3, 4, 5, 6] rfl rfl (by decide) (by decide) (fun r3 u4 H locs hr3 hP hD hS => ?_)
    try dsimp only at hr3
    have hP : va_P g.1 classes [((q 54), aI g 8 to), ((q 55), aI g 1100 gt), ((q 56), aI g 160 gbg), ((q 57), aI g 160 gl), ((q 58), aI g 160 glo), ((q 59), aI g 600 gd), (h0, .inr (10, mob q u4 n mm mb fa fp av ev wi mn tp tc sc nf fd me mp xn mt wh tq ag an ig))] H := hP
    have hD : va_D A [((q 54), aI g 8 to), ((q 55), aI g 1100 gt), ((q 56), aI g 160 gbg), ((q 57), aI g 160 gl), ((q 58), aI g 160 glo), ((q 59), aI g 600 gd), (h0, .inr (10, mob q u4 n mm mb fa fp av ev wi mn tp tc sc nf fd me mp xn mt wh tq ag an ig))] := hD
    have hP : va_P g.1 classes [(h0, .inr (10, mob q u4 n mm mb fa fp av ev wi mn tp tc sc nf fd me mp xn mt wh tq ag an ig)), ((q 54), aI g 8 to), ((q 55), aI g 1100 gt), ((q 56), aI g 160 gbg), ((q 57), aI g 160 gl), ((q 58), aI g 160 glo), ((q 59), aI g 600 gd)] H := hP.sub [6, 0, 1, 2, 3, 4, 5] rfl
    have hD : va_D A [(h0, .inr (10, mob q u4 n mm mb fa fp av ev wi mn tp tc sc nf fd me mp xn mt wh tq ag an ig)), ((q 54), aI g 8 to), ((q 55), aI g 1100 gt), ((q 56), aI g 160 gbg), ((q 57), aI g 160 gl), ((q 58), aI g 160 glo), ((q 59), aI g 600 gd)] := hD.sub [6, 0, 1, 2, 3, 4, 5] (by decide) rfl
    obtain ⟨hB4, hp4_0⟩ := hr3
    have hrr13 : r3 = 0 := hB4.2.trans (by decide)
    subst hrr13
    refine lv_if_eq (tgt := 21) hx hb d_Mod_depth_16 (by decide) (fun h16 => ?_) (fun h16 => ?_)
    · refine lv_aload_n hx hb d_Mod_depth_21 rfl (lv_at hl 0 rfl) ?_
      refine lv_iload_n hx hb d_Mod_depth_22 rfl (lv_at hl 1 rfl) ?_
      refine lv_iload_n hx hb d_Mod_depth_23 rfl (lv_at hl 2 rfl) ?_
      refine tw_si (tw_runV (ws := [(h0, .inr (10, mob q u4 n mm mb fa fp av ev wi mn tp tc sc nf fd me mp xn mt wh tq ag an ig)), ((q 54), aI g 8 to), ((q 55), aI g 1100 gt), ((q 56), aI g 160 gbg), ((q 57), aI g 160 gl), ((q 58), aI g 160 glo), ((q 59), aI g 600 gd)]) (wc := [(h0, .inr (10, mob q u4 n mm mb fa fp av ev wi mn tp tc sc nf fd me mp xn mt wh tq ag an ig)), ((q 54), aI g 8 to), ((q 56), aI g 160 gbg), ((q 57), aI g 160 gl), ((q 58), aI g 160 glo), ((q 59), aI g 600 gd)]) (As := [.int m1, .int y1]) (rest := []) E hB hK hZ (g_Mod_frameAt l g H.size h0 q u4 n mm mb fa fp av ev wi mn tp tc sc nf fd me mp xn mt wh tq ag an ig to gbg gl glo gd m1 y1 c1 c2 c3 gT gk_ (by omega) gd_) mc_Mod_frameAt mi_Mod_frameAt me_Mod_frameAt wd_1744 hP hD hS hA [0, 1, 3, 4, 5, 6] rfl (by decide) 0 rfl rfl rfl rfl rfl (by decide) rfl hl.1 rfl (Nat.le_of_ble_eq_true rfl) (by decide) d_Mod_depth_24) (fun r5 hr5 => ?_)
      have hB5 := hr5
      refine lv_istore_n hx hb d_Mod_depth_27 rfl hl (by decide) rfl (fun ls hl => ?_)
      have hl : lv_has ls 4 [(3, .int r5), (0, .ref h0), (1, .int m1), (2, .int y1)] := hl
      refine lv_iload_n hx hb d_Mod_depth_28 rfl (lv_at hl 0 rfl) ?_
      refine lv_if_ge (tgt := 36) hx hb d_Mod_depth_29 (by decide) (fun h29 => ?_) (fun h29 => ?_)
      · obtain ⟨jm, p9, o9, f1_, f2_, f3_, f4_, f5_, f6_, d9, f7_, f8_⟩ := hB5.resolve_left (fun e9 => absurd (by rw [e9] at h29; exact h29) (by decide))
        subst f3_
        refine lv_aload_n hx hb d_Mod_depth_36 rfl (lv_at hl 1 rfl) ?_
        refine va_get (D := g.1) (ci := 10) (v := .ref (q 59)) (C := R_Mod) (T := F_Mod) (N := 61) hx hb hts in_Mod hown hK hP 0 rfl rfl 59 (by decide) (hts _ wd_1309) (fun _ h9 => h9) rfl d_Mod_depth_37 ?_
        refine lv_iload_n hx hb d_Mod_depth_40 rfl (lv_at hl 0 rfl) ?_
        refine va_iald hx hb hK hP 6 0 rfl rfl (vp_in_nI (by omega) (by decide)) d_Mod_depth_41 ?_
        obtain ⟨x6, ex6⟩ : ∃ z : Int32, gd ((nI p9).toNatClampNeg) = z := ⟨_, rfl⟩
        refine tw_ri (e2 := x6) ex6 ?_
        exact tw_iret E hS u4 trivial hP hD d_Mod_depth_42
      · refine lv_iconst (v := (-1)) hx hb d_Mod_depth_32 (by decide) ?_
        refine lv_goto (tgt := 42) hx hb d_Mod_depth_33 (by decide) ?_
        exact tw_iret E hS u4 trivial hP hD d_Mod_depth_42
    · first | exact absurd h16 (by decide) | exact absurd (by decide) h16
set_option maxHeartbeats 4000000 in
set_option maxRecDepth 100000 in
theorem g_Mod_kind (l : Launch) (g : tw_G) (sz : Nat) (h0 : Nat) (q : Nat → Nat) (n : Nat) (mm : Int32) (mb : Int32) (fa : Int32) (fp : Int32) (av : Nat) (ev : Nat) (wi : Int32) (mn : Nat) (tp : Int32) (tc : Int32) (sc : Int32) (nf : Nat) (fd : Nat) (me : Nat) (mp : Int32) (xn : Nat) (mt : Nat) (wh : Nat) (tq : Nat) (ag : Nat) (an : Int32) (ig : Int32) (to : Nat → Int32) (gt : Nat → Int32) (gbg : Nat → Int32) (gl : Nat → Int32) (glo : Nat → Int32) (gd : Nat → Int32) (gk : Nat → Int32) (rf : Int32) (m1 : Int32) (y1 : Int32) (z1 : Int32) (i9 : Int32) (hGZ : ig = 0 ∨ GOK to gt gbg gl glo gd) : Met l y_Mod_kind [.code y_Mod_kind b_Mod_kind 6 (some .int)] ({ frames := 1, cells := 0, slots := 0, locals := 23 }) (tw_P g [.ref h0, .int m1, .int y1, .int z1, .int i9] [(h0, .inr (10, mob q rf n mm mb fa fp av ev wi mn tp tc sc nf fd me mp xn mt wh tq ag an ig)), ((q 54), aI g 8 to), ((q 55), aI g 1100 gt), ((q 56), aI g 160 gbg), ((q 57), aI g 160 gl), ((q 58), aI g 160 glo), ((q 59), aI g 600 gd), ((q 60), aI g 76800 gk)] sz) (tw_Qi g (fun (r : Int32) (u : Int32) => True) (fun u : Int32 => [(h0, .inr (10, mob q u n mm mb fa fp av ev wi mn tp tc sc nf fd me mp xn mt wh tq ag an ig)), ((q 54), aI g 8 to), ((q 55), aI g 1100 gt), ((q 56), aI g 160 gbg), ((q 57), aI g 160 gl), ((q 58), aI g 160 glo), ((q 59), aI g 600 gd), ((q 60), aI g 76800 gk)]) (va_A [(h0, .inr (10, mob q rf n mm mb fa fp av ev wi mn tp tc sc nf fd me mp xn mt wh tq ag an ig)), ((q 54), aI g 8 to), ((q 55), aI g 1100 gt), ((q 56), aI g 160 gbg), ((q 57), aI g 160 gl), ((q 58), aI g 160 glo), ((q 59), aI g 600 gd), ((q 60), aI g 76800 gk)] sz)) 0 0 (va_A [(h0, .inr (10, mob q rf n mm mb fa fp av ev wi mn tp tc sc nf fd me mp xn mt wh tq ag an ig)), ((q 54), aI g 8 to), ((q 55), aI g 1100 gt), ((q 56), aI g 160 gbg), ((q 57), aI g 160 gl), ((q 58), aI g 160 glo), ((q 59), aI g 600 gd), ((q 60), aI g 76800 gk)] sz) := by
  refine tw_metW (l := l) (g := g) (y := y_Mod_kind) (cc := b_Mod_kind) (maxL := 6) (ret := (some .int)) (rm := { frames := 1, cells := 0, slots := 0, locals := 23 }) (mc := 0) (ms := 0) (av := [.ref h0, .int m1, .int y1, .int z1, .int i9]) (ws := [(h0, .inr (10, mob q rf n mm mb fa fp av ev wi mn tp tc sc nf fd me mp xn mt wh tq ag an ig)), ((q 54), aI g 8 to), ((q 55), aI g 1100 gt), ((q 56), aI g 160 gbg), ((q 57), aI g 160 gl), ((q 58), aI g 160 glo), ((q 59), aI g 600 gd), ((q 60), aI g 76800 gk)]) (sz := sz) (Qc := fun A => (tw_Qi g (fun (r : Int32) (u : Int32) => True) (fun u : Int32 => [(h0, .inr (10, mob q u n mm mb fa fp av ev wi mn tp tc sc nf fd me mp xn mt wh tq ag an ig)), ((q 54), aI g 8 to), ((q 55), aI g 1100 gt), ((q 56), aI g 160 gbg), ((q 57), aI g 160 gl), ((q 58), aI g 160 glo), ((q 59), aI g 600 gd), ((q 60), aI g 76800 gk)]) A)) (by decide) (Nat.le_of_ble_eq_true rfl) ?_
  intro p e s m below meth c ls H A E hB hK hZ hP hD hS hA hl
  obtain ⟨hx, hb, hml, hr, hown, hts, hlocks, hin⟩ := id E
  have hl : lv_has ls 6 [(0, .ref h0), (1, .int m1), (2, .int y1), (3, .int z1), (4, .int i9)] := hl
  refine lv_aload_n hx hb d_Mod_kind_0 rfl (lv_at hl 0 rfl) ?_
  refine lv_aload_n hx hb d_Mod_kind_1 rfl (lv_at hl 0 rfl) ?_
  refine va_get (D := g.1) (ci := 10) (v := .int ig) (C := R_Mod) (T := F_Mod) (N := 61) hx hb hts in_Mod hown hK hP 0 rfl rfl 52 (by decide) (hts _ wd_1302) (fun _ h9 => h9) rfl d_Mod_kind_2 ?_
  refine lv_if_eq (tgt := 12) hx hb d_Mod_kind_5 (by decide) (fun h5 => ?_) (fun h5 => ?_)
  · refine lv_iconst (v := 1) hx hb d_Mod_kind_12 (by decide) ?_
    refine tw_wi (wr := [((q 54), aI g 8 to), ((q 55), aI g 1100 gt), ((q 56), aI g 160 gbg), ((q 57), aI g 160 gl), ((q 58), aI g 160 glo), ((q 59), aI g 600 gd), ((q 60), aI g 76800 gk)]) (tw_runV (ws := [(h0, .inr (10, mob q rf n mm mb fa fp av ev wi mn tp tc sc nf fd me mp xn mt wh tq ag an ig)), ((q 54), aI g 8 to), ((q 55), aI g 1100 gt), ((q 56), aI g 160 gbg), ((q 57), aI g 160 gl), ((q 58), aI g 160 glo), ((q 59), aI g 600 gd), ((q 60), aI g 76800 gk)]) (wc := [(h0, .inr (10, mob q rf n mm mb fa fp av ev wi mn tp tc sc nf fd me mp xn mt wh tq ag an ig))]) (As := [.int 1]) (rest := []) E hB hK hZ (g_Mod_refused l g H.size h0 q n mm mb fa fp av ev wi mn tp tc sc nf fd me mp xn mt wh tq ag an ig rf 1) mc_Mod_refused mi_Mod_refused me_Mod_refused wd_1446 hP hD hS hA [0] rfl (by decide) 0 rfl rfl rfl rfl rfl (by decide) rfl hl.1 rfl (Nat.le_of_ble_eq_true rfl) (by decide) d_Mod_kind_13) hP hD hS hA [0] [1, 2, 3, 4, 5, 6, 7] rfl rfl (by decide) (by decide) (fun r1 u2 H locs hr1 hP hD hS => ?_)
    try dsimp only at hr1
    have hP : va_P g.1 classes [((q 54), aI g 8 to), ((q 55), aI g 1100 gt), ((q 56), aI g 160 gbg), ((q 57), aI g 160 gl), ((q 58), aI g 160 glo), ((q 59), aI g 600 gd), ((q 60), aI g 76800 gk), (h0, .inr (10, mob q u2 n mm mb fa fp av ev wi mn tp tc sc nf fd me mp xn mt wh tq ag an ig))] H := hP
    have hD : va_D A [((q 54), aI g 8 to), ((q 55), aI g 1100 gt), ((q 56), aI g 160 gbg), ((q 57), aI g 160 gl), ((q 58), aI g 160 glo), ((q 59), aI g 600 gd), ((q 60), aI g 76800 gk), (h0, .inr (10, mob q u2 n mm mb fa fp av ev wi mn tp tc sc nf fd me mp xn mt wh tq ag an ig))] := hD
    have hP : va_P g.1 classes [(h0, .inr (10, mob q u2 n mm mb fa fp av ev wi mn tp tc sc nf fd me mp xn mt wh tq ag an ig)), ((q 54), aI g 8 to), ((q 55), aI g 1100 gt), ((q 56), aI g 160 gbg), ((q 57), aI g 160 gl), ((q 58), aI g 160 glo), ((q 59), aI g 600 gd), ((q 60), aI g 76800 gk)] H := hP.sub [7, 0, 1, 2, 3, 4, 5, 6] rfl
    have hD : va_D A [(h0, .inr (10, mob q u2 n mm mb fa fp av ev wi mn tp tc sc nf fd me mp xn mt wh tq ag an ig)), ((q 54), aI g 8 to), ((q 55), aI g 1100 gt), ((q 56), aI g 160 gbg), ((q 57), aI g 160 gl), ((q 58), aI g 160 glo), ((q 59), aI g 600 gd), ((q 60), aI g 76800 gk)] := hD.sub [7, 0, 1, 2, 3, 4, 5, 6] (by decide) rfl
    obtain ⟨hB2, hp2_0⟩ := hr1
    have hrr13 : r1 = 1 := hB2.2.trans (by decide)
    subst hrr13
    refine lv_if_eq (tgt := 21) hx hb d_Mod_kind_16 (by decide) (fun h16 => ?_) (fun h16 => ?_)
    · first | exact absurd h16 (by decide) | exact absurd (by decide) h16
    · refine lv_iconst (v := 0) hx hb d_Mod_kind_19 (by decide) ?_
      exact tw_iret E hS u2 trivial hP hD d_Mod_kind_20
  · obtain ⟨c1, c2, c3, gc1, gc2, gT, g0, g2, gm, gf, gk_, gd_⟩ := hGZ.resolve_left h5
    refine lv_iconst (v := 0) hx hb d_Mod_kind_8 (by decide) ?_
    refine lv_goto (tgt := 13) hx hb d_Mod_kind_9 (by decide) ?_
    refine tw_wi (wr := [((q 54), aI g 8 to), ((q 55), aI g 1100 gt), ((q 56), aI g 160 gbg), ((q 57), aI g 160 gl), ((q 58), aI g 160 glo), ((q 59), aI g 600 gd), ((q 60), aI g 76800 gk)]) (tw_runV (ws := [(h0, .inr (10, mob q rf n mm mb fa fp av ev wi mn tp tc sc nf fd me mp xn mt wh tq ag an ig)), ((q 54), aI g 8 to), ((q 55), aI g 1100 gt), ((q 56), aI g 160 gbg), ((q 57), aI g 160 gl), ((q 58), aI g 160 glo), ((q 59), aI g 600 gd), ((q 60), aI g 76800 gk)]) (wc := [(h0, .inr (10, mob q rf n mm mb fa fp av ev wi mn tp tc sc nf fd me mp xn mt wh tq ag an ig))]) (As := [.int 0]) (rest := []) E hB hK hZ (g_Mod_refused l g H.size h0 q n mm mb fa fp av ev wi mn tp tc sc nf fd me mp xn mt wh tq ag an ig rf 0) mc_Mod_refused mi_Mod_refused me_Mod_refused wd_1446 hP hD hS hA [0] rfl (by decide) 0 rfl rfl rfl rfl rfl (by decide) rfl hl.1 rfl (Nat.le_of_ble_eq_true rfl) (by decide) d_Mod_kind_13) hP hD hS hA [0] [1, 2, 3, 4, 5, 6, 7] rfl rfl (by decide) (by decide) (fun r3 u4 H locs hr3 hP hD hS => ?_)
    try dsimp only at hr3
    have hP : va_P g.1 classes [((q 54), aI g 8 to), ((q 55), aI g 1100 gt), ((q 56), aI g 160 gbg), ((q 57), aI g 160 gl), ((q 58), aI g 160 glo), ((q 59), aI g 600 gd), ((q 60), aI g 76800 gk), (h0, .inr (10, mob q u4 n mm mb fa fp av ev wi mn tp tc sc nf fd me mp xn mt wh tq ag an ig))] H := hP
    have hD : va_D A [((q 54), aI g 8 to), ((q 55), aI g 1100 gt), ((q 56), aI g 160 gbg), ((q 57), aI g 160 gl), ((q 58), aI g 160 glo), ((q 59), aI g 600 gd), ((q 60), aI g 76800 gk), (h0, .inr (10, mob q u4 n mm mb fa fp av ev wi mn tp tc sc nf fd me mp xn mt wh tq ag an ig))] := hD
    have hP : va_P g.1 classes [(h0, .inr (10, mob q u4 n mm mb fa fp av ev wi mn tp tc sc nf fd me mp xn mt wh tq ag an ig)), ((q 54), aI g 8 to), ((q 55), aI g 1100 gt), ((q 56), aI g 160 gbg), ((q 57), aI g 160 gl), ((q 58), aI g 160 glo), ((q 59), aI g 600 gd), ((q 60), aI g 76800 gk)] H := hP.sub [7, 0, 1, 2, 3, 4, 5, 6] rfl
    have hD : va_D A [(h0, .inr (10, mob q u4 n mm mb fa fp av ev wi mn tp tc sc nf fd me mp xn mt wh tq ag an ig)), ((q 54), aI g 8 to), ((q 55), aI g 1100 gt), ((q 56), aI g 160 gbg), ((q 57), aI g 160 gl), ((q 58), aI g 160 glo), ((q 59), aI g 600 gd), ((q 60), aI g 76800 gk)] := hD.sub [7, 0, 1, 2, 3, 4, 5, 6] (by decide) rfl
    obtain ⟨hB4, hp4_0⟩ := hr3
    have hrr13 : r3 = 0 := hB4.2.trans (by decide)
    subst hrr13
    refine lv_if_eq (tgt := 21) hx hb d_Mod_kind_16 (by decide) (fun h16 => ?_) (fun h16 => ?_)
    · refine lv_aload_n hx hb d_Mod_kind_21 rfl (lv_at hl 0 rfl) ?_
      refine lv_iload_n hx hb d_Mod_kind_22 rfl (lv_at hl 1 rfl) ?_
      refine lv_iload_n hx hb d_Mod_kind_23 rfl (lv_at hl 2 rfl) ?_
      refine tw_si (tw_runV (ws := [(h0, .inr (10, mob q u4 n mm mb fa fp av ev wi mn tp tc sc nf fd me mp xn mt wh tq ag an ig)), ((q 54), aI g 8 to), ((q 55), aI g 1100 gt), ((q 56), aI g 160 gbg), ((q 57), aI g 160 gl), ((q 58), aI g 160 glo), ((q 59), aI g 600 gd), ((q 60), aI g 76800 gk)]) (wc := [(h0, .inr (10, mob q u4 n mm mb fa fp av ev wi mn tp tc sc nf fd me mp xn mt wh tq ag an ig)), ((q 54), aI g 8 to), ((q 56), aI g 160 gbg), ((q 57), aI g 160 gl), ((q 58), aI g 160 glo), ((q 59), aI g 600 gd)]) (As := [.int m1, .int y1]) (rest := []) E hB hK hZ (g_Mod_frameAt l g H.size h0 q u4 n mm mb fa fp av ev wi mn tp tc sc nf fd me mp xn mt wh tq ag an ig to gbg gl glo gd m1 y1 c1 c2 c3 gT gk_ (by omega) gd_) mc_Mod_frameAt mi_Mod_frameAt me_Mod_frameAt wd_1744 hP hD hS hA [0, 1, 3, 4, 5, 6] rfl (by decide) 0 rfl rfl rfl rfl rfl (by decide) rfl hl.1 rfl (Nat.le_of_ble_eq_true rfl) (by decide) d_Mod_kind_24) (fun r5 hr5 => ?_)
      have hB5 := hr5
      refine lv_istore hx hb d_Mod_kind_27 hl (by decide) rfl (fun ls hl => ?_)
      have hl : lv_has ls 6 [(5, .int r5), (0, .ref h0), (1, .int m1), (2, .int y1), (3, .int z1), (4, .int i9)] := hl
      refine lv_iload hx hb d_Mod_kind_29 (lv_at hl 0 rfl) ?_
      refine lv_if_lt (tgt := 64) hx hb d_Mod_kind_31 (by decide) (fun h31 => ?_) (fun h31 => ?_)
      · refine lv_iconst (v := (-1)) hx hb d_Mod_kind_64 (by decide) ?_
        exact tw_iret E hS u4 trivial hP hD d_Mod_kind_65
      · obtain ⟨jm, p9, o9, f1_, f2_, f3_, f4_, f5_, f6_, d9, f7_, f8_⟩ := hB5.resolve_left (fun e9 => h31 (by rw [e9]; decide))
        subst f3_
        subst f1_
        refine lv_iload hx hb d_Mod_kind_34 (lv_at hl 5 rfl) ?_
        refine lv_if_lt (tgt := 64) hx hb d_Mod_kind_36 (by decide) (fun h36 => ?_) (fun h36 => ?_)
        · refine lv_iconst (v := (-1)) hx hb d_Mod_kind_64 (by decide) ?_
          exact tw_iret E hS u4 trivial hP hD d_Mod_kind_65
        · obtain ⟨ji, hji, hie⟩ := nI_of h36
          subst hie
          refine lv_iload hx hb d_Mod_kind_39 (lv_at hl 5 rfl) ?_
          refine lv_iload_n hx hb d_Mod_kind_41 rfl (lv_at hl 4 rfl) ?_
          refine lv_if_eq (tgt := 54) hx hb d_Mod_kind_42 (by decide) (fun h42 => ?_) (fun h42 => ?_)
          · refine lv_aload_n hx hb d_Mod_kind_54 rfl (lv_at hl 1 rfl) ?_
            refine va_get (D := g.1) (ci := 10) (v := .ref (q 59)) (C := R_Mod) (T := F_Mod) (N := 61) hx hb hts in_Mod hown hK hP 0 rfl rfl 59 (by decide) (hts _ wd_1309) (fun _ h9 => h9) rfl d_Mod_kind_55 ?_
            refine lv_iload hx hb d_Mod_kind_58 (lv_at hl 0 rfl) ?_
            refine va_iald hx hb hK hP 6 0 rfl rfl (vp_in_nI (by omega) (by decide)) d_Mod_kind_60 ?_
            refine tw_ri (e2 := nI d9) (by rw [nI_clamp (by omega)]; exact f8_) ?_
            refine lv_icmp_lt (tgt := 66) hx hb d_Mod_kind_61 (by decide) (fun h61 => ?_) (fun h61 => ?_)
            · have h61 := tn_lt h61 (by omega) (by omega)
              refine lv_aload_n hx hb d_Mod_kind_66 rfl (lv_at hl 1 rfl) ?_
              refine va_get (D := g.1) (ci := 10) (v := .ref (q 60)) (C := R_Mod) (T := F_Mod) (N := 61) hx hb hts in_Mod hown hK hP 0 rfl rfl 60 (by decide) (hts _ wd_1310) (fun _ h9 => h9) rfl d_Mod_kind_67 ?_
              refine lv_sipush (v := 128) hx hb d_Mod_kind_70 (by decide) ?_
              refine lv_iload hx hb d_Mod_kind_73 (lv_at hl 0 rfl) ?_
              refine lv_imul hx hb d_Mod_kind_75 ?_
              refine tw_ri (e2 := nI (128 * p9)) (pk_mul 128 p9) ?_
              refine lv_iload_n hx hb d_Mod_kind_76 rfl (lv_at hl 4 rfl) ?_
              refine lv_if_eq (tgt := 85) hx hb d_Mod_kind_77 (by decide) (fun h77 => ?_) (fun h77 => ?_)
              · refine lv_bipush (v := 64) hx hb d_Mod_kind_85 (by decide) ?_
                refine lv_iload hx hb d_Mod_kind_87 (lv_at hl 5 rfl) ?_
                refine lv_iadd hx hb d_Mod_kind_89 ?_
                refine tw_ri (e2 := nI (64 + ji)) (nI_add 64 ji) ?_
                refine lv_iadd hx hb d_Mod_kind_90 ?_
                refine tw_ri (e2 := nI (128 * p9 + (64 + ji))) (nI_add _ _) ?_
                refine va_iald hx hb hK hP 7 0 rfl rfl (vp_in_nI (by omega) (by decide)) d_Mod_kind_91 ?_
                obtain ⟨x6, ex6⟩ : ∃ z : Int32, gk ((nI (128 * p9 + (64 + ji))).toNatClampNeg) = z := ⟨_, rfl⟩
                refine tw_ri (e2 := x6) ex6 ?_
                exact tw_iret E hS u4 trivial hP hD d_Mod_kind_92
              · exact absurd h42 h77
            · refine lv_iconst (v := (-1)) hx hb d_Mod_kind_64 (by decide) ?_
              exact tw_iret E hS u4 trivial hP hD d_Mod_kind_65
          · refine lv_aload_n hx hb d_Mod_kind_45 rfl (lv_at hl 1 rfl) ?_
            refine va_get (D := g.1) (ci := 10) (v := .ref (q 58)) (C := R_Mod) (T := F_Mod) (N := 61) hx hb hts in_Mod hown hK hP 0 rfl rfl 58 (by decide) (hts _ wd_1308) (fun _ h9 => h9) rfl d_Mod_kind_46 ?_
            refine lv_iload_n hx hb d_Mod_kind_49 rfl (lv_at hl 2 rfl) ?_
            refine va_iald hx hb hK hP 5 0 rfl rfl (vp_in_nI (by omega) (by decide)) d_Mod_kind_50 ?_
            refine tw_ri (e2 := nI o9) (by rw [nI_clamp (by omega)]; exact f5_) ?_
            refine lv_goto (tgt := 61) hx hb d_Mod_kind_51 (by decide) ?_
            refine lv_icmp_lt (tgt := 66) hx hb d_Mod_kind_61 (by decide) (fun h61 => ?_) (fun h61 => ?_)
            · have h61 := tn_lt h61 (by omega) (by omega)
              refine lv_aload_n hx hb d_Mod_kind_66 rfl (lv_at hl 1 rfl) ?_
              refine va_get (D := g.1) (ci := 10) (v := .ref (q 60)) (C := R_Mod) (T := F_Mod) (N := 61) hx hb hts in_Mod hown hK hP 0 rfl rfl 60 (by decide) (hts _ wd_1310) (fun _ h9 => h9) rfl d_Mod_kind_67 ?_
              refine lv_sipush (v := 128) hx hb d_Mod_kind_70 (by decide) ?_
              refine lv_iload hx hb d_Mod_kind_73 (lv_at hl 0 rfl) ?_
              refine lv_imul hx hb d_Mod_kind_75 ?_
              refine tw_ri (e2 := nI (128 * p9)) (pk_mul 128 p9) ?_
              refine lv_iload_n hx hb d_Mod_kind_76 rfl (lv_at hl 4 rfl) ?_
              refine lv_if_eq (tgt := 85) hx hb d_Mod_kind_77 (by decide) (fun h77 => ?_) (fun h77 => ?_)
              · exact absurd h77 h42
              · refine lv_iload hx hb d_Mod_kind_80 (lv_at hl 5 rfl) ?_
                refine lv_goto (tgt := 90) hx hb d_Mod_kind_82 (by decide) ?_
                refine lv_iadd hx hb d_Mod_kind_90 ?_
                refine tw_ri (e2 := nI (128 * p9 + ji)) (nI_add _ _) ?_
                refine va_iald hx hb hK hP 7 0 rfl rfl (vp_in_nI (by omega) (by decide)) d_Mod_kind_91 ?_
                obtain ⟨x7, ex7⟩ : ∃ z : Int32, gk ((nI (128 * p9 + ji)).toNatClampNeg) = z := ⟨_, rfl⟩
                refine tw_ri (e2 := x7) ex7 ?_
                exact tw_iret E hS u4 trivial hP hD d_Mod_kind_92
            · refine lv_iconst (v := (-1)) hx hb d_Mod_kind_64 (by decide) ?_
              exact tw_iret E hS u4 trivial hP hD d_Mod_kind_65
    · first | exact absurd h16 (by decide) | exact absurd (by decide) h16
