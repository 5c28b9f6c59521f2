abbrev mob (q : Nat → Nat) (rf : Int32) (n : Nat) (mm : Int32) (mb : Int32) (fa : Int32) (fp : Int32) (av : Nat) (ev : Nat) (wi : Int32) (mn : Nat) (tp : Int32) (tc : Int32) (sc : Int32) (nf : Nat) (fd : Nat) (me : Nat) (mp : Int32) (xn : Nat) (mt : Nat) (wh : Nat) (tq : Nat) (ag : Nat) (an : Int32) (ig : Int32) : List Value := [.int rf, .int (nI n), .ref (q 2), .ref (q 3), .ref (q 4), .ref (q 5), .int mm, .int mb, .int fa, .int fp, .int (nI av), .int (nI ev), .int wi, .int (nI mn), .ref (q 14), .ref (q 15), .ref (q 16), .ref (q 17), .int tp, .int tc, .int sc, .int (nI nf), .ref (q 22), .ref (q 23), .int (nI fd), .int (nI me), .int mp, .ref (q 27), .ref (q 28), .ref (q 29), .ref (q 30), .ref (q 31), .ref (q 32), .ref (q 33), .ref (q 34), .ref (q 35), .ref (q 36), .ref (q 37), .int (nI xn), .ref (q 39), .ref (q 40), .ref (q 41), .ref (q 42), .ref (q 43), .int (nI mt), .int (nI wh), .int (nI tq), .ref (q 47), .ref (q 48), .int (nI ag), .ref (q 50), .int an, .int ig, .ref (q 53), .ref (q 54), .ref (q 55), .ref (q 56), .ref (q 57), .ref (q 58), .ref (q 59), .ref (q 60)]
set_option maxHeartbeats 4000000 in
set_option maxRecDepth 100000 in
theorem g_Mod_fail (l : Launch) (g : tw_G) (sz : Nat) (h0 : Nat) (q : Nat → Nat) (rf : Int32) (n : Nat) (mm : Int32) (mb : Int32) (av : Nat) (ev : Nat) (wi : Int32) (mn : Nat) (tp : Int32) (tc : Int32) (sc : Int32) (nf : Nat) (fd : Nat) (me : Nat) (mp : Int32) (xn : Nat) (mt : Nat) (wh : Nat) (tq : Nat) (ag : Nat) (an : Int32) (ig : Int32) (fa : Int32) (fp : Int32) (x : Int32) (y : Int32) (hx0 : ¬ x = 0) : Met l y_Mod_fail [.code y_Mod_fail b_Mod_fail 3 none] ({ frames := 0, cells := 0, slots := 0, locals := 0 }) (tw_P g [.ref h0, .int x, .int y] [(h0, .inr (10, mob q rf n mm mb fa fp av ev wi mn tp tc sc nf fd me mp xn mt wh tq ag an ig))] sz) (tw_Qv g (fun (u : Int32 × Int32) => (¬ u.1 = 0)) (fun u : Int32 × Int32 => [(h0, .inr (10, mob q rf n mm mb u.1 u.2 av ev wi mn tp tc sc nf fd me mp xn mt wh tq ag an ig))]) (va_A [(h0, .inr (10, mob q rf n mm mb fa fp av ev wi mn tp tc sc nf fd me mp xn mt wh tq ag an ig))] sz)) 0 0 (va_A [(h0, .inr (10, mob q rf n mm mb fa fp av ev wi mn tp tc sc nf fd me mp xn mt wh tq ag an ig))] sz) := by
  refine tw_metW (l := l) (g := g) (y := y_Mod_fail) (cc := b_Mod_fail) (maxL := 3) (ret := none) (rm := { frames := 0, cells := 0, slots := 0, locals := 0 }) (mc := 0) (ms := 0) (av := [.ref h0, .int x, .int y]) (ws := [(h0, .inr (10, mob q rf n mm mb fa fp av ev wi mn tp tc sc nf fd me mp xn mt wh tq ag an ig))]) (sz := sz) (Qc := fun A => (tw_Qv g (fun (u : Int32 × Int32) => (¬ u.1 = 0)) (fun u : Int32 × Int32 => [(h0, .inr (10, mob q rf n mm mb u.1 u.2 av ev wi mn tp tc sc nf fd me mp xn mt wh tq ag an ig))]) A)) (by decide) (Nat.le_of_ble_eq_true rfl) ?_
  intro p e s m below meth c ls H A E hB hK hZ hP hD hS hA hl
  obtain ⟨hx, hb, hml, hr, hown, hts, hlocks, hin⟩ := id E
  have hl : lv_has ls 3 [(0, .ref h0), (1, .int x), (2, .int y)] := hl
  refine lv_aload_n hx hb d_Mod_fail_0 rfl (lv_at hl 0 rfl) ?_
  refine va_get (D := g.1) (ci := 10) (v := .int fa) (C := R_Mod) (T := F_Mod) (N := 61) hx hb hts in_Mod hown hK hP 0 rfl rfl 8 (by decide) (hts _ wd_1258) (fun _ h9 => h9) rfl d_Mod_fail_1 ?_
  refine lv_if_ne (tgt := 17) hx hb d_Mod_fail_4 (by decide) (fun h4 => ?_) (fun h4 => ?_)
  · exact tw_vret E hS (fa, fp) h4 hP hD d_Mod_fail_17
  · refine lv_aload_n hx hb d_Mod_fail_7 rfl (lv_at hl 0 rfl) ?_
    refine lv_iload_n hx hb d_Mod_fail_8 rfl (lv_at hl 1 rfl) ?_
    refine va_put (D := g.1) (ci := 10) (v := .int x) (ty := .int) (C := R_Mod) (T := F_Mod) (N := 61) hx hb hts in_Mod t_Mod t_Mod_ok n_Mod hown hK hP hD hS 0 rfl rfl 8 (by decide) (hts _ wd_1258) (fun _ h9 => h9) rfl (t_Mod_ok 8 (by decide)) rfl rfl (Nat.le_of_ble_eq_true rfl) d_Mod_fail_9 (fun H locs hP hD hS => ?_)
    have hP : va_P g.1 classes [(h0, .inr (10, mob q rf n mm mb x fp av ev wi mn tp tc sc nf fd me mp xn mt wh tq ag an ig))] H := hP
    have hD : va_D A [(h0, .inr (10, mob q rf n mm mb x fp av ev wi mn tp tc sc nf fd me mp xn mt wh tq ag an ig))] := hD
    refine lv_aload_n hx hb d_Mod_fail_12 rfl (lv_at hl 0 rfl) ?_
    refine lv_iload_n hx hb d_Mod_fail_13 rfl (lv_at hl 2 rfl) ?_
    refine va_put (D := g.1) (ci := 10) (v := .int y) (ty := .int) (C := R_Mod) (T := F_Mod) (N := 61) hx hb hts in_Mod t_Mod t_Mod_ok n_Mod hown hK hP hD hS 0 rfl rfl 9 (by decide) (hts _ wd_1259) (fun _ h9 => h9) rfl (t_Mod_ok 9 (by decide)) rfl rfl (Nat.le_of_ble_eq_true rfl) d_Mod_fail_14 (fun H locs hP hD hS => ?_)
    have hP : va_P g.1 classes [(h0, .inr (10, mob q rf n mm mb x y av ev wi mn tp tc sc nf fd me mp xn mt wh tq ag an ig))] H := hP
    have hD : va_D A [(h0, .inr (10, mob q rf n mm mb x y av ev wi mn tp tc sc nf fd me mp xn mt wh tq ag an ig))] := hD
    exact tw_vret E hS (x, y) hx0 hP hD d_Mod_fail_17
set_option maxHeartbeats 4000000 in
set_option maxRecDepth 100000 in
theorem g_Mod_number (l : Launch) (g : tw_G) (sz : Nat) (h0 : Nat) (q : Nat → Nat) (rf : Int32) (n : Nat) (mm : Int32) (mb : Int32) (ev : Nat) (wi : Int32) (mn : Nat) (tp : Int32) (tc : Int32) (sc : Int32) (nf : Nat) (fd : Nat) (me : Nat) (mp : Int32) (xn : Nat) (mt : Nat) (wh : Nat) (tq : Nat) (ag : Nat) (an : Int32) (ig : Int32) (bs : Nat → Int32) (fa : Int32) (fp : Int32) (av : Nat) (k : Nat) (hae : av ≤ ev) (hev : ev ≤ 600) (hbs : BYT bs) (hk8 : k ≤ 8) : Met l y_Mod_number [.code y_Mod_number b_Mod_number 5 (some .long)] ({ frames := 1, cells := 0, slots := 0, locals := 22 }) (tw_P g [.ref h0, .int (nI k)] [(h0, .inr (10, mob q rf n mm mb fa fp av ev wi mn tp tc sc nf fd me mp xn mt wh tq ag an ig)), ((q 2), aI g 600 bs)] sz) (tw_Ql g (fun (r : Int64) (u : Int32 × Int32 × Nat) => (u.1 = 0 → fa = 0) ∧ (u.2.2 ≤ ev) ∧ (av ≤ u.2.2) ∧ (u.1 = 0 → u.2.2 = av + k) ∧ (k ≤ 4 → ∃ j, j < 256 ^ k ∧ r = nL j)) (fun u : Int32 × Int32 × Nat => [(h0, .inr (10, mob q rf n mm mb u.1 u.2.1 u.2.2 ev wi mn tp tc sc nf fd me mp xn mt wh tq ag an ig)), ((q 2), aI g 600 bs)]) (va_A [(h0, .inr (10, mob q rf n mm mb fa fp av ev wi mn tp tc sc nf fd me mp xn mt wh tq ag an ig)), ((q 2), aI g 600 bs)] sz)) 0 0 (va_A [(h0, .inr (10, mob q rf n mm mb fa fp av ev wi mn tp tc sc nf fd me mp xn mt wh tq ag an ig)), ((q 2), aI g 600 bs)] sz) := by
  refine tw_metW (l := l) (g := g) (y := y_Mod_number) (cc := b_Mod_number) (maxL := 5) (ret := (some .long)) (rm := { frames := 1, cells := 0, slots := 0, locals := 22 }) (mc := 0) (ms := 0) (av := [.ref h0, .int (nI k)]) (ws := [(h0, .inr (10, mob q rf n mm mb fa fp av ev wi mn tp tc sc nf fd me mp xn mt wh tq ag an ig)), ((q 2), aI g 600 bs)]) (sz := sz) (Qc := fun A => (tw_Ql g (fun (r : Int64) (u : Int32 × Int32 × Nat) => (u.1 = 0 → fa = 0) ∧ (u.2.2 ≤ ev) ∧ (av ≤ u.2.2) ∧ (u.1 = 0 → u.2.2 = av + k) ∧ (k ≤ 4 → ∃ j, j < 256 ^ k ∧ r = nL j)) (fun u : Int32 × Int32 × Nat => [(h0, .inr (10, mob q rf n mm mb u.1 u.2.1 u.2.2 ev wi mn tp tc sc nf fd me mp xn mt wh tq ag an ig)), ((q 2), aI g 600 bs)]) A)) (by decide) (Nat.le_of_ble_eq_true rfl) ?_
  intro p e s m below meth c ls H A E hB hK hZ hP hD hS hA hl
  obtain ⟨hx, hb, hml, hr, hown, hts, hlocks, hin⟩ := id E
  have hl : lv_has ls 5 [(0, .ref h0), (1, .int (nI k))] := hl
  refine lv_aload_n hx hb d_Mod_number_0 rfl (lv_at hl 0 rfl) ?_
  refine va_get (D := g.1) (ci := 10) (v := .int fa) (C := R_Mod) (T := F_Mod) (N := 61) hx hb hts in_Mod hown hK hP 0 rfl rfl 8 (by decide) (hts _ wd_1258) (fun _ h9 => h9) rfl d_Mod_number_1 ?_
  refine lv_if_eq (tgt := 9) hx hb d_Mod_number_4 (by decide) (fun h4 => ?_) (fun h4 => ?_)
  · refine lv_aload_n hx hb d_Mod_number_9 rfl (lv_at hl 0 rfl) ?_
    refine va_get (D := g.1) (ci := 10) (v := .int (nI av)) (C := R_Mod) (T := F_Mod) (N := 61) hx hb hts in_Mod hown hK hP 0 rfl rfl 10 (by decide) (hts _ wd_1260) (fun _ h9 => h9) rfl d_Mod_number_10 ?_
    refine lv_iload_n hx hb d_Mod_number_13 rfl (lv_at hl 1 rfl) ?_
    refine lv_iadd hx hb d_Mod_number_14 ?_
    refine tw_ri (e2 := nI (av + k)) (nI_add _ _) ?_
    refine lv_aload_n hx hb d_Mod_number_15 rfl (lv_at hl 0 rfl) ?_
    refine va_get (D := g.1) (ci := 10) (v := .int (nI ev)) (C := R_Mod) (T := F_Mod) (N := 61) hx hb hts in_Mod hown hK hP 0 rfl rfl 11 (by decide) (hts _ wd_1261) (fun _ h9 => h9) rfl d_Mod_number_16 ?_
    refine lv_icmp_le (tgt := 59) hx hb d_Mod_number_19 (by decide) (fun h19 => ?_) (fun h19 => ?_)
    · have h19 := tn_le h19 (by omega) (by omega)
      refine lv_lconst (v := 0) hx hb d_Mod_number_59 (by decide) ?_
      refine lv_lstore_n hx hb d_Mod_number_60 rfl hl (by decide) rfl (fun ls hl => ?_)
      have hl : lv_has ls 5 [(2, .long 0), (0, .ref h0), (1, .int (nI k))] := hl
      refine lv_iconst (v := 0) hx hb d_Mod_number_61 (by decide) ?_
      refine lv_istore hx hb d_Mod_number_62 hl (by decide) rfl (fun ls hl => ?_)
      have hl : lv_has ls 5 [(4, .int 0), (2, .long 0), (0, .ref h0), (1, .int (nI k))] := hl
      have loop64 : ∀ (kq : Nat) (i : Nat) (v9 : Int64) (av9 : Nat) (ls : Array Slot) (H : Heap) (locs : List Loc) , k - i = kq → (hi : i ≤ k) → (hat : av9 = av + i) → (hv : k ≤ 4 → ∃ j, j < 256 ^ i ∧ v9 = nL j) → lv_has ls 5 [(4, .int (nI i)), (2, .long v9), (0, .ref h0), (1, .int (nI k))] → va_P g.1 classes [(h0, .inr (10, mob q rf n mm mb fa fp av9 ev wi mn tp tc sc nf fd me mp xn mt wh tq ag an ig)), ((q 2), aI g 600 bs)] H → va_D A [(h0, .inr (10, mob q rf n mm mb fa fp av9 ev wi mn tp tc sc nf fd me mp xn mt wh tq ag an ig)), ((q 2), aI g 600 bs)] → va_S A s.heap H locs → W p l e ({ frames := 1, cells := 0, slots := 0, locals := 22 }) s m [.ref h0, .int (nI k)].toArray below meth c H locs 0 0 (MQ below (tw_Ql g (fun (r : Int64) (u : Int32 × Int32 × Nat) => (u.1 = 0 → fa = 0) ∧ (u.2.2 ≤ ev) ∧ (av ≤ u.2.2) ∧ (u.1 = 0 → u.2.2 = av + k) ∧ (k ≤ 4 → ∃ j, j < 256 ^ k ∧ r = nL j)) (fun u : Int32 × Int32 × Nat => [(h0, .inr (10, mob q rf n mm mb u.1 u.2.1 u.2.2 ev wi mn tp tc sc nf fd me mp xn mt wh tq ag an ig)), ((q 2), aI g 600 bs)]) A) [.ref h0, .int (nI k)].toArray s 0 0 A) (F0 m 64 ls []) := by
        intro kq
        induction kq using Nat.strongRecOn with
        | _ kq ih =>
          intro i v9 av9 ls H locs hk hi hat hv hl hP hD hS
          refine lv_iload hx hb d_Mod_number_64 (lv_at hl 0 rfl) ?_
          refine lv_iload_n hx hb d_Mod_number_66 rfl (lv_at hl 3 rfl) ?_
          refine lv_icmp_ge (tgt := 103) hx hb d_Mod_number_67 (by decide) (fun h67 => ?_) (fun h67 => ?_)
          · have h67 := tn_le h67 (by omega) (by omega)
            refine lv_lload_n hx hb d_Mod_number_103 rfl (lv_at hl 1 rfl) ?_
            exact tw_lret E hS (fa, fp, av9) (⟨(fun h => h), (by first | omega | (dsimp only <;> omega)), (by first | omega | (dsimp only <;> omega)), (fun _ => by first | omega | (dsimp only <;> omega)), (fun h4 => by have e9 : i = k := (by omega); rw [← e9]; exact hv (by omega))⟩) hP hD d_Mod_number_104
          · have h67 := tn_nle h67 (by omega) (by omega)
            obtain ⟨bb, hbb, ebb⟩ := hbs av9 (by omega)
            refine lv_ldc2 (v := 256) hx hb hown (hts _ wd_1482) d_Mod_number_70 ?_
            refine lv_lload_n hx hb d_Mod_number_73 rfl (lv_at hl 1 rfl) ?_
            refine lv_lmul hx hb d_Mod_number_74 ?_
            refine tw_rl (e2 := (256 : Int64) * v9) rfl ?_
            refine lv_aload_n hx hb d_Mod_number_75 rfl (lv_at hl 2 rfl) ?_
            refine va_get (D := g.1) (ci := 10) (v := .ref (q 2)) (C := R_Mod) (T := F_Mod) (N := 61) hx hb hts in_Mod hown hK hP 0 rfl rfl 2 (by decide) (hts _ wd_1252) (fun _ h9 => h9) rfl d_Mod_number_76 ?_
            refine lv_aload_n hx hb d_Mod_number_79 rfl (lv_at hl 2 rfl) ?_
            refine va_get (D := g.1) (ci := 10) (v := .int (nI av9)) (C := R_Mod) (T := F_Mod) (N := 61) hx hb hts in_Mod hown hK hP 0 rfl rfl 10 (by decide) (hts _ wd_1260) (fun _ h9 => h9) rfl d_Mod_number_80 ?_
            refine va_iald hx hb hK hP 1 0 rfl rfl (vp_in_nI (by omega) (by decide)) d_Mod_number_83 ?_
            refine tw_ri (e2 := nI bb) (by rw [nI_clamp (by omega)]; exact ebb) ?_
            refine lv_i2l (v := nL bb) hx hb d_Mod_number_84 (rl_i2l (by omega)) ?_
            refine lv_ladd hx hb d_Mod_number_85 ?_
            obtain ⟨x1, ex1⟩ : ∃ z : Int64, ((256 : Int64) * v9) + (nL bb) = z := ⟨_, rfl⟩
            refine tw_rl (e2 := x1) ex1 ?_
            refine lv_lstore_n hx hb d_Mod_number_86 rfl hl (by decide) rfl (fun ls hl => ?_)
            have hl : lv_has ls 5 [(2, .long x1), (4, .int (nI i)), (0, .ref h0), (1, .int (nI k))] := hl
            refine lv_aload_n hx hb d_Mod_number_87 rfl (lv_at hl 2 rfl) ?_
            refine lv_dup hx hb d_Mod_number_88 rfl ?_
            refine va_get (D := g.1) (ci := 10) (v := .int (nI av9)) (C := R_Mod) (T := F_Mod) (N := 61) hx hb hts in_Mod hown hK hP 0 rfl rfl 10 (by decide) (hts _ wd_1260) (fun _ h9 => h9) rfl d_Mod_number_89 ?_
            refine lv_iconst (v := 1) hx hb d_Mod_number_92 (by decide) ?_
            refine lv_iadd hx hb d_Mod_number_93 ?_
            refine tw_ri (e2 := nI (av9 + 1)) ((nI_succ av9).symm) ?_
            refine va_put (D := g.1) (ci := 10) (v := .int (nI (av9 + 1))) (ty := .int) (C := R_Mod) (T := F_Mod) (N := 61) hx hb hts in_Mod t_Mod t_Mod_ok n_Mod hown hK hP hD hS 0 rfl rfl 10 (by decide) (hts _ wd_1260) (fun _ h9 => h9) rfl (t_Mod_ok 10 (by decide)) rfl rfl (Nat.le_of_ble_eq_true rfl) d_Mod_number_94 (fun H locs hP hD hS => ?_)
            have hP : va_P g.1 classes [(h0, .inr (10, mob q rf n mm mb fa fp (av9 + 1) ev wi mn tp tc sc nf fd me mp xn mt wh tq ag an ig)), ((q 2), aI g 600 bs)] H := hP
            have hD : va_D A [(h0, .inr (10, mob q rf n mm mb fa fp (av9 + 1) ev wi mn tp tc sc nf fd me mp xn mt wh tq ag an ig)), ((q 2), aI g 600 bs)] := hD
            refine lv_iinc (k := 1) (v := nI (i + 1)) hx hb d_Mod_number_97 hl rfl ((nI_succ i).symm) (by decide) rfl (fun ls hl => ?_)
            have hl : lv_has ls 5 [(4, .int (nI (i + 1))), (2, .long x1), (0, .ref h0), (1, .int (nI k))] := hl
            refine lv_goto (tgt := 64) hx hb d_Mod_number_100 (by decide) ?_
            have hP : va_P g.1 classes [(h0, .inr (10, mob q rf n mm mb fa fp (av9 + 1) ev wi mn tp tc sc nf fd me mp xn mt wh tq ag an ig)), ((q 2), aI g 600 bs)] H := hP.sub [0, 1] rfl
            have hD : va_D A [(h0, .inr (10, mob q rf n mm mb fa fp (av9 + 1) ev wi mn tp tc sc nf fd me mp xn mt wh tq ag an ig)), ((q 2), aI g 600 bs)] := hD.sub [0, 1] (by decide) rfl
            exact ih _ (by omega) (i + 1) x1 (av9 + 1) ls _ _ rfl (by omega) (by omega) (fun h4 => rl_step (hv h4) hbb ex1) (lv_sub hl [0, 1, 2, 3] rfl) hP hD hS
      exact loop64 _ 0 0 av ls _ _ rfl (Nat.zero_le _) rfl (fun _ => rl_zero 0) (hl) hP hD hS
    · refine lv_aload_n hx hb d_Mod_number_22 rfl (lv_at hl 0 rfl) ?_
      refine lv_aload_n hx hb d_Mod_number_23 rfl (lv_at hl 0 rfl) ?_
      refine va_get (D := g.1) (ci := 10) (v := .int wi) (C := R_Mod) (T := F_Mod) (N := 61) hx hb hts in_Mod hown hK hP 0 rfl rfl 12 (by decide) (hts _ wd_1262) (fun _ h9 => h9) rfl d_Mod_number_24 ?_
      refine lv_if_le (tgt := 35) hx hb d_Mod_number_27 (by decide) (fun h27 => ?_) (fun h27 => ?_)
      · refine lv_iconst (v := 1) hx hb d_Mod_number_35 (by decide) ?_
        refine lv_aload_n hx hb d_Mod_number_36 rfl (lv_at hl 0 rfl) ?_
        refine va_get (D := g.1) (ci := 10) (v := .int wi) (C := R_Mod) (T := F_Mod) (N := 61) hx hb hts in_Mod hown hK hP 0 rfl rfl 12 (by decide) (hts _ wd_1262) (fun _ h9 => h9) rfl d_Mod_number_37 ?_
        refine lv_if_le (tgt := 50) hx hb d_Mod_number_40 (by decide) (fun h40 => ?_) (fun h40 => ?_)
        · refine lv_aload_n hx hb d_Mod_number_50 rfl (lv_at hl 0 rfl) ?_
          refine va_get (D := g.1) (ci := 10) (v := .int (nI av)) (C := R_Mod) (T := F_Mod) (N := 61) hx hb hts in_Mod hown hK hP 0 rfl rfl 10 (by decide) (hts _ wd_1260) (fun _ h9 => h9) rfl d_Mod_number_51 ?_
          refine tw_wv (wr := [((q 2), aI g 600 bs)]) (tw_runV (ws := [(h0, .inr (10, mob q rf n mm mb fa fp av ev wi mn tp tc sc nf fd me mp xn mt wh tq ag an ig)), ((q 2), aI g 600 bs)]) (wc := [(h0, .inr (10, mob q rf n mm mb fa fp av ev wi mn tp tc sc nf fd me mp xn mt wh tq ag an ig))]) (As := [.int 1, .int (nI av)]) (rest := []) E hB hK hZ (g_Mod_fail l g H.size h0 q rf n mm mb av ev wi mn tp tc sc nf fd me mp xn mt wh tq ag an ig fa fp 1 (nI av) (by decide)) mc_Mod_fail mi_Mod_fail me_Mod_fail wd_1478 hP hD hS hA [0] rfl (by decide) 0 rfl rfl rfl rfl rfl (by decide) rfl hl.1 rfl (Nat.le_of_ble_eq_true rfl) (by decide) d_Mod_number_54) hP hD hS hA [0] [1] rfl rfl (by decide) (by decide) (fun u3 H locs hr2 hP hD hS => ?_)
          try dsimp only at hr2
          have hP : va_P g.1 classes [((q 2), aI g 600 bs), (h0, .inr (10, mob q rf n mm mb u3.1 u3.2 av ev wi mn tp tc sc nf fd me mp xn mt wh tq ag an ig))] H := hP
          have hD : va_D A [((q 2), aI g 600 bs), (h0, .inr (10, mob q rf n mm mb u3.1 u3.2 av ev wi mn tp tc sc nf fd me mp xn mt wh tq ag an ig))] := hD
          have hP : va_P g.1 classes [(h0, .inr (10, mob q rf n mm mb u3.1 u3.2 av ev wi mn tp tc sc nf fd me mp xn mt wh tq ag an ig)), ((q 2), aI g 600 bs)] H := hP.sub [1, 0] rfl
          have hD : va_D A [(h0, .inr (10, mob q rf n mm mb u3.1 u3.2 av ev wi mn tp tc sc nf fd me mp xn mt wh tq ag an ig)), ((q 2), aI g 600 bs)] := hD.sub [1, 0] (by decide) rfl
          have hp3_0 := hr2
          refine lv_lconst (v := 0) hx hb d_Mod_number_57 (by decide) ?_
          exact tw_lret E hS (u3.1, u3.2, av) (⟨(fun h => absurd h hp3_0), (by first | omega | (dsimp only <;> omega)), (by first | omega | (dsimp only <;> omega)), (fun h => absurd h hp3_0), (fun _ => rl_zero k)⟩) hP hD d_Mod_number_58
        · refine lv_aload_n hx hb d_Mod_number_43 rfl (lv_at hl 0 rfl) ?_
          refine va_get (D := g.1) (ci := 10) (v := .int wi) (C := R_Mod) (T := F_Mod) (N := 61) hx hb hts in_Mod hown hK hP 0 rfl rfl 12 (by decide) (hts _ wd_1262) (fun _ h9 => h9) rfl d_Mod_number_44 ?_
          refine lv_goto (tgt := 54) hx hb d_Mod_number_47 (by decide) ?_
          refine tw_wv (wr := [((q 2), aI g 600 bs)]) (tw_runV (ws := [(h0, .inr (10, mob q rf n mm mb fa fp av ev wi mn tp tc sc nf fd me mp xn mt wh tq ag an ig)), ((q 2), aI g 600 bs)]) (wc := [(h0, .inr (10, mob q rf n mm mb fa fp av ev wi mn tp tc sc nf fd me mp xn mt wh tq ag an ig))]) (As := [.int 1, .int wi]) (rest := []) E hB hK hZ (g_Mod_fail l g H.size h0 q rf n mm mb av ev wi mn tp tc sc nf fd me mp xn mt wh tq ag an ig fa fp 1 wi (by decide)) mc_Mod_fail mi_Mod_fail me_Mod_fail wd_1478 hP hD hS hA [0] rfl (by decide) 0 rfl rfl rfl rfl rfl (by decide) rfl hl.1 rfl (Nat.le_of_ble_eq_true rfl) (by decide) d_Mod_number_54) hP hD hS hA [0] [1] rfl rfl (by decide) (by decide) (fun u5 H locs hr4 hP hD hS => ?_)
          try dsimp only at hr4
          have hP : va_P g.1 classes [((q 2), aI g 600 bs), (h0, .inr (10, mob q rf n mm mb u5.1 u5.2 av ev wi mn tp tc sc nf fd me mp xn mt wh tq ag an ig))] H := hP
          have hD : va_D A [((q 2), aI g 600 bs), (h0, .inr (10, mob q rf n mm mb u5.1 u5.2 av ev wi mn tp tc sc nf fd me mp xn mt wh tq ag an ig))] := hD
          have hP : va_P g.1 classes [(h0, .inr (10, mob q rf n mm mb u5.1 u5.2 av ev wi mn tp tc sc nf fd me mp xn mt wh tq ag an ig)), ((q 2), aI g 600 bs)] H := hP.sub [1, 0] rfl
          have hD : va_D A [(h0, .inr (10, mob q rf n mm mb u5.1 u5.2 av ev wi mn tp tc sc nf fd me mp xn mt wh tq ag an ig)), ((q 2), aI g 600 bs)] := hD.sub [1, 0] (by decide) rfl
          have hp5_0 := hr4
          refine lv_lconst (v := 0) hx hb d_Mod_number_57 (by decide) ?_
          exact tw_lret E hS (u5.1, u5.2, av) (⟨(fun h => absurd h hp5_0), (by first | omega | (dsimp only <;> omega)), (by first | omega | (dsimp only <;> omega)), (fun h => absurd h hp5_0), (fun _ => rl_zero k)⟩) hP hD d_Mod_number_58
      · refine lv_bipush (v := 8) hx hb d_Mod_number_30 (by decide) ?_
        refine lv_goto (tgt := 36) hx hb d_Mod_number_32 (by decide) ?_
        refine lv_aload_n hx hb d_Mod_number_36 rfl (lv_at hl 0 rfl) ?_
        refine va_get (D := g.1) (ci := 10) (v := .int wi) (C := R_Mod) (T := F_Mod) (N := 61) hx hb hts in_Mod hown hK hP 0 rfl rfl 12 (by decide) (hts _ wd_1262) (fun _ h9 => h9) rfl d_Mod_number_37 ?_
        refine lv_if_le (tgt := 50) hx hb d_Mod_number_40 (by decide) (fun h40 => ?_) (fun h40 => ?_)
        · refine lv_aload_n hx hb d_Mod_number_50 rfl (lv_at hl 0 rfl) ?_
          refine va_get (D := g.1) (ci := 10) (v := .int (nI av)) (C := R_Mod) (T := F_Mod) (N := 61) hx hb hts in_Mod hown hK hP 0 rfl rfl 10 (by decide) (hts _ wd_1260) (fun _ h9 => h9) rfl d_Mod_number_51 ?_
          refine tw_wv (wr := [((q 2), aI g 600 bs)]) (tw_runV (ws := [(h0, .inr (10, mob q rf n mm mb fa fp av ev wi mn tp tc sc nf fd me mp xn mt wh tq ag an ig)), ((q 2), aI g 600 bs)]) (wc := [(h0, .inr (10, mob q rf n mm mb fa fp av ev wi mn tp tc sc nf fd me mp xn mt wh tq ag an ig))]) (As := [.int 8, .int (nI av)]) (rest := []) E hB hK hZ (g_Mod_fail l g H.size h0 q rf n mm mb av ev wi mn tp tc sc nf fd me mp xn mt wh tq ag an ig fa fp 8 (nI av) (by decide)) mc_Mod_fail mi_Mod_fail me_Mod_fail wd_1478 hP hD hS hA [0] rfl (by decide) 0 rfl rfl rfl rfl rfl (by decide) rfl hl.1 rfl (Nat.le_of_ble_eq_true rfl) (by decide) d_Mod_number_54) hP hD hS hA [0] [1] rfl rfl (by decide) (by decide) (fun u7 H locs hr6 hP hD hS => ?_)
          try dsimp only at hr6
          have hP : va_P g.1 classes [((q 2), aI g 600 bs), (h0, .inr (10, mob q rf n mm mb u7.1 u7.2 av ev wi mn tp tc sc nf fd me mp xn mt wh tq ag an ig))] H := hP
          have hD : va_D A [((q 2), aI g 600 bs), (h0, .inr (10, mob q rf n mm mb u7.1 u7.2 av ev wi mn tp tc sc nf fd me mp xn mt wh tq ag an ig))] := hD
          have hP : va_P g.1 classes [(h0, .inr (10, mob q rf n mm mb u7.1 u7.2 av ev wi mn tp tc sc nf fd me mp xn mt wh tq ag an ig)), ((q 2), aI g 600 bs)] H := hP.sub [1, 0] rfl
          have hD : va_D A [(h0, .inr (10, mob q rf n mm mb u7.1 u7.2 av ev wi mn tp tc sc nf fd me mp xn mt wh tq ag an ig)), ((q 2), aI g 600 bs)] := hD.sub [1, 0] (by decide) rfl
          have hp7_0 := hr6
          refine lv_lconst (v := 0) hx hb d_Mod_number_57 (by decide) ?_
          exact tw_lret E hS (u7.1, u7.2, av) (⟨(fun h => absurd h hp7_0), (by first | omega | (dsimp only <;> omega)), (by first | omega | (dsimp only <;> omega)), (fun h => absurd h hp7_0), (fun _ => rl_zero k)⟩) hP hD d_Mod_number_58
        · refine lv_aload_n hx hb d_Mod_number_43 rfl (lv_at hl 0 rfl) ?_
          refine va_get (D := g.1) (ci := 10) (v := .int wi) (C := R_Mod) (T := F_Mod) (N := 61) hx hb hts in_Mod hown hK hP 0 rfl rfl 12 (by decide) (hts _ wd_1262) (fun _ h9 => h9) rfl d_Mod_number_44 ?_
          refine lv_goto (tgt := 54) hx hb d_Mod_number_47 (by decide) ?_
          refine tw_wv (wr := [((q 2), aI g 600 bs)]) (tw_runV (ws := [(h0, .inr (10, mob q rf n mm mb fa fp av ev wi mn tp tc sc nf fd me mp xn mt wh tq ag an ig)), ((q 2), aI g 600 bs)]) (wc := [(h0, .inr (10, mob q rf n mm mb fa fp av ev wi mn tp tc sc nf fd me mp xn mt wh tq ag an ig))]) (As := [.int 8, .int wi]) (rest := []) E hB hK hZ (g_Mod_fail l g H.size h0 q rf n mm mb av ev wi mn tp tc sc nf fd me mp xn mt wh tq ag an ig fa fp 8 wi (by decide)) mc_Mod_fail mi_Mod_fail me_Mod_fail wd_1478 hP hD hS hA [0] rfl (by decide) 0 rfl rfl rfl rfl rfl (by decide) rfl hl.1 rfl (Nat.le_of_ble_eq_true rfl) (by decide) d_Mod_number_54) hP hD hS hA [0] [1] rfl rfl (by decide) (by decide) (fun u9 H locs hr8 hP hD hS => ?_)
          try dsimp only at hr8
          have hP : va_P g.1 classes [((q 2), aI g 600 bs), (h0, .inr (10, mob q rf n mm mb u9.1 u9.2 av ev wi mn tp tc sc nf fd me mp xn mt wh tq ag an ig))] H := hP
          have hD : va_D A [((q 2), aI g 600 bs), (h0, .inr (10, mob q rf n mm mb u9.1 u9.2 av ev wi mn tp tc sc nf fd me mp xn mt wh tq ag an ig))] := hD
          have hP : va_P g.1 classes [(h0, .inr (10, mob q rf n mm mb u9.1 u9.2 av ev wi mn tp tc sc nf fd me mp xn mt wh tq ag an ig)), ((q 2), aI g 600 bs)] H := hP.sub [1, 0] rfl
          have hD : va_D A [(h0, .inr (10, mob q rf n mm mb u9.1 u9.2 av ev wi mn tp tc sc nf fd me mp xn mt wh tq ag an ig)), ((q 2), aI g 600 bs)] := hD.sub [1, 0] (by decide) rfl
          have hp9_0 := hr8
          refine lv_lconst (v := 0) hx hb d_Mod_number_57 (by decide) ?_
          exact tw_lret E hS (u9.1, u9.2, av) (⟨(fun h => absurd h hp9_0), (by first | omega | (dsimp only <;> omega)), (by first | omega | (dsimp only <;> omega)), (fun h => absurd h hp9_0), (fun _ => rl_zero k)⟩) hP hD d_Mod_number_58
  · refine lv_lconst (v := 0) hx hb d_Mod_number_7 (by decide) ?_
    exact tw_lret E hS (fa, fp, av) (⟨(fun h => h), (by first | omega | (dsimp only <;> omega)), (by first | omega | (dsimp only <;> omega)), (fun h => absurd h h4), (fun _ => rl_zero k)⟩) hP hD d_Mod_number_8
set_option maxHeartbeats 4000000 in
set_option maxRecDepth 100000 in
theorem g_Mod_u2 (l : Launch) (g : tw_G) (sz : Nat) (h0 : Nat) (q : Nat → Nat) (rf : Int32) (n : Nat) (mm : Int32) (mb : Int32) (ev : Nat) (wi : Int32) (mn : Nat) (tp : Int32) (tc : Int32) (sc : Int32) (nf : Nat) (fd : Nat) (me : Nat) (mp : Int32) (xn : Nat) (mt : Nat) (wh : Nat) (tq : Nat) (ag : Nat) (an : Int32) (ig : Int32) (bs : Nat → Int32) (fa : Int32) (fp : Int32) (av : Nat) (hae : av ≤ ev) (hev : ev ≤ 600) (hbs : BYT bs) : Met l y_Mod_u2 [.code y_Mod_u2 b_Mod_u2 1 (some .int)] ({ frames := 2, cells := 0, slots := 0, locals := 46 }) (tw_P g [.ref h0] [(h0, .inr (10, mob q rf n mm mb fa fp av ev wi mn tp tc sc nf fd me mp xn mt wh tq ag an ig)), ((q 2), aI g 600 bs)] sz) (tw_Qi g (fun (r : Int32) (u : Int32 × Int32 × Nat) => (∃ j, j < 65536 ∧ r = nI j) ∧ (u.1 = 0 → fa = 0) ∧ (u.2.2 ≤ ev) ∧ (av ≤ u.2.2) ∧ (u.1 = 0 → u.2.2 = av + 2)) (fun u : Int32 × Int32 × Nat => [(h0, .inr (10, mob q rf n mm mb u.1 u.2.1 u.2.2 ev wi mn tp tc sc nf fd me mp xn mt wh tq ag an ig)), ((q 2), aI g 600 bs)]) (va_A [(h0, .inr (10, mob q rf n mm mb fa fp av ev wi mn tp tc sc nf fd me mp xn mt wh tq ag an ig)), ((q 2), aI g 600 bs)] sz)) 0 0 (va_A [(h0, .inr (10, mob q rf n mm mb fa fp av ev wi mn tp tc sc nf fd me mp xn mt wh tq ag an ig)), ((q 2), aI g 600 bs)] sz) := by
  refine tw_metW (l := l) (g := g) (y := y_Mod_u2) (cc := b_Mod_u2) (maxL := 1) (ret := (some .int)) (rm := { frames := 2, cells := 0, slots := 0, locals := 46 }) (mc := 0) (ms := 0) (av := [.ref h0]) (ws := [(h0, .inr (10, mob q rf n mm mb fa fp av ev wi mn tp tc sc nf fd me mp xn mt wh tq ag an ig)), ((q 2), aI g 600 bs)]) (sz := sz) (Qc := fun A => (tw_Qi g (fun (r : Int32) (u : Int32 × Int32 × Nat) => (∃ j, j < 65536 ∧ r = nI j) ∧ (u.1 = 0 → fa = 0) ∧ (u.2.2 ≤ ev) ∧ (av ≤ u.2.2) ∧ (u.1 = 0 → u.2.2 = av + 2)) (fun u : Int32 × Int32 × Nat => [(h0, .inr (10, mob q rf n mm mb u.1 u.2.1 u.2.2 ev wi mn tp tc sc nf fd me mp xn mt wh tq ag an ig)), ((q 2), aI g 600 bs)]) A)) (by decide) (Nat.le_of_ble_eq_true rfl) ?_
  intro p e s m below meth c ls H A E hB hK hZ hP hD hS hA hl
  obtain ⟨hx, hb, hml, hr, hown, hts, hlocks, hin⟩ := id E
  have hl : lv_has ls 1 [(0, .ref h0)] := hl
  refine lv_aload_n hx hb d_Mod_u2_0 rfl (lv_at hl 0 rfl) ?_
  refine lv_iconst (v := 2) hx hb d_Mod_u2_1 (by decide) ?_
  refine tw_wl (wr := []) (tw_runV (ws := [(h0, .inr (10, mob q rf n mm mb fa fp av ev wi mn tp tc sc nf fd me mp xn mt wh tq ag an ig)), ((q 2), aI g 600 bs)]) (wc := [(h0, .inr (10, mob q rf n mm mb fa fp av ev wi mn tp tc sc nf fd me mp xn mt wh tq ag an ig)), ((q 2), aI g 600 bs)]) (As := [.int 2]) (rest := []) E hB hK hZ (g_Mod_number l g H.size h0 q rf n mm mb ev wi mn tp tc sc nf fd me mp xn mt wh tq ag an ig bs fa fp av 2 (by omega) (by omega) hbs (by decide)) mc_Mod_number mi_Mod_number me_Mod_number wd_1474 hP hD hS hA [0, 1] rfl (by decide) 0 rfl rfl rfl rfl rfl (by decide) rfl hl.1 rfl (Nat.le_of_ble_eq_true rfl) (by decide) d_Mod_u2_2) hP hD hS hA [0, 1] [] rfl rfl (by decide) (by decide) (fun r1 u2 H locs hr1 hP hD hS => ?_)
  try dsimp only at hr1
  have hP : va_P g.1 classes [(h0, .inr (10, mob q rf n mm mb u2.1 u2.2.1 u2.2.2 ev wi mn tp tc sc nf fd me mp xn mt wh tq ag an ig)), ((q 2), aI g 600 bs)] H := hP
  have hD : va_D A [(h0, .inr (10, mob q rf n mm mb u2.1 u2.2.1 u2.2.2 ev wi mn tp tc sc nf fd me mp xn mt wh tq ag an ig)), ((q 2), aI g 600 bs)] := hD
  have hP : va_P g.1 classes [(h0, .inr (10, mob q rf n mm mb u2.1 u2.2.1 u2.2.2 ev wi mn tp tc sc nf fd me mp xn mt wh tq ag an ig)), ((q 2), aI g 600 bs)] H := hP.sub [0, 1] rfl
  have hD : va_D A [(h0, .inr (10, mob q rf n mm mb u2.1 u2.2.1 u2.2.2 ev wi mn tp tc sc nf fd me mp xn mt wh tq ag an ig)), ((q 2), aI g 600 bs)] := hD.sub [0, 1] (by decide) rfl
  obtain ⟨hp2_0, hp2_1, hp2_2, hp2_3, hp2_4⟩ := hr1
  obtain ⟨j2, hj2, rfl⟩ := hp2_4 (by decide)
  refine lv_l2i (v := nI j2) hx hb d_Mod_u2_5 (rl_l2i _) ?_
  exact tw_iret E hS (u2.1, u2.2.1, u2.2.2) (⟨⟨_, (by omega), rfl⟩, (fun h => (fun h => h) (hp2_0 h)), (by first | omega | (dsimp only <;> omega)), (by first | omega | (dsimp only <;> omega)), (fun hz => by have hz3 := hp2_0 hz; have hz4 := hp2_3 hz; first | omega | (dsimp only <;> omega))⟩) hP hD d_Mod_u2_6
set_option maxHeartbeats 4000000 in
set_option maxRecDepth 100000 in
theorem g_Mod_skip (l : Launch) (g : tw_G) (sz : Nat) (h0 : Nat) (q : Nat → Nat) (rf : Int32) (n : Nat) (mm : Int32) (mb : Int32) (ev : Nat) (wi : Int32) (mn : Nat) (tp : Int32) (tc : Int32) (sc : Int32) (nf : Nat) (fd : Nat) (me : Nat) (mp : Int32) (xn : Nat) (mt : Nat) (wh : Nat) (tq : Nat) (ag : Nat) (an : Int32) (ig : Int32) (fa : Int32) (fp : Int32) (av : Nat) (j : Nat) (hae : av ≤ ev) (hev : ev ≤ 600) (hj32 : j < 2 ^ 32) : Met l y_Mod_skip [.code y_Mod_skip b_Mod_skip 4 (some .int)] ({ frames := 1, cells := 0, slots := 0, locals := 22 }) (tw_P g [.ref h0, .long (nL j)] [(h0, .inr (10, mob q rf n mm mb fa fp av ev wi mn tp tc sc nf fd me mp xn mt wh tq ag an ig))] sz) (tw_Qi g (fun (r : Int32) (u : Int32 × Int32 × Nat) => r = nI av ∧ (u.1 = 0 → fa = 0) ∧ (u.2.2 ≤ ev) ∧ (av ≤ u.2.2) ∧ (u.1 = 0 → u.2.2 = av + j)) (fun u : Int32 × Int32 × Nat => [(h0, .inr (10, mob q rf n mm mb u.1 u.2.1 u.2.2 ev wi mn tp tc sc nf fd me mp xn mt wh tq ag an ig))]) (va_A [(h0, .inr (10, mob q rf n mm mb fa fp av ev wi mn tp tc sc nf fd me mp xn mt wh tq ag an ig))] sz)) 0 0 (va_A [(h0, .inr (10, mob q rf n mm mb fa fp av ev wi mn tp tc sc nf fd me mp xn mt wh tq ag an ig))] sz) := by
  refine tw_metW (l := l) (g := g) (y := y_Mod_skip) (cc := b_Mod_skip) (maxL := 4) (ret := (some .int)) (rm := { frames := 1, cells := 0, slots := 0, locals := 22 }) (mc := 0) (ms := 0) (av := [.ref h0, .long (nL j)]) (ws := [(h0, .inr (10, mob q rf n mm mb fa fp av ev wi mn tp tc sc nf fd me mp xn mt wh tq ag an ig))]) (sz := sz) (Qc := fun A => (tw_Qi g (fun (r : Int32) (u : Int32 × Int32 × Nat) => r = nI av ∧ (u.1 = 0 → fa = 0) ∧ (u.2.2 ≤ ev) ∧ (av ≤ u.2.2) ∧ (u.1 = 0 → u.2.2 = av + j)) (fun u : Int32 × Int32 × Nat => [(h0, .inr (10, mob q rf n mm mb u.1 u.2.1 u.2.2 ev wi mn tp tc sc nf fd me mp xn mt wh tq ag an ig))]) A)) (by decide) (Nat.le_of_ble_eq_true rfl) ?_
  intro p e s m below meth c ls H A E hB hK hZ hP hD hS hA hl
  obtain ⟨hx, hb, hml, hr, hown, hts, hlocks, hin⟩ := id E
  have hl : lv_has ls 4 [(0, .ref h0), (1, .long (nL j))] := hl
  refine lv_aload_n hx hb d_Mod_skip_0 rfl (lv_at hl 0 rfl) ?_
  refine va_get (D := g.1) (ci := 10) (v := .int (nI av)) (C := R_Mod) (T := F_Mod) (N := 61) hx hb hts in_Mod hown hK hP 0 rfl rfl 10 (by decide) (hts _ wd_1260) (fun _ h9 => h9) rfl d_Mod_skip_1 ?_
  refine lv_istore_n hx hb d_Mod_skip_4 rfl hl (by decide) rfl (fun ls hl => ?_)
  have hl : lv_has ls 4 [(3, .int (nI av)), (0, .ref h0), (1, .long (nL j))] := hl
  refine lv_aload_n hx hb d_Mod_skip_5 rfl (lv_at hl 1 rfl) ?_
  refine va_get (D := g.1) (ci := 10) (v := .int fa) (C := R_Mod) (T := F_Mod) (N := 61) hx hb hts in_Mod hown hK hP 0 rfl rfl 8 (by decide) (hts _ wd_1258) (fun _ h9 => h9) rfl d_Mod_skip_6 ?_
  refine lv_if_ne (tgt := 62) hx hb d_Mod_skip_9 (by decide) (fun h9 => ?_) (fun h9 => ?_)
  · refine lv_aload_n hx hb d_Mod_skip_62 rfl (lv_at hl 1 rfl) ?_
    refine lv_aload_n hx hb d_Mod_skip_63 rfl (lv_at hl 1 rfl) ?_
    refine va_get (D := g.1) (ci := 10) (v := .int fa) (C := R_Mod) (T := F_Mod) (N := 61) hx hb hts in_Mod hown hK hP 0 rfl rfl 8 (by decide) (hts _ wd_1258) (fun _ h9 => h9) rfl d_Mod_skip_64 ?_
    refine lv_if_ne (tgt := 80) hx hb d_Mod_skip_67 (by decide) (fun h67 => ?_) (fun h67 => ?_)
    · refine lv_aload_n hx hb d_Mod_skip_80 rfl (lv_at hl 1 rfl) ?_
      refine va_get (D := g.1) (ci := 10) (v := .int (nI av)) (C := R_Mod) (T := F_Mod) (N := 61) hx hb hts in_Mod hown hK hP 0 rfl rfl 10 (by decide) (hts _ wd_1260) (fun _ h9 => h9) rfl d_Mod_skip_81 ?_
      refine va_put (D := g.1) (ci := 10) (v := .int (nI av)) (ty := .int) (C := R_Mod) (T := F_Mod) (N := 61) hx hb hts in_Mod t_Mod t_Mod_ok n_Mod hown hK hP hD hS 0 rfl rfl 10 (by decide) (hts _ wd_1260) (fun _ h9 => h9) rfl (t_Mod_ok 10 (by decide)) rfl rfl (Nat.le_of_ble_eq_true rfl) d_Mod_skip_84 (fun H locs hP hD hS => ?_)
      have hP : va_P g.1 classes [(h0, .inr (10, mob q rf n mm mb fa fp av ev wi mn tp tc sc nf fd me mp xn mt wh tq ag an ig))] H := hP
      have hD : va_D A [(h0, .inr (10, mob q rf n mm mb fa fp av ev wi mn tp tc sc nf fd me mp xn mt wh tq ag an ig))] := hD
      refine lv_iload_n hx hb d_Mod_skip_87 rfl (lv_at hl 0 rfl) ?_
      exact tw_iret E hS (fa, fp, av) (⟨rfl, (fun h => h), (by first | omega | (dsimp only <;> omega)), (by first | omega | (dsimp only <;> omega)), (fun h => absurd h h67)⟩) hP hD d_Mod_skip_88
    · exact absurd h67 h9
  · refine lv_lload_n hx hb d_Mod_skip_12 rfl (lv_at hl 2 rfl) ?_
    refine lv_aload_n hx hb d_Mod_skip_13 rfl (lv_at hl 1 rfl) ?_
    refine va_get (D := g.1) (ci := 10) (v := .int (nI ev)) (C := R_Mod) (T := F_Mod) (N := 61) hx hb hts in_Mod hown hK hP 0 rfl rfl 11 (by decide) (hts _ wd_1261) (fun _ h9 => h9) rfl d_Mod_skip_14 ?_
    refine lv_aload_n hx hb d_Mod_skip_17 rfl (lv_at hl 1 rfl) ?_
    refine va_get (D := g.1) (ci := 10) (v := .int (nI av)) (C := R_Mod) (T := F_Mod) (N := 61) hx hb hts in_Mod hown hK hP 0 rfl rfl 10 (by decide) (hts _ wd_1260) (fun _ h9 => h9) rfl d_Mod_skip_18 ?_
    refine lv_isub hx hb d_Mod_skip_21 ?_
    refine tw_ri (e2 := nI (ev - av)) (pk_sub hae) ?_
    refine lv_i2l (v := nL (ev - av)) hx hb d_Mod_skip_22 (rl_i2l (by omega)) ?_
    refine W.lcmp hx hb d_Mod_skip_23 ?_
    refine tw_ri (e2 := lg_cmp (nL j) (nL (ev - av))) rfl ?_
    refine lv_if_le (tgt := 62) hx hb d_Mod_skip_24 (by decide) (fun h24 => ?_) (fun h24 => ?_)
    · have h24 := rl_cmp h24 hj32 (by omega)
      refine lv_aload_n hx hb d_Mod_skip_62 rfl (lv_at hl 1 rfl) ?_
      refine lv_aload_n hx hb d_Mod_skip_63 rfl (lv_at hl 1 rfl) ?_
      refine va_get (D := g.1) (ci := 10) (v := .int fa) (C := R_Mod) (T := F_Mod) (N := 61) hx hb hts in_Mod hown hK hP 0 rfl rfl 8 (by decide) (hts _ wd_1258) (fun _ h9 => h9) rfl d_Mod_skip_64 ?_
      refine lv_if_ne (tgt := 80) hx hb d_Mod_skip_67 (by decide) (fun h67 => ?_) (fun h67 => ?_)
      · exact absurd h9 h67
      · refine lv_aload_n hx hb d_Mod_skip_70 rfl (lv_at hl 1 rfl) ?_
        refine va_get (D := g.1) (ci := 10) (v := .int (nI av)) (C := R_Mod) (T := F_Mod) (N := 61) hx hb hts in_Mod hown hK hP 0 rfl rfl 10 (by decide) (hts _ wd_1260) (fun _ h9 => h9) rfl d_Mod_skip_71 ?_
        refine lv_lload_n hx hb d_Mod_skip_74 rfl (lv_at hl 2 rfl) ?_
        refine lv_l2i (v := nI j) hx hb d_Mod_skip_75 (rl_l2i j) ?_
        refine lv_iadd hx hb d_Mod_skip_76 ?_
        refine tw_ri (e2 := nI (av + j)) (nI_add _ _) ?_
        refine lv_goto (tgt := 84) hx hb d_Mod_skip_77 (by decide) ?_
        refine va_put (D := g.1) (ci := 10) (v := .int (nI (av + j))) (ty := .int) (C := R_Mod) (T := F_Mod) (N := 61) hx hb hts in_Mod t_Mod t_Mod_ok n_Mod hown hK hP hD hS 0 rfl rfl 10 (by decide) (hts _ wd_1260) (fun _ h9 => h9) rfl (t_Mod_ok 10 (by decide)) rfl rfl (Nat.le_of_ble_eq_true rfl) d_Mod_skip_84 (fun H locs hP hD hS => ?_)
        have hP : va_P g.1 classes [(h0, .inr (10, mob q rf n mm mb fa fp (av + j) ev wi mn tp tc sc nf fd me mp xn mt wh tq ag an ig))] H := hP
        have hD : va_D A [(h0, .inr (10, mob q rf n mm mb fa fp (av + j) ev wi mn tp tc sc nf fd me mp xn mt wh tq ag an ig))] := hD
        refine lv_iload_n hx hb d_Mod_skip_87 rfl (lv_at hl 0 rfl) ?_
        exact tw_iret E hS (fa, fp, av + j) (⟨rfl, (fun h => h), (by first | omega | (dsimp only <;> omega)), (by first | omega | (dsimp only <;> omega)), (fun _ => by first | omega | (dsimp only <;> omega))⟩) hP hD d_Mod_skip_88
    · refine lv_aload_n hx hb d_Mod_skip_27 rfl (lv_at hl 1 rfl) ?_
      refine lv_aload_n hx hb d_Mod_skip_28 rfl (lv_at hl 1 rfl) ?_
      refine va_get (D := g.1) (ci := 10) (v := .int wi) (C := R_Mod) (T := F_Mod) (N := 61) hx hb hts in_Mod hown hK hP 0 rfl rfl 12 (by decide) (hts _ wd_1262) (fun _ h9 => h9) rfl d_Mod_skip_29 ?_
      refine lv_if_le (tgt := 40) hx hb d_Mod_skip_32 (by decide) (fun h32 => ?_) (fun h32 => ?_)
      · refine lv_iconst (v := 1) hx hb d_Mod_skip_40 (by decide) ?_
        refine lv_aload_n hx hb d_Mod_skip_41 rfl (lv_at hl 1 rfl) ?_
        refine va_get (D := g.1) (ci := 10) (v := .int wi) (C := R_Mod) (T := F_Mod) (N := 61) hx hb hts in_Mod hown hK hP 0 rfl rfl 12 (by decide) (hts _ wd_1262) (fun _ h9 => h9) rfl d_Mod_skip_42 ?_
        refine lv_if_le (tgt := 55) hx hb d_Mod_skip_45 (by decide) (fun h45 => ?_) (fun h45 => ?_)
        · refine lv_aload_n hx hb d_Mod_skip_55 rfl (lv_at hl 1 rfl) ?_
          refine va_get (D := g.1) (ci := 10) (v := .int (nI av)) (C := R_Mod) (T := F_Mod) (N := 61) hx hb hts in_Mod hown hK hP 0 rfl rfl 10 (by decide) (hts _ wd_1260) (fun _ h9 => h9) rfl d_Mod_skip_56 ?_
          refine tw_wv (wr := []) (tw_runV (ws := [(h0, .inr (10, mob q rf n mm mb fa fp av ev wi mn tp tc sc nf fd me mp xn mt wh tq ag an ig))]) (wc := [(h0, .inr (10, mob q rf n mm mb fa fp av ev wi mn tp tc sc nf fd me mp xn mt wh tq ag an ig))]) (As := [.int 1, .int (nI av)]) (rest := []) E hB hK hZ (g_Mod_fail l g H.size h0 q rf n mm mb av ev wi mn tp tc sc nf fd me mp xn mt wh tq ag an ig fa fp 1 (nI av) (by decide)) mc_Mod_fail mi_Mod_fail me_Mod_fail wd_1478 hP hD hS hA [0] rfl (by decide) 0 rfl rfl rfl rfl rfl (by decide) rfl hl.1 rfl (Nat.le_of_ble_eq_true rfl) (by decide) d_Mod_skip_59) hP hD hS hA [0] [] rfl rfl (by decide) (by decide) (fun u2 H locs hr1 hP hD hS => ?_)
          try dsimp only at hr1
          have hP : va_P g.1 classes [(h0, .inr (10, mob q rf n mm mb u2.1 u2.2 av ev wi mn tp tc sc nf fd me mp xn mt wh tq ag an ig))] H := hP
          have hD : va_D A [(h0, .inr (10, mob q rf n mm mb u2.1 u2.2 av ev wi mn tp tc sc nf fd me mp xn mt wh tq ag an ig))] := hD
          have hP : va_P g.1 classes [(h0, .inr (10, mob q rf n mm mb u2.1 u2.2 av ev wi mn tp tc sc nf fd me mp xn mt wh tq ag an ig))] H := hP.sub [0] rfl
          have hD : va_D A [(h0, .inr (10, mob q rf n mm mb u2.1 u2.2 av ev wi mn tp tc sc nf fd me mp xn mt wh tq ag an ig))] := hD.sub [0] (by decide) rfl
          have hp2_0 := hr1
          refine lv_aload_n hx hb d_Mod_skip_62 rfl (lv_at hl 1 rfl) ?_
          refine lv_aload_n hx hb d_Mod_skip_63 rfl (lv_at hl 1 rfl) ?_
          refine va_get (D := g.1) (ci := 10) (v := .int u2.1) (C := R_Mod) (T := F_Mod) (N := 61) hx hb hts in_Mod hown hK hP 0 rfl rfl 8 (by decide) (hts _ wd_1258) (fun _ h9 => h9) rfl d_Mod_skip_64 ?_
          refine lv_if_ne (tgt := 80) hx hb d_Mod_skip_67 (by decide) (fun h67 => ?_) (fun h67 => ?_)
          · refine lv_aload_n hx hb d_Mod_skip_80 rfl (lv_at hl 1 rfl) ?_
            refine va_get (D := g.1) (ci := 10) (v := .int (nI av)) (C := R_Mod) (T := F_Mod) (N := 61) hx hb hts in_Mod hown hK hP 0 rfl rfl 10 (by decide) (hts _ wd_1260) (fun _ h9 => h9) rfl d_Mod_skip_81 ?_
            refine va_put (D := g.1) (ci := 10) (v := .int (nI av)) (ty := .int) (C := R_Mod) (T := F_Mod) (N := 61) hx hb hts in_Mod t_Mod t_Mod_ok n_Mod hown hK hP hD hS 0 rfl rfl 10 (by decide) (hts _ wd_1260) (fun _ h9 => h9) rfl (t_Mod_ok 10 (by decide)) rfl rfl (Nat.le_of_ble_eq_true rfl) d_Mod_skip_84 (fun H locs hP hD hS => ?_)
            have hP : va_P g.1 classes [(h0, .inr (10, mob q rf n mm mb u2.1 u2.2 av ev wi mn tp tc sc nf fd me mp xn mt wh tq ag an ig))] H := hP
            have hD : va_D A [(h0, .inr (10, mob q rf n mm mb u2.1 u2.2 av ev wi mn tp tc sc nf fd me mp xn mt wh tq ag an ig))] := hD
            refine lv_iload_n hx hb d_Mod_skip_87 rfl (lv_at hl 0 rfl) ?_
            exact tw_iret E hS (u2.1, u2.2, av) (⟨rfl, (fun h => absurd h h67), (by first | omega | (dsimp only <;> omega)), (by first | omega | (dsimp only <;> omega)), (fun h => absurd h h67)⟩) hP hD d_Mod_skip_88
          · exact absurd h67 hp2_0
        · refine lv_aload_n hx hb d_Mod_skip_48 rfl (lv_at hl 1 rfl) ?_
          refine va_get (D := g.1) (ci := 10) (v := .int wi) (C := R_Mod) (T := F_Mod) (N := 61) hx hb hts in_Mod hown hK hP 0 rfl rfl 12 (by decide) (hts _ wd_1262) (fun _ h9 => h9) rfl d_Mod_skip_49 ?_
          refine lv_goto (tgt := 59) hx hb d_Mod_skip_52 (by decide) ?_
          refine tw_wv (wr := []) (tw_runV (ws := [(h0, .inr (10, mob q rf n mm mb fa fp av ev wi mn tp tc sc nf fd me mp xn mt wh tq ag an ig))]) (wc := [(h0, .inr (10, mob q rf n mm mb fa fp av ev wi mn tp tc sc nf fd me mp xn mt wh tq ag an ig))]) (As := [.int 1, .int wi]) (rest := []) E hB hK hZ (g_Mod_fail l g H.size h0 q rf n mm mb av ev wi mn tp tc sc nf fd me mp xn mt wh tq ag an ig fa fp 1 wi (by decide)) mc_Mod_fail mi_Mod_fail me_Mod_fail wd_1478 hP hD hS hA [0] rfl (by decide) 0 rfl rfl rfl rfl rfl (by decide) rfl hl.1 rfl (Nat.le_of_ble_eq_true rfl) (by decide) d_Mod_skip_59) hP hD hS hA [0] [] rfl rfl (by decide) (by decide) (fun u4 H locs hr3 hP hD hS => ?_)
          try dsimp only at hr3
          have hP : va_P g.1 classes [(h0, .inr (10, mob q rf n mm mb u4.1 u4.2 av ev wi mn tp tc sc nf fd me mp xn mt wh tq ag an ig))] H := hP
          have hD : va_D A [(h0, .inr (10, mob q rf n mm mb u4.1 u4.2 av ev wi mn tp tc sc nf fd me mp xn mt wh tq ag an ig))] := hD
          have hP : va_P g.1 classes [(h0, .inr (10, mob q rf n mm mb u4.1 u4.2 av ev wi mn tp tc sc nf fd me mp xn mt wh tq ag an ig))] H := hP.sub [0] rfl
          have hD : va_D A [(h0, .inr (10, mob q rf n mm mb u4.1 u4.2 av ev wi mn tp tc sc nf fd me mp xn mt wh tq ag an ig))] := hD.sub [0] (by decide) rfl
          have hp4_0 := hr3
          refine lv_aload_n hx hb d_Mod_skip_62 rfl (lv_at hl 1 rfl) ?_
          refine lv_aload_n hx hb d_Mod_skip_63 rfl (lv_at hl 1 rfl) ?_
          refine va_get (D := g.1) (ci := 10) (v := .int u4.1) (C := R_Mod) (T := F_Mod) (N := 61) hx hb hts in_Mod hown hK hP 0 rfl rfl 8 (by decide) (hts _ wd_1258) (fun _ h9 => h9) rfl d_Mod_skip_64 ?_
          refine lv_if_ne (tgt := 80) hx hb d_Mod_skip_67 (by decide) (fun h67 => ?_) (fun h67 => ?_)
          · refine lv_aload_n hx hb d_Mod_skip_80 rfl (lv_at hl 1 rfl) ?_
            refine va_get (D := g.1) (ci := 10) (v := .int (nI av)) (C := R_Mod) (T := F_Mod) (N := 61) hx hb hts in_Mod hown hK hP 0 rfl rfl 10 (by decide) (hts _ wd_1260) (fun _ h9 => h9) rfl d_Mod_skip_81 ?_
            refine va_put (D := g.1) (ci := 10) (v := .int (nI av)) (ty := .int) (C := R_Mod) (T := F_Mod) (N := 61) hx hb hts in_Mod t_Mod t_Mod_ok n_Mod hown hK hP hD hS 0 rfl rfl 10 (by decide) (hts _ wd_1260) (fun _ h9 => h9) rfl (t_Mod_ok 10 (by decide)) rfl rfl (Nat.le_of_ble_eq_true rfl) d_Mod_skip_84 (fun H locs hP hD hS => ?_)
            have hP : va_P g.1 classes [(h0, .inr (10, mob q rf n mm mb u4.1 u4.2 av ev wi mn tp tc sc nf fd me mp xn mt wh tq ag an ig))] H := hP
            have hD : va_D A [(h0, .inr (10, mob q rf n mm mb u4.1 u4.2 av ev wi mn tp tc sc nf fd me mp xn mt wh tq ag an ig))] := hD
            refine lv_iload_n hx hb d_Mod_skip_87 rfl (lv_at hl 0 rfl) ?_
            exact tw_iret E hS (u4.1, u4.2, av) (⟨rfl, (fun h => absurd h h67), (by first | omega | (dsimp only <;> omega)), (by first | omega | (dsimp only <;> omega)), (fun h => absurd h h67)⟩) hP hD d_Mod_skip_88
          · exact absurd h67 hp4_0
      · refine lv_bipush (v := 8) hx hb d_Mod_skip_35 (by decide) ?_
        refine lv_goto (tgt := 41) hx hb d_Mod_skip_37 (by decide) ?_
        refine lv_aload_n hx hb d_Mod_skip_41 rfl (lv_at hl 1 rfl) ?_
        refine va_get (D := g.1) (ci := 10) (v := .int wi) (C := R_Mod) (T := F_Mod) (N := 61) hx hb hts in_Mod hown hK hP 0 rfl rfl 12 (by decide) (hts _ wd_1262) (fun _ h9 => h9) rfl d_Mod_skip_42 ?_
        refine lv_if_le (tgt := 55) hx hb d_Mod_skip_45 (by decide) (fun h45 => ?_) (fun h45 => ?_)
        · refine lv_aload_n hx hb d_Mod_skip_55 rfl (lv_at hl 1 rfl) ?_
          refine va_get (D := g.1) (ci := 10) (v := .int (nI av)) (C := R_Mod) (T := F_Mod) (N := 61) hx hb hts in_Mod hown hK hP 0 rfl rfl 10 (by decide) (hts _ wd_1260) (fun _ h9 => h9) rfl d_Mod_skip_56 ?_
          refine tw_wv (wr := []) (tw_runV (ws := [(h0, .inr (10, mob q rf n mm mb fa fp av ev wi mn tp tc sc nf fd me mp xn mt wh tq ag an ig))]) (wc := [(h0, .inr (10, mob q rf n mm mb fa fp av ev wi mn tp tc sc nf fd me mp xn mt wh tq ag an ig))]) (As := [.int 8, .int (nI av)]) (rest := []) E hB hK hZ (g_Mod_fail l g H.size h0 q rf n mm mb av ev wi mn tp tc sc nf fd me mp xn mt wh tq ag an ig fa fp 8 (nI av) (by decide)) mc_Mod_fail mi_Mod_fail me_Mod_fail wd_1478 hP hD hS hA [0] rfl (by decide) 0 rfl rfl rfl rfl rfl (by decide) rfl hl.1 rfl (Nat.le_of_ble_eq_true rfl) (by decide) d_Mod_skip_59) hP hD hS hA [0] [] rfl rfl (by decide) (by decide) (fun u6 H locs hr5 hP hD hS => ?_)
          try dsimp only at hr5
          have hP : va_P g.1 classes [(h0, .inr (10, mob q rf n mm mb u6.1 u6.2 av ev wi mn tp tc sc nf fd me mp xn mt wh tq ag an ig))] H := hP
          have hD : va_D A [(h0, .inr (10, mob q rf n mm mb u6.1 u6.2 av ev wi mn tp tc sc nf fd me mp xn mt wh tq ag an ig))] := hD
          have hP : va_P g.1 classes [(h0, .inr (10, mob q rf n mm mb u6.1 u6.2 av ev wi mn tp tc sc nf fd me mp xn mt wh tq ag an ig))] H := hP.sub [0] rfl
          have hD : va_D A [(h0, .inr (10, mob q rf n mm mb u6.1 u6.2 av ev wi mn tp tc sc nf fd me mp xn mt wh tq ag an ig))] := hD.sub [0] (by decide) rfl
          have hp6_0 := hr5
          refine lv_aload_n hx hb d_Mod_skip_62 rfl (lv_at hl 1 rfl) ?_
          refine lv_aload_n hx hb d_Mod_skip_63 rfl (lv_at hl 1 rfl) ?_
          refine va_get (D := g.1) (ci := 10) (v := .int u6.1) (C := R_Mod) (T := F_Mod) (N := 61) hx hb hts in_Mod hown hK hP 0 rfl rfl 8 (by decide) (hts _ wd_1258) (fun _ h9 => h9) rfl d_Mod_skip_64 ?_
          refine lv_if_ne (tgt := 80) hx hb d_Mod_skip_67 (by decide) (fun h67 => ?_) (fun h67 => ?_)
          · refine lv_aload_n hx hb d_Mod_skip_80 rfl (lv_at hl 1 rfl) ?_
            refine va_get (D := g.1) (ci := 10) (v := .int (nI av)) (C := R_Mod) (T := F_Mod) (N := 61) hx hb hts in_Mod hown hK hP 0 rfl rfl 10 (by decide) (hts _ wd_1260) (fun _ h9 => h9) rfl d_Mod_skip_81 ?_
            refine va_put (D := g.1) (ci := 10) (v := .int (nI av)) (ty := .int) (C := R_Mod) (T := F_Mod) (N := 61) hx hb hts in_Mod t_Mod t_Mod_ok n_Mod hown hK hP hD hS 0 rfl rfl 10 (by decide) (hts _ wd_1260) (fun _ h9 => h9) rfl (t_Mod_ok 10 (by decide)) rfl rfl (Nat.le_of_ble_eq_true rfl) d_Mod_skip_84 (fun H locs hP hD hS => ?_)
            have hP : va_P g.1 classes [(h0, .inr (10, mob q rf n mm mb u6.1 u6.2 av ev wi mn tp tc sc nf fd me mp xn mt wh tq ag an ig))] H := hP
            have hD : va_D A [(h0, .inr (10, mob q rf n mm mb u6.1 u6.2 av ev wi mn tp tc sc nf fd me mp xn mt wh tq ag an ig))] := hD
            refine lv_iload_n hx hb d_Mod_skip_87 rfl (lv_at hl 0 rfl) ?_
            exact tw_iret E hS (u6.1, u6.2, av) (⟨rfl, (fun h => absurd h h67), (by first | omega | (dsimp only <;> omega)), (by first | omega | (dsimp only <;> omega)), (fun h => absurd h h67)⟩) hP hD d_Mod_skip_88
          · exact absurd h67 hp6_0
        · refine lv_aload_n hx hb d_Mod_skip_48 rfl (lv_at hl 1 rfl) ?_
          refine va_get (D := g.1) (ci := 10) (v := .int wi) (C := R_Mod) (T := F_Mod) (N := 61) hx hb hts in_Mod hown hK hP 0 rfl rfl 12 (by decide) (hts _ wd_1262) (fun _ h9 => h9) rfl d_Mod_skip_49 ?_
          refine lv_goto (tgt := 59) hx hb d_Mod_skip_52 (by decide) ?_
          refine tw_wv (wr := []) (tw_runV (ws := [(h0, .inr (10, mob q rf n mm mb fa fp av ev wi mn tp tc sc nf fd me mp xn mt wh tq ag an ig))]) (wc := [(h0, .inr (10, mob q rf n mm mb fa fp av ev wi mn tp tc sc nf fd me mp xn mt wh tq ag an ig))]) (As := [.int 8, .int wi]) (rest := []) E hB hK hZ (g_Mod_fail l g H.size h0 q rf n mm mb av ev wi mn tp tc sc nf fd me mp xn mt wh tq ag an ig fa fp 8 wi (by decide)) mc_Mod_fail mi_Mod_fail me_Mod_fail wd_1478 hP hD hS hA [0] rfl (by decide) 0 rfl rfl rfl rfl rfl (by decide) rfl hl.1 rfl (Nat.le_of_ble_eq_true rfl) (by decide) d_Mod_skip_59) hP hD hS hA [0] [] rfl rfl (by decide) (by decide) (fun u8 H locs hr7 hP hD hS => ?_)
          try dsimp only at hr7
          have hP : va_P g.1 classes [(h0, .inr (10, mob q rf n mm mb u8.1 u8.2 av ev wi mn tp tc sc nf fd me mp xn mt wh tq ag an ig))] H := hP
          have hD : va_D A [(h0, .inr (10, mob q rf n mm mb u8.1 u8.2 av ev wi mn tp tc sc nf fd me mp xn mt wh tq ag an ig))] := hD
          have hP : va_P g.1 classes [(h0, .inr (10, mob q rf n mm mb u8.1 u8.2 av ev wi mn tp tc sc nf fd me mp xn mt wh tq ag an ig))] H := hP.sub [0] rfl
          have hD : va_D A [(h0, .inr (10, mob q rf n mm mb u8.1 u8.2 av ev wi mn tp tc sc nf fd me mp xn mt wh tq ag an ig))] := hD.sub [0] (by decide) rfl
          have hp8_0 := hr7
          refine lv_aload_n hx hb d_Mod_skip_62 rfl (lv_at hl 1 rfl) ?_
          refine lv_aload_n hx hb d_Mod_skip_63 rfl (lv_at hl 1 rfl) ?_
          refine va_get (D := g.1) (ci := 10) (v := .int u8.1) (C := R_Mod) (T := F_Mod) (N := 61) hx hb hts in_Mod hown hK hP 0 rfl rfl 8 (by decide) (hts _ wd_1258) (fun _ h9 => h9) rfl d_Mod_skip_64 ?_
          refine lv_if_ne (tgt := 80) hx hb d_Mod_skip_67 (by decide) (fun h67 => ?_) (fun h67 => ?_)
          · refine lv_aload_n hx hb d_Mod_skip_80 rfl (lv_at hl 1 rfl) ?_
            refine va_get (D := g.1) (ci := 10) (v := .int (nI av)) (C := R_Mod) (T := F_Mod) (N := 61) hx hb hts in_Mod hown hK hP 0 rfl rfl 10 (by decide) (hts _ wd_1260) (fun _ h9 => h9) rfl d_Mod_skip_81 ?_
            refine va_put (D := g.1) (ci := 10) (v := .int (nI av)) (ty := .int) (C := R_Mod) (T := F_Mod) (N := 61) hx hb hts in_Mod t_Mod t_Mod_ok n_Mod hown hK hP hD hS 0 rfl rfl 10 (by decide) (hts _ wd_1260) (fun _ h9 => h9) rfl (t_Mod_ok 10 (by decide)) rfl rfl (Nat.le_of_ble_eq_true rfl) d_Mod_skip_84 (fun H locs hP hD hS => ?_)
            have hP : va_P g.1 classes [(h0, .inr (10, mob q rf n mm mb u8.1 u8.2 av ev wi mn tp tc sc nf fd me mp xn mt wh tq ag an ig))] H := hP
            have hD : va_D A [(h0, .inr (10, mob q rf n mm mb u8.1 u8.2 av ev wi mn tp tc sc nf fd me mp xn mt wh tq ag an ig))] := hD
            refine lv_iload_n hx hb d_Mod_skip_87 rfl (lv_at hl 0 rfl) ?_
            exact tw_iret E hS (u8.1, u8.2, av) (⟨rfl, (fun h => absurd h h67), (by first | omega | (dsimp only <;> omega)), (by first | omega | (dsimp only <;> omega)), (fun h => absurd h h67)⟩) hP hD d_Mod_skip_88
          · exact absurd h67 hp8_0
set_option maxHeartbeats 4000000 in
set_option maxRecDepth 100000 in
theorem g_Mod_isTagI (l : Launch) (g : tw_G) (sz : Nat) (h0 : Nat) (q : Nat → Nat) (rf : Int32) (n : Nat) (mm : Int32) (mb : Int32) (fa : Int32) (fp : Int32) (av : Nat) (ev : Nat) (wi : Int32) (mn : Nat) (tp : Int32) (tc : Int32) (sc : Int32) (nf : Nat) (fd : Nat) (me : Nat) (mp : Int32) (xn : Nat) (mt : Nat) (wh : Nat) (tq : Nat) (ag : Nat) (an : Int32) (ig : Int32) (tg : Nat → Int32) (k : Int32) (t : Int32) (hmn : mn ≤ 620) : Met l y_Mod_isTag [.code y_Mod_isTag b_Mod_isTag 3 (some .boolean)] ({ frames := 0, cells := 0, slots := 0, locals := 0 }) (tw_P g [.ref h0, .int k, .int t] [(h0, .inr (10, mob q rf n mm mb fa fp av ev wi mn tp tc sc nf fd me mp xn mt wh tq ag an ig)), ((q 14), aI g 620 tg)] sz) (vp_Si (fun (r : Int32) => (r = 0 ∨ r = 1) ∧ (r = 1 → ∃ j, 0 < j ∧ j < mn ∧ k = nI j ∧ tg j = t))) 0 0 (fun _ => False) := by
  refine tw_met (l := l) (g := g) (y := y_Mod_isTag) (cc := b_Mod_isTag) (maxL := 3) (ret := (some .boolean)) (rm := { frames := 0, cells := 0, slots := 0, locals := 0 }) (mc := 0) (ms := 0) (av := [.ref h0, .int k, .int t]) (ws := [(h0, .inr (10, mob q rf n mm mb fa fp av ev wi mn tp tc sc nf fd me mp xn mt wh tq ag an ig)), ((q 14), aI g 620 tg)]) (sz := sz) (Qc := fun _ => (vp_Si (fun (r : Int32) => (r = 0 ∨ r = 1) ∧ (r = 1 → ∃ j, 0 < j ∧ j < mn ∧ k = nI j ∧ tg j = t)))) (free := fun _ _ => False) (by decide) (Nat.le_of_ble_eq_true rfl) ?_
  intro p e s m below meth c ls A E hB hK hZ hP hD hS hA hl
  obtain ⟨hx, hb, hml, hr, hown, hts, hlocks, hin⟩ := id E
  have hl : lv_has ls 3 [(0, .ref h0), (1, .int k), (2, .int t)] := hl
  refine lv_iload_n hx hb d_Mod_isTag_0 rfl (lv_at hl 1 rfl) ?_
  refine lv_if_le (tgt := 26) hx hb d_Mod_isTag_1 (by decide) (fun h1 => ?_) (fun h1 => ?_)
  · refine lv_iconst (v := 0) hx hb d_Mod_isTag_26 (by decide) ?_
    exact tw_zsret E (by decide) (⟨Or.inl rfl, fun h => absurd h (by decide)⟩) d_Mod_isTag_27
  · refine lv_iload_n hx hb d_Mod_isTag_4 rfl (lv_at hl 1 rfl) ?_
    refine lv_aload_n hx hb d_Mod_isTag_5 rfl (lv_at hl 0 rfl) ?_
    refine va_get (D := g.1) (ci := 10) (v := .int (nI mn)) (C := R_Mod) (T := F_Mod) (N := 61) hx hb hts in_Mod hown hK hP 0 rfl rfl 13 (by decide) (hts _ wd_1263) (fun _ h9 => h9) rfl d_Mod_isTag_6 ?_
    refine lv_icmp_ge (tgt := 26) hx hb d_Mod_isTag_9 (by decide) (fun h9 => ?_) (fun h9 => ?_)
    · refine lv_iconst (v := 0) hx hb d_Mod_isTag_26 (by decide) ?_
      exact tw_zsret E (by decide) (⟨Or.inl rfl, fun h => absurd h (by decide)⟩) d_Mod_isTag_27
    · obtain ⟨j, hj, hje⟩ := nI_of (fun h => h1 (Int32.le_of_lt h))
      subst hje
      have h1 := tn_nle (b := 0) h1 hj (by decide)
      have h9 := tn_nle h9 (by omega) hj
      refine lv_aload_n hx hb d_Mod_isTag_12 rfl (lv_at hl 0 rfl) ?_
      refine va_get (D := g.1) (ci := 10) (v := .ref (q 14)) (C := R_Mod) (T := F_Mod) (N := 61) hx hb hts in_Mod hown hK hP 0 rfl rfl 14 (by decide) (hts _ wd_1264) (fun _ h9 => h9) rfl d_Mod_isTag_13 ?_
      refine lv_iload_n hx hb d_Mod_isTag_16 rfl (lv_at hl 1 rfl) ?_
      refine va_iald hx hb hK hP 1 0 rfl rfl (vp_in_nI (by omega) (by decide)) d_Mod_isTag_17 ?_
      refine tw_ri (e2 := tg j) (by rw [nI_clamp (by omega)]) ?_
      refine lv_iload_n hx hb d_Mod_isTag_18 rfl (lv_at hl 2 rfl) ?_
      refine lv_icmp_ne (tgt := 26) hx hb d_Mod_isTag_19 (by decide) (fun h19 => ?_) (fun h19 => ?_)
      · refine lv_iconst (v := 0) hx hb d_Mod_isTag_26 (by decide) ?_
        exact tw_zsret E (by decide) (⟨Or.inl rfl, fun h => absurd h (by decide)⟩) d_Mod_isTag_27
      · refine lv_iconst (v := 1) hx hb d_Mod_isTag_22 (by decide) ?_
        refine lv_goto (tgt := 27) hx hb d_Mod_isTag_23 (by decide) ?_
        exact tw_zsret E (by decide) (⟨Or.inr rfl, fun _ => ⟨j, h1, h9, rfl, h19⟩⟩) d_Mod_isTag_27
set_option maxHeartbeats 4000000 in
set_option maxRecDepth 100000 in
theorem g_Mod_isTagN (l : Launch) (g : tw_G) (sz : Nat) (h0 : Nat) (q : Nat → Nat) (rf : Int32) (n : Nat) (mm : Int32) (mb : Int32) (fa : Int32) (fp : Int32) (av : Nat) (ev : Nat) (wi : Int32) (mn : Nat) (tp : Int32) (tc : Int32) (sc : Int32) (nf : Nat) (fd : Nat) (me : Nat) (mp : Int32) (xn : Nat) (mt : Nat) (wh : Nat) (tq : Nat) (ag : Nat) (an : Int32) (ig : Int32) (tg : Nat → Int32) (k : Nat) (t : Int32) (hmn : mn ≤ 620) (hk31 : k < 2147483648) : Met l y_Mod_isTag [.code y_Mod_isTag b_Mod_isTag 3 (some .boolean)] ({ frames := 0, cells := 0, slots := 0, locals := 0 }) (tw_P g [.ref h0, .int (nI k), .int t] [(h0, .inr (10, mob q rf n mm mb fa fp av ev wi mn tp tc sc nf fd me mp xn mt wh tq ag an ig)), ((q 14), aI g 620 tg)] sz) (vp_Si (fun (r : Int32) => (r = 0 ∨ r = 1) ∧ (r = 1 → 0 < k ∧ k < mn ∧ tg k = t))) 0 0 (fun _ => False) := by
  refine tw_met (l := l) (g := g) (y := y_Mod_isTag) (cc := b_Mod_isTag) (maxL := 3) (ret := (some .boolean)) (rm := { frames := 0, cells := 0, slots := 0, locals := 0 }) (mc := 0) (ms := 0) (av := [.ref h0, .int (nI k), .int t]) (ws := [(h0, .inr (10, mob q rf n mm mb fa fp av ev wi mn tp tc sc nf fd me mp xn mt wh tq ag an ig)), ((q 14), aI g 620 tg)]) (sz := sz) (Qc := fun _ => (vp_Si (fun (r : Int32) => (r = 0 ∨ r = 1) ∧ (r = 1 → 0 < k ∧ k < mn ∧ tg k = t)))) (free := fun _ _ => False) (by decide) (Nat.le_of_ble_eq_true rfl) ?_
  intro p e s m below meth c ls A E hB hK hZ hP hD hS hA hl
  obtain ⟨hx, hb, hml, hr, hown, hts, hlocks, hin⟩ := id E
  have hl : lv_has ls 3 [(0, .ref h0), (1, .int (nI k)), (2, .int t)] := hl
  refine lv_iload_n hx hb d_Mod_isTag_0 rfl (lv_at hl 1 rfl) ?_
  refine lv_if_le (tgt := 26) hx hb d_Mod_isTag_1 (by decide) (fun h1 => ?_) (fun h1 => ?_)
  · refine lv_iconst (v := 0) hx hb d_Mod_isTag_26 (by decide) ?_
    exact tw_zsret E (by decide) (⟨Or.inl rfl, fun h => absurd h (by decide)⟩) d_Mod_isTag_27
  · have h1 := tn_nle (b := 0) h1 hk31 (by decide)
    refine lv_iload_n hx hb d_Mod_isTag_4 rfl (lv_at hl 1 rfl) ?_
    refine lv_aload_n hx hb d_Mod_isTag_5 rfl (lv_at hl 0 rfl) ?_
    refine va_get (D := g.1) (ci := 10) (v := .int (nI mn)) (C := R_Mod) (T := F_Mod) (N := 61) hx hb hts in_Mod hown hK hP 0 rfl rfl 13 (by decide) (hts _ wd_1263) (fun _ h9 => h9) rfl d_Mod_isTag_6 ?_
    refine lv_icmp_ge (tgt := 26) hx hb d_Mod_isTag_9 (by decide) (fun h9 => ?_) (fun h9 => ?_)
    · refine lv_iconst (v := 0) hx hb d_Mod_isTag_26 (by decide) ?_
      exact tw_zsret E (by decide) (⟨Or.inl rfl, fun h => absurd h (by decide)⟩) d_Mod_isTag_27
    · have h9 := tn_nle h9 (by omega) hk31
      refine lv_aload_n hx hb d_Mod_isTag_12 rfl (lv_at hl 0 rfl) ?_
      refine va_get (D := g.1) (ci := 10) (v := .ref (q 14)) (C := R_Mod) (T := F_Mod) (N := 61) hx hb hts in_Mod hown hK hP 0 rfl rfl 14 (by decide) (hts _ wd_1264) (fun _ h9 => h9) rfl d_Mod_isTag_13 ?_
      refine lv_iload_n hx hb d_Mod_isTag_16 rfl (lv_at hl 1 rfl) ?_
      refine va_iald hx hb hK hP 1 0 rfl rfl (vp_in_nI (by omega) (by decide)) d_Mod_isTag_17 ?_
      refine tw_ri (e2 := tg k) (by rw [nI_clamp (by omega)]) ?_
      refine lv_iload_n hx hb d_Mod_isTag_18 rfl (lv_at hl 2 rfl) ?_
      refine lv_icmp_ne (tgt := 26) hx hb d_Mod_isTag_19 (by decide) (fun h19 => ?_) (fun h19 => ?_)
      · refine lv_iconst (v := 0) hx hb d_Mod_isTag_26 (by decide) ?_
        exact tw_zsret E (by decide) (⟨Or.inl rfl, fun h => absurd h (by decide)⟩) d_Mod_isTag_27
      · refine lv_iconst (v := 1) hx hb d_Mod_isTag_22 (by decide) ?_
        refine lv_goto (tgt := 27) hx hb d_Mod_isTag_23 (by decide) ?_
        exact tw_zsret E (by decide) (⟨Or.inr rfl, fun _ => ⟨h1, h9, h19⟩⟩) d_Mod_isTag_27
