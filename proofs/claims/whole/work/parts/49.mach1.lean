set_option maxHeartbeats 4000000 in
set_option maxRecDepth 100000 in
theorem s_Machine_take (l : Launch) (g : tw_G) (sz : Nat) (mh s0 l0 t0 : Nat) (lay : Value) (de : Nat) (ms : Nat) (ml : Nat) (mt : Nat) (an : Int32) (oa : Int32) (wd : Int32) (sk : Nat → Int32) (lc : Nat → Int32) (lt : Nat → Int32) (a : Int32) (hM : MI de ms ml mt wd sk) : Met l y_Machine_take [.code y_Machine_take b_Machine_take 2 (some .int)] ({ frames := 0, cells := 0, slots := 0, locals := 0 }) (tw_P g [.ref mh, .int a] [(mh, .inr (5, [.ref s0, .ref l0, .ref t0, lay, .int (nI de), .int (nI ms), .int (nI ml), .int (nI mt), .int an, .int oa, .int wd])), (s0, aI g 64 sk), (l0, aI g 64 lc), (t0, aI g 600 lt)] sz) (tw_Qi g (fun r (u : Nat × Nat × Nat × Nat × Int32 × Int32 × Int32 × (Nat → Int32) × (Nat → Int32) × (Nat → Int32)) => True ∧ MI u.1 u.2.1 u.2.2.1 u.2.2.2.1 u.2.2.2.2.2.2.1 u.2.2.2.2.2.2.2.1 ∧ u.2.2.2.2.2.2.1 = wd ∧ (r = 0 → ¬ a = 0)) (fun u : Nat × Nat × Nat × Nat × Int32 × Int32 × Int32 × (Nat → Int32) × (Nat → Int32) × (Nat → Int32) => [(mh, .inr (5, [.ref s0, .ref l0, .ref t0, lay, .int (nI u.1), .int (nI u.2.1), .int (nI u.2.2.1), .int (nI u.2.2.2.1), .int u.2.2.2.2.1, .int u.2.2.2.2.2.1, .int u.2.2.2.2.2.2.1])), (s0, aI g 64 u.2.2.2.2.2.2.2.1), (l0, aI g 64 u.2.2.2.2.2.2.2.2.1), (t0, aI g 600 u.2.2.2.2.2.2.2.2.2)]) (va_A [(mh, .inr (5, [.ref s0, .ref l0, .ref t0, lay, .int (nI de), .int (nI ms), .int (nI ml), .int (nI mt), .int an, .int oa, .int wd])), (s0, aI g 64 sk), (l0, aI g 64 lc), (t0, aI g 600 lt)] sz)) 0 0 (va_A [(mh, .inr (5, [.ref s0, .ref l0, .ref t0, lay, .int (nI de), .int (nI ms), .int (nI ml), .int (nI mt), .int an, .int oa, .int wd])), (s0, aI g 64 sk), (l0, aI g 64 lc), (t0, aI g 600 lt)] sz) := by
  refine tw_metW (l := l) (g := g) (y := y_Machine_take) (cc := b_Machine_take) (maxL := 2) (ret := (some .int)) (rm := { frames := 0, cells := 0, slots := 0, locals := 0 }) (mc := 0) (ms := 0) (av := [.ref mh, .int a]) (ws := [(mh, .inr (5, [.ref s0, .ref l0, .ref t0, lay, .int (nI de), .int (nI ms), .int (nI ml), .int (nI mt), .int an, .int oa, .int wd])), (s0, aI g 64 sk), (l0, aI g 64 lc), (t0, aI g 600 lt)]) (sz := sz) (Qc := fun A => (tw_Qi g (fun r (u : Nat × Nat × Nat × Nat × Int32 × Int32 × Int32 × (Nat → Int32) × (Nat → Int32) × (Nat → Int32)) => True ∧ MI u.1 u.2.1 u.2.2.1 u.2.2.2.1 u.2.2.2.2.2.2.1 u.2.2.2.2.2.2.2.1 ∧ u.2.2.2.2.2.2.1 = wd ∧ (r = 0 → ¬ a = 0)) (fun u : Nat × Nat × Nat × Nat × Int32 × Int32 × Int32 × (Nat → Int32) × (Nat → Int32) × (Nat → Int32) => [(mh, .inr (5, [.ref s0, .ref l0, .ref t0, lay, .int (nI u.1), .int (nI u.2.1), .int (nI u.2.2.1), .int (nI u.2.2.2.1), .int u.2.2.2.2.1, .int u.2.2.2.2.2.1, .int u.2.2.2.2.2.2.1])), (s0, aI g 64 u.2.2.2.2.2.2.2.1), (l0, aI g 64 u.2.2.2.2.2.2.2.2.1), (t0, aI g 600 u.2.2.2.2.2.2.2.2.2)]) A)) (by decide) (Nat.le_of_ble_eq_true rfl) ?_
  intro p e s m below meth c ls H A E hB hK hZ hP hD hS hA hl
  obtain ⟨hx, hb, hml, hr, hown, hts, hlocks, hin⟩ := id E
  have hl : lv_has ls 2 [(0, .ref mh), (1, .int a)] := hl
  refine lv_iload_n hx hb d_Machine_take_0 rfl (lv_at hl 1 rfl) ?_
  refine lv_if_ne (tgt := 7) hx hb d_Machine_take_1 (by decide) (fun h1 => ?_) (fun h1 => ?_)
  · refine lv_aload_n hx hb d_Machine_take_7 rfl (lv_at hl 0 rfl) ?_
    refine va_get (D := g.1) (ci := 5) (v := .int (nI de)) (C := R_Machine) (T := F_Machine) (N := 11) hx hb hts in_Machine hown hK hP 0 rfl rfl 4 (by decide) (hts _ wd_148) (fun _ h9 => h9) rfl d_Machine_take_8 ?_
    refine lv_if_ne (tgt := 17) hx hb d_Machine_take_11 (by decide) (fun h11 => ?_) (fun h11 => ?_)
    · have h11 := tn_ne (b := 0) h11
      refine lv_aload_n hx hb d_Machine_take_17 rfl (lv_at hl 0 rfl) ?_
      refine va_get (D := g.1) (ci := 5) (v := .ref s0) (C := R_Machine) (T := F_Machine) (N := 11) hx hb hts in_Machine hown hK hP 0 rfl rfl 0 (by decide) (hts _ wd_142) (fun _ h9 => h9) rfl d_Machine_take_18 ?_
      refine lv_aload_n hx hb d_Machine_take_21 rfl (lv_at hl 0 rfl) ?_
      refine va_get (D := g.1) (ci := 5) (v := .int (nI de)) (C := R_Machine) (T := F_Machine) (N := 11) hx hb hts in_Machine hown hK hP 0 rfl rfl 4 (by decide) (hts _ wd_148) (fun _ h9 => h9) rfl d_Machine_take_22 ?_
      refine lv_iconst (v := 1) hx hb d_Machine_take_25 (by decide) ?_
      refine lv_isub hx hb d_Machine_take_26 ?_
      refine tw_ri (e2 := nI (de - 1)) (pk_sub (b := 1) (by omega)) ?_
      refine va_iald hx hb hK hP 1 0 rfl rfl (vp_in_nI (by have := hM.de; omega) (by decide)) d_Machine_take_27 ?_
      refine tw_ri (e2 := sk (de - 1)) (by rw [nI_clamp (by have := hM.de; omega)]) ?_
      refine lv_iload_n hx hb d_Machine_take_28 rfl (lv_at hl 1 rfl) ?_
      refine lv_iconst (v := 2) hx hb d_Machine_take_29 (by decide) ?_
      refine lv_icmp_ne (tgt := 37) hx hb d_Machine_take_30 (by decide) (fun h30 => ?_) (fun h30 => ?_)
      · refine lv_iload_n hx hb d_Machine_take_37 rfl (lv_at hl 1 rfl) ?_
        refine lv_icmp_eq (tgt := 44) hx hb d_Machine_take_38 (by decide) (fun h38 => ?_) (fun h38 => ?_)
        · refine lv_aload_n hx hb d_Machine_take_44 rfl (lv_at hl 0 rfl) ?_
          refine lv_dup hx hb d_Machine_take_45 rfl ?_
          refine va_get (D := g.1) (ci := 5) (v := .int (nI de)) (C := R_Machine) (T := F_Machine) (N := 11) hx hb hts in_Machine hown hK hP 0 rfl rfl 4 (by decide) (hts _ wd_148) (fun _ h9 => h9) rfl d_Machine_take_46 ?_
          refine lv_iload_n hx hb d_Machine_take_49 rfl (lv_at hl 1 rfl) ?_
          refine lv_iconst (v := 2) hx hb d_Machine_take_50 (by decide) ?_
          refine lv_icmp_ne (tgt := 58) hx hb d_Machine_take_51 (by decide) (fun h51 => ?_) (fun h51 => ?_)
          · refine lv_iconst (v := 1) hx hb d_Machine_take_58 (by decide) ?_
            refine lv_isub hx hb d_Machine_take_59 ?_
            refine tw_ri (e2 := nI (de - 1)) (pk_sub (b := 1) (by omega)) ?_
            refine va_put (D := g.1) (ci := 5) (v := .int (nI (de - 1))) (ty := .int) (C := R_Machine) (T := F_Machine) (N := 11) hx hb hts in_Machine t_Machine t_Machine_ok n_Machine hown hK hP hD hS 0 rfl rfl 4 (by decide) (hts _ wd_148) (fun _ h9 => h9) rfl (t_Machine_ok 4 (by decide)) rfl rfl (Nat.le_of_ble_eq_true rfl) d_Machine_take_60 (fun H locs hP hD hS => ?_)
            have hP : va_P g.1 classes [(mh, .inr (5, [.ref s0, .ref l0, .ref t0, lay, .int (nI (de - 1)), .int (nI ms), .int (nI ml), .int (nI mt), .int an, .int oa, .int wd])), (s0, aI g 64 sk), (l0, aI g 64 lc), (t0, aI g 600 lt)] H := hP
            have hD : va_D A [(mh, .inr (5, [.ref s0, .ref l0, .ref t0, lay, .int (nI (de - 1)), .int (nI ms), .int (nI ml), .int (nI mt), .int an, .int oa, .int wd])), (s0, aI g 64 sk), (l0, aI g 64 lc), (t0, aI g 600 lt)] := hD
            refine lv_iconst (v := 0) hx hb d_Machine_take_63 (by decide) ?_
            exact tw_iret E hS (de - 1, ms, ml, mt, an, oa, wd, sk, lc, lt) ⟨trivial, hM.less (by omega), rfl, (fun _ => h1)⟩ hP hD d_Machine_take_64
          · exact absurd h51 h30
        · refine lv_bipush (v := 23) hx hb d_Machine_take_41 (by decide) ?_
          exact tw_iret E hS (de, ms, ml, mt, an, oa, wd, sk, lc, lt) ⟨trivial, hM, rfl, (fun h => absurd h (by decide))⟩ hP hD d_Machine_take_43
      · refine lv_iconst (v := 3) hx hb d_Machine_take_33 (by decide) ?_
        refine lv_goto (tgt := 38) hx hb d_Machine_take_34 (by decide) ?_
        refine lv_icmp_eq (tgt := 44) hx hb d_Machine_take_38 (by decide) (fun h38 => ?_) (fun h38 => ?_)
        · refine lv_aload_n hx hb d_Machine_take_44 rfl (lv_at hl 0 rfl) ?_
          refine lv_dup hx hb d_Machine_take_45 rfl ?_
          refine va_get (D := g.1) (ci := 5) (v := .int (nI de)) (C := R_Machine) (T := F_Machine) (N := 11) hx hb hts in_Machine hown hK hP 0 rfl rfl 4 (by decide) (hts _ wd_148) (fun _ h9 => h9) rfl d_Machine_take_46 ?_
          refine lv_iload_n hx hb d_Machine_take_49 rfl (lv_at hl 1 rfl) ?_
          refine lv_iconst (v := 2) hx hb d_Machine_take_50 (by decide) ?_
          refine lv_icmp_ne (tgt := 58) hx hb d_Machine_take_51 (by decide) (fun h51 => ?_) (fun h51 => ?_)
          · exact absurd h30 h51
          · refine lv_iconst (v := 2) hx hb d_Machine_take_54 (by decide) ?_
            refine lv_goto (tgt := 59) hx hb d_Machine_take_55 (by decide) ?_
            refine lv_isub hx hb d_Machine_take_59 ?_
            refine tw_ri (e2 := nI (de - 2)) (pk_sub (b := 2) (hM.two h11 h38)) ?_
            refine va_put (D := g.1) (ci := 5) (v := .int (nI (de - 2))) (ty := .int) (C := R_Machine) (T := F_Machine) (N := 11) hx hb hts in_Machine t_Machine t_Machine_ok n_Machine hown hK hP hD hS 0 rfl rfl 4 (by decide) (hts _ wd_148) (fun _ h9 => h9) rfl (t_Machine_ok 4 (by decide)) rfl rfl (Nat.le_of_ble_eq_true rfl) d_Machine_take_60 (fun H locs hP hD hS => ?_)
            have hP : va_P g.1 classes [(mh, .inr (5, [.ref s0, .ref l0, .ref t0, lay, .int (nI (de - 2)), .int (nI ms), .int (nI ml), .int (nI mt), .int an, .int oa, .int wd])), (s0, aI g 64 sk), (l0, aI g 64 lc), (t0, aI g 600 lt)] H := hP
            have hD : va_D A [(mh, .inr (5, [.ref s0, .ref l0, .ref t0, lay, .int (nI (de - 2)), .int (nI ms), .int (nI ml), .int (nI mt), .int an, .int oa, .int wd])), (s0, aI g 64 sk), (l0, aI g 64 lc), (t0, aI g 600 lt)] := hD
            refine lv_iconst (v := 0) hx hb d_Machine_take_63 (by decide) ?_
            exact tw_iret E hS (de - 2, ms, ml, mt, an, oa, wd, sk, lc, lt) ⟨trivial, hM.less (by omega), rfl, (fun _ => h1)⟩ hP hD d_Machine_take_64
        · refine lv_bipush (v := 23) hx hb d_Machine_take_41 (by decide) ?_
          exact tw_iret E hS (de, ms, ml, mt, an, oa, wd, sk, lc, lt) ⟨trivial, hM, rfl, (fun h => absurd h (by decide))⟩ hP hD d_Machine_take_43
    · refine lv_bipush (v := 22) hx hb d_Machine_take_14 (by decide) ?_
      exact tw_iret E hS (de, ms, ml, mt, an, oa, wd, sk, lc, lt) ⟨trivial, hM, rfl, (fun h => absurd h (by decide))⟩ hP hD d_Machine_take_16
  · refine lv_bipush (v := 23) hx hb d_Machine_take_4 (by decide) ?_
    exact tw_iret E hS (de, ms, ml, mt, an, oa, wd, sk, lc, lt) ⟨trivial, hM, rfl, (fun h => absurd h (by decide))⟩ hP hD d_Machine_take_6
set_option maxHeartbeats 4000000 in
set_option maxRecDepth 100000 in
theorem s_Machine_push (l : Launch) (g : tw_G) (sz : Nat) (mh s0 l0 t0 : Nat) (lay : Value) (de : Nat) (ms : Nat) (ml : Nat) (mt : Nat) (an : Int32) (oa : Int32) (wd : Int32) (sk : Nat → Int32) (lc : Nat → Int32) (lt : Nat → Int32) (a : Int32) (hM : MI de ms ml mt wd sk) (ha : ∃ k, k < 16 ∧ a = nI k) (ha3 : ¬ a = 3) : Met l y_Machine_push [.code y_Machine_push b_Machine_push 3 (some .int)] ({ frames := 0, cells := 0, slots := 0, locals := 0 }) (tw_P g [.ref mh, .int a] [(mh, .inr (5, [.ref s0, .ref l0, .ref t0, lay, .int (nI de), .int (nI ms), .int (nI ml), .int (nI mt), .int an, .int oa, .int wd])), (s0, aI g 64 sk), (l0, aI g 64 lc), (t0, aI g 600 lt)] sz) (tw_Qi g (fun r (u : Nat × Nat × Nat × Nat × Int32 × Int32 × Int32 × (Nat → Int32) × (Nat → Int32) × (Nat → Int32)) => True ∧ MI u.1 u.2.1 u.2.2.1 u.2.2.2.1 u.2.2.2.2.2.2.1 u.2.2.2.2.2.2.2.1) (fun u : Nat × Nat × Nat × Nat × Int32 × Int32 × Int32 × (Nat → Int32) × (Nat → Int32) × (Nat → Int32) => [(mh, .inr (5, [.ref s0, .ref l0, .ref t0, lay, .int (nI u.1), .int (nI u.2.1), .int (nI u.2.2.1), .int (nI u.2.2.2.1), .int u.2.2.2.2.1, .int u.2.2.2.2.2.1, .int u.2.2.2.2.2.2.1])), (s0, aI g 64 u.2.2.2.2.2.2.2.1), (l0, aI g 64 u.2.2.2.2.2.2.2.2.1), (t0, aI g 600 u.2.2.2.2.2.2.2.2.2)]) (va_A [(mh, .inr (5, [.ref s0, .ref l0, .ref t0, lay, .int (nI de), .int (nI ms), .int (nI ml), .int (nI mt), .int an, .int oa, .int wd])), (s0, aI g 64 sk), (l0, aI g 64 lc), (t0, aI g 600 lt)] sz)) 0 0 (va_A [(mh, .inr (5, [.ref s0, .ref l0, .ref t0, lay, .int (nI de), .int (nI ms), .int (nI ml), .int (nI mt), .int an, .int oa, .int wd])), (s0, aI g 64 sk), (l0, aI g 64 lc), (t0, aI g 600 lt)] sz) := by
  refine tw_metW (l := l) (g := g) (y := y_Machine_push) (cc := b_Machine_push) (maxL := 3) (ret := (some .int)) (rm := { frames := 0, cells := 0, slots := 0, locals := 0 }) (mc := 0) (ms := 0) (av := [.ref mh, .int a]) (ws := [(mh, .inr (5, [.ref s0, .ref l0, .ref t0, lay, .int (nI de), .int (nI ms), .int (nI ml), .int (nI mt), .int an, .int oa, .int wd])), (s0, aI g 64 sk), (l0, aI g 64 lc), (t0, aI g 600 lt)]) (sz := sz) (Qc := fun A => (tw_Qi g (fun r (u : Nat × Nat × Nat × Nat × Int32 × Int32 × Int32 × (Nat → Int32) × (Nat → Int32) × (Nat → Int32)) => True ∧ MI u.1 u.2.1 u.2.2.1 u.2.2.2.1 u.2.2.2.2.2.2.1 u.2.2.2.2.2.2.2.1) (fun u : Nat × Nat × Nat × Nat × Int32 × Int32 × Int32 × (Nat → Int32) × (Nat → Int32) × (Nat → Int32) => [(mh, .inr (5, [.ref s0, .ref l0, .ref t0, lay, .int (nI u.1), .int (nI u.2.1), .int (nI u.2.2.1), .int (nI u.2.2.2.1), .int u.2.2.2.2.1, .int u.2.2.2.2.2.1, .int u.2.2.2.2.2.2.1])), (s0, aI g 64 u.2.2.2.2.2.2.2.1), (l0, aI g 64 u.2.2.2.2.2.2.2.2.1), (t0, aI g 600 u.2.2.2.2.2.2.2.2.2)]) A)) (by decide) (Nat.le_of_ble_eq_true rfl) ?_
  intro p e s m below meth c ls H A E hB hK hZ hP hD hS hA hl
  obtain ⟨hx, hb, hml, hr, hown, hts, hlocks, hin⟩ := id E
  have hl : lv_has ls 3 [(0, .ref mh), (1, .int a)] := hl
  refine lv_iload_n hx hb d_Machine_push_0 rfl (lv_at hl 1 rfl) ?_
  refine lv_if_ne (tgt := 7) hx hb d_Machine_push_1 (by decide) (fun h1 => ?_) (fun h1 => ?_)
  · refine lv_iload_n hx hb d_Machine_push_7 rfl (lv_at hl 1 rfl) ?_
    refine lv_iconst (v := 2) hx hb d_Machine_push_8 (by decide) ?_
    refine lv_icmp_ne (tgt := 16) hx hb d_Machine_push_9 (by decide) (fun h9 => ?_) (fun h9 => ?_)
    · refine lv_iconst (v := 1) hx hb d_Machine_push_16 (by decide) ?_
      refine lv_istore_n hx hb d_Machine_push_17 rfl hl (by decide) rfl (fun ls hl => ?_)
      have hl : lv_has ls 3 [(2, .int 1), (0, .ref mh), (1, .int a)] := hl
      refine lv_aload_n hx hb d_Machine_push_18 rfl (lv_at hl 1 rfl) ?_
      refine va_get (D := g.1) (ci := 5) (v := .int (nI de)) (C := R_Machine) (T := F_Machine) (N := 11) hx hb hts in_Machine hown hK hP 0 rfl rfl 4 (by decide) (hts _ wd_148) (fun _ h9 => h9) rfl d_Machine_push_19 ?_
      refine lv_iload_n hx hb d_Machine_push_22 rfl (lv_at hl 0 rfl) ?_
      refine lv_iadd hx hb d_Machine_push_23 ?_
      refine tw_ri (e2 := nI (de + 1)) (nI_add de 1) ?_
      refine lv_aload_n hx hb d_Machine_push_24 rfl (lv_at hl 1 rfl) ?_
      refine va_get (D := g.1) (ci := 5) (v := .int (nI ms)) (C := R_Machine) (T := F_Machine) (N := 11) hx hb hts in_Machine hown hK hP 0 rfl rfl 5 (by decide) (hts _ wd_151) (fun _ h9 => h9) rfl d_Machine_push_25 ?_
      refine lv_icmp_le (tgt := 34) hx hb d_Machine_push_28 (by decide) (fun h28 => ?_) (fun h28 => ?_)
      · have h28 := tn_le h28 (by have := hM.de; omega) (by have := hM.ms; omega)
        refine lv_aload_n hx hb d_Machine_push_34 rfl (lv_at hl 1 rfl) ?_
        refine va_get (D := g.1) (ci := 5) (v := .ref s0) (C := R_Machine) (T := F_Machine) (N := 11) hx hb hts in_Machine hown hK hP 0 rfl rfl 0 (by decide) (hts _ wd_142) (fun _ h9 => h9) rfl d_Machine_push_35 ?_
        refine lv_aload_n hx hb d_Machine_push_38 rfl (lv_at hl 1 rfl) ?_
        refine va_get (D := g.1) (ci := 5) (v := .int (nI de)) (C := R_Machine) (T := F_Machine) (N := 11) hx hb hts in_Machine hown hK hP 0 rfl rfl 4 (by decide) (hts _ wd_148) (fun _ h9 => h9) rfl d_Machine_push_39 ?_
        refine lv_iload_n hx hb d_Machine_push_42 rfl (lv_at hl 2 rfl) ?_
        refine va_iast hx hb hK hP hD hS 1 0 rfl rfl (vp_in_nI (by have := hM.ms; omega) (by decide)) d_Machine_push_43 (fun H locs hP hD hS => ?_)
        have hP : va_P g.1 classes [(mh, .inr (5, [.ref s0, .ref l0, .ref t0, lay, .int (nI de), .int (nI ms), .int (nI ml), .int (nI mt), .int an, .int oa, .int wd])), (s0, aI g 64 (upd sk (nI de).toNatClampNeg a)), (l0, aI g 64 lc), (t0, aI g 600 lt)] H := hP
        have hD : va_D A [(mh, .inr (5, [.ref s0, .ref l0, .ref t0, lay, .int (nI de), .int (nI ms), .int (nI ml), .int (nI mt), .int an, .int oa, .int wd])), (s0, aI g 64 (upd sk (nI de).toNatClampNeg a)), (l0, aI g 64 lc), (t0, aI g 600 lt)] := hD
        have e9 : upd sk (nI de).toNatClampNeg a = upd sk de a := by rw [nI_clamp (by have := hM.ms; omega)]
        rw [e9] at hP hD
        refine lv_iload_n hx hb d_Machine_push_44 rfl (lv_at hl 2 rfl) ?_
        refine lv_iconst (v := 2) hx hb d_Machine_push_45 (by decide) ?_
        refine lv_icmp_ne (tgt := 61) hx hb d_Machine_push_46 (by decide) (fun h46 => ?_) (fun h46 => ?_)
        · refine lv_aload_n hx hb d_Machine_push_61 rfl (lv_at hl 1 rfl) ?_
          refine lv_dup hx hb d_Machine_push_62 rfl ?_
          refine va_get (D := g.1) (ci := 5) (v := .int (nI de)) (C := R_Machine) (T := F_Machine) (N := 11) hx hb hts in_Machine hown hK hP 0 rfl rfl 4 (by decide) (hts _ wd_148) (fun _ h9 => h9) rfl d_Machine_push_63 ?_
          refine lv_iload_n hx hb d_Machine_push_66 rfl (lv_at hl 0 rfl) ?_
          refine lv_iadd hx hb d_Machine_push_67 ?_
          refine tw_ri (e2 := nI (de + 1)) (nI_add de 1) ?_
          refine va_put (D := g.1) (ci := 5) (v := .int (nI (de + 1))) (ty := .int) (C := R_Machine) (T := F_Machine) (N := 11) hx hb hts in_Machine t_Machine t_Machine_ok n_Machine hown hK hP hD hS 0 rfl rfl 4 (by decide) (hts _ wd_148) (fun _ h9 => h9) rfl (t_Machine_ok 4 (by decide)) rfl rfl (Nat.le_of_ble_eq_true rfl) d_Machine_push_68 (fun H locs hP hD hS => ?_)
          have hP : va_P g.1 classes [(mh, .inr (5, [.ref s0, .ref l0, .ref t0, lay, .int (nI (de + 1)), .int (nI ms), .int (nI ml), .int (nI mt), .int an, .int oa, .int wd])), (s0, aI g 64 (upd sk de a)), (l0, aI g 64 lc), (t0, aI g 600 lt)] H := hP
          have hD : va_D A [(mh, .inr (5, [.ref s0, .ref l0, .ref t0, lay, .int (nI (de + 1)), .int (nI ms), .int (nI ml), .int (nI mt), .int an, .int oa, .int wd])), (s0, aI g 64 (upd sk de a)), (l0, aI g 64 lc), (t0, aI g 600 lt)] := hD
          refine lv_iconst (v := 0) hx hb d_Machine_push_71 (by decide) ?_
          exact tw_iret E hS (de + 1, ms, ml, mt, an, oa, wd, upd sk de a, lc, lt) ⟨trivial, hM.push1 ha ha3 h28⟩ hP hD d_Machine_push_72
        · exact absurd h46 h9
      · refine lv_bipush (v := 22) hx hb d_Machine_push_31 (by decide) ?_
        exact tw_iret E hS (de, ms, ml, mt, an, oa, wd, sk, lc, lt) ⟨trivial, hM⟩ hP hD d_Machine_push_33
    · refine lv_iconst (v := 2) hx hb d_Machine_push_12 (by decide) ?_
      refine lv_goto (tgt := 17) hx hb d_Machine_push_13 (by decide) ?_
      refine lv_istore_n hx hb d_Machine_push_17 rfl hl (by decide) rfl (fun ls hl => ?_)
      have hl : lv_has ls 3 [(2, .int 2), (0, .ref mh), (1, .int a)] := hl
      refine lv_aload_n hx hb d_Machine_push_18 rfl (lv_at hl 1 rfl) ?_
      refine va_get (D := g.1) (ci := 5) (v := .int (nI de)) (C := R_Machine) (T := F_Machine) (N := 11) hx hb hts in_Machine hown hK hP 0 rfl rfl 4 (by decide) (hts _ wd_148) (fun _ h9 => h9) rfl d_Machine_push_19 ?_
      refine lv_iload_n hx hb d_Machine_push_22 rfl (lv_at hl 0 rfl) ?_
      refine lv_iadd hx hb d_Machine_push_23 ?_
      refine tw_ri (e2 := nI (de + 2)) (nI_add de 2) ?_
      refine lv_aload_n hx hb d_Machine_push_24 rfl (lv_at hl 1 rfl) ?_
      refine va_get (D := g.1) (ci := 5) (v := .int (nI ms)) (C := R_Machine) (T := F_Machine) (N := 11) hx hb hts in_Machine hown hK hP 0 rfl rfl 5 (by decide) (hts _ wd_151) (fun _ h9 => h9) rfl d_Machine_push_25 ?_
      refine lv_icmp_le (tgt := 34) hx hb d_Machine_push_28 (by decide) (fun h28 => ?_) (fun h28 => ?_)
      · have h28 := tn_le h28 (by have := hM.de; omega) (by have := hM.ms; omega)
        refine lv_aload_n hx hb d_Machine_push_34 rfl (lv_at hl 1 rfl) ?_
        refine va_get (D := g.1) (ci := 5) (v := .ref s0) (C := R_Machine) (T := F_Machine) (N := 11) hx hb hts in_Machine hown hK hP 0 rfl rfl 0 (by decide) (hts _ wd_142) (fun _ h9 => h9) rfl d_Machine_push_35 ?_
        refine lv_aload_n hx hb d_Machine_push_38 rfl (lv_at hl 1 rfl) ?_
        refine va_get (D := g.1) (ci := 5) (v := .int (nI de)) (C := R_Machine) (T := F_Machine) (N := 11) hx hb hts in_Machine hown hK hP 0 rfl rfl 4 (by decide) (hts _ wd_148) (fun _ h9 => h9) rfl d_Machine_push_39 ?_
        refine lv_iload_n hx hb d_Machine_push_42 rfl (lv_at hl 2 rfl) ?_
        refine va_iast hx hb hK hP hD hS 1 0 rfl rfl (vp_in_nI (by have := hM.ms; omega) (by decide)) d_Machine_push_43 (fun H locs hP hD hS => ?_)
        have hP : va_P g.1 classes [(mh, .inr (5, [.ref s0, .ref l0, .ref t0, lay, .int (nI de), .int (nI ms), .int (nI ml), .int (nI mt), .int an, .int oa, .int wd])), (s0, aI g 64 (upd sk (nI de).toNatClampNeg a)), (l0, aI g 64 lc), (t0, aI g 600 lt)] H := hP
        have hD : va_D A [(mh, .inr (5, [.ref s0, .ref l0, .ref t0, lay, .int (nI de), .int (nI ms), .int (nI ml), .int (nI mt), .int an, .int oa, .int wd])), (s0, aI g 64 (upd sk (nI de).toNatClampNeg a)), (l0, aI g 64 lc), (t0, aI g 600 lt)] := hD
        have e9 : upd sk (nI de).toNatClampNeg a = upd sk de a := by rw [nI_clamp (by have := hM.ms; omega)]
        rw [e9] at hP hD
        refine lv_iload_n hx hb d_Machine_push_44 rfl (lv_at hl 2 rfl) ?_
        refine lv_iconst (v := 2) hx hb d_Machine_push_45 (by decide) ?_
        refine lv_icmp_ne (tgt := 61) hx hb d_Machine_push_46 (by decide) (fun h46 => ?_) (fun h46 => ?_)
        · exact absurd h9 h46
        · refine lv_aload_n hx hb d_Machine_push_49 rfl (lv_at hl 1 rfl) ?_
          refine va_get (D := g.1) (ci := 5) (v := .ref s0) (C := R_Machine) (T := F_Machine) (N := 11) hx hb hts in_Machine hown hK hP 0 rfl rfl 0 (by decide) (hts _ wd_142) (fun _ h9 => h9) rfl d_Machine_push_50 ?_
          refine lv_aload_n hx hb d_Machine_push_53 rfl (lv_at hl 1 rfl) ?_
          refine va_get (D := g.1) (ci := 5) (v := .int (nI de)) (C := R_Machine) (T := F_Machine) (N := 11) hx hb hts in_Machine hown hK hP 0 rfl rfl 4 (by decide) (hts _ wd_148) (fun _ h9 => h9) rfl d_Machine_push_54 ?_
          refine lv_iconst (v := 1) hx hb d_Machine_push_57 (by decide) ?_
          refine lv_iadd hx hb d_Machine_push_58 ?_
          refine tw_ri (e2 := nI (de + 1)) (nI_add de 1) ?_
          refine lv_iconst (v := 3) hx hb d_Machine_push_59 (by decide) ?_
          refine va_iast hx hb hK hP hD hS 1 0 rfl rfl (vp_in_nI (by have := hM.ms; omega) (by decide)) d_Machine_push_60 (fun H locs hP hD hS => ?_)
          have hP : va_P g.1 classes [(mh, .inr (5, [.ref s0, .ref l0, .ref t0, lay, .int (nI de), .int (nI ms), .int (nI ml), .int (nI mt), .int an, .int oa, .int wd])), (s0, aI g 64 (upd (upd sk de a) (nI (de + 1)).toNatClampNeg 3)), (l0, aI g 64 lc), (t0, aI g 600 lt)] H := hP
          have hD : va_D A [(mh, .inr (5, [.ref s0, .ref l0, .ref t0, lay, .int (nI de), .int (nI ms), .int (nI ml), .int (nI mt), .int an, .int oa, .int wd])), (s0, aI g 64 (upd (upd sk de a) (nI (de + 1)).toNatClampNeg 3)), (l0, aI g 64 lc), (t0, aI g 600 lt)] := hD
          have e9 : upd (upd sk de a) (nI (de + 1)).toNatClampNeg 3 = upd (upd sk de a) (de + 1) 3 := by rw [nI_clamp (by have := hM.ms; omega)]
          rw [e9] at hP hD
          refine lv_aload_n hx hb d_Machine_push_61 rfl (lv_at hl 1 rfl) ?_
          refine lv_dup hx hb d_Machine_push_62 rfl ?_
          refine va_get (D := g.1) (ci := 5) (v := .int (nI de)) (C := R_Machine) (T := F_Machine) (N := 11) hx hb hts in_Machine hown hK hP 0 rfl rfl 4 (by decide) (hts _ wd_148) (fun _ h9 => h9) rfl d_Machine_push_63 ?_
          refine lv_iload_n hx hb d_Machine_push_66 rfl (lv_at hl 0 rfl) ?_
          refine lv_iadd hx hb d_Machine_push_67 ?_
          refine tw_ri (e2 := nI (de + 2)) (nI_add de 2) ?_
          refine va_put (D := g.1) (ci := 5) (v := .int (nI (de + 2))) (ty := .int) (C := R_Machine) (T := F_Machine) (N := 11) hx hb hts in_Machine t_Machine t_Machine_ok n_Machine hown hK hP hD hS 0 rfl rfl 4 (by decide) (hts _ wd_148) (fun _ h9 => h9) rfl (t_Machine_ok 4 (by decide)) rfl rfl (Nat.le_of_ble_eq_true rfl) d_Machine_push_68 (fun H locs hP hD hS => ?_)
          have hP : va_P g.1 classes [(mh, .inr (5, [.ref s0, .ref l0, .ref t0, lay, .int (nI (de + 2)), .int (nI ms), .int (nI ml), .int (nI mt), .int an, .int oa, .int wd])), (s0, aI g 64 (upd (upd sk de a) (de + 1) 3)), (l0, aI g 64 lc), (t0, aI g 600 lt)] H := hP
          have hD : va_D A [(mh, .inr (5, [.ref s0, .ref l0, .ref t0, lay, .int (nI (de + 2)), .int (nI ms), .int (nI ml), .int (nI mt), .int an, .int oa, .int wd])), (s0, aI g 64 (upd (upd sk de a) (de + 1) 3)), (l0, aI g 64 lc), (t0, aI g 600 lt)] := hD
          refine lv_iconst (v := 0) hx hb d_Machine_push_71 (by decide) ?_
          exact tw_iret E hS (de + 2, ms, ml, mt, an, oa, wd, upd (upd sk de a) (de + 1) 3, lc, lt) ⟨trivial, hM.push2 ha ha3 h28⟩ hP hD d_Machine_push_72
      · refine lv_bipush (v := 22) hx hb d_Machine_push_31 (by decide) ?_
        exact tw_iret E hS (de, ms, ml, mt, an, oa, wd, sk, lc, lt) ⟨trivial, hM⟩ hP hD d_Machine_push_33
  · refine lv_bipush (v := 23) hx hb d_Machine_push_4 (by decide) ?_
    exact tw_iret E hS (de, ms, ml, mt, an, oa, wd, sk, lc, lt) ⟨trivial, hM⟩ hP hD d_Machine_push_6
