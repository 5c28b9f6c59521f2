set_option maxHeartbeats 4000000 in
set_option maxRecDepth 100000 in
theorem g_Mod_twoAt (l : Launch) (g : tw_G) (sz : Nat) (h0 : Nat) (q : Nat → Nat) (rf : Int32) (n : Nat) (mm : Int32) (mb : Int32) (fa : Int32) (fp : Int32) (av : Nat) (ev : Nat) (wi : Int32) (mn : Nat) (tp : Int32) (tc : Int32) (sc : Int32) (nf : Nat) (fd : Nat) (me : Nat) (mp : Int32) (xn : Nat) (mt : Nat) (wh : Nat) (tq : Nat) (ag : Nat) (an : Int32) (ig : Int32) (bs : Nat → Int32) (k : Nat) (hbs : BYT bs) (hk1 : k + 1 < 600) : Met l y_Mod_twoAt [.code y_Mod_twoAt b_Mod_twoAt 2 (some .int)] ({ frames := 0, cells := 0, slots := 0, locals := 0 }) (tw_P g [.ref h0, .int (nI k)] [(h0, .inr (10, mob q rf n mm mb fa fp av ev wi mn tp tc sc nf fd me mp xn mt wh tq ag an ig)), ((q 2), aI g 600 bs)] sz) (vp_Si (fun (r : Int32) => r = nI (t2 bs k))) 0 0 (fun _ => False) := by
  refine tw_met (l := l) (g := g) (y := y_Mod_twoAt) (cc := b_Mod_twoAt) (maxL := 2) (ret := (some .int)) (rm := { frames := 0, cells := 0, slots := 0, locals := 0 }) (mc := 0) (ms := 0) (av := [.ref h0, .int (nI k)]) (ws := [(h0, .inr (10, mob q rf n mm mb fa fp av ev wi mn tp tc sc nf fd me mp xn mt wh tq ag an ig)), ((q 2), aI g 600 bs)]) (sz := sz) (Qc := fun _ => (vp_Si (fun (r : Int32) => r = nI (t2 bs k)))) (free := fun _ _ => False) (by decide) (Nat.le_of_ble_eq_true rfl) ?_
  intro p e s m below meth c ls A E hB hK hZ hP hD hS hA hl
  obtain ⟨hx, hb, hml, hr, hown, hts, hlocks, hin⟩ := id E
  have hl : lv_has ls 2 [(0, .ref h0), (1, .int (nI k))] := hl
  refine lv_sipush (v := 256) hx hb d_Mod_twoAt_0 (by decide) ?_
  refine lv_aload_n hx hb d_Mod_twoAt_3 rfl (lv_at hl 0 rfl) ?_
  refine va_get (D := g.1) (ci := 10) (v := .ref (q 2)) (C := R_Mod) (T := F_Mod) (N := 61) hx hb hts in_Mod hown hK hP 0 rfl rfl 2 (by decide) (hts _ wd_1252) (fun _ h9 => h9) rfl d_Mod_twoAt_4 ?_
  refine lv_iload_n hx hb d_Mod_twoAt_7 rfl (lv_at hl 1 rfl) ?_
  refine va_iald hx hb hK hP 1 0 rfl rfl (vp_in_nI (by omega) (by decide)) d_Mod_twoAt_8 ?_
  refine tw_ri (e2 := nI (bt bs k)) (by rw [nI_clamp (by omega)]; exact bt_eq hbs (by omega)) ?_
  refine lv_imul hx hb d_Mod_twoAt_9 ?_
  refine tw_ri (e2 := nI (256 * bt bs k)) (pk_mul 256 _) ?_
  refine lv_aload_n hx hb d_Mod_twoAt_10 rfl (lv_at hl 0 rfl) ?_
  refine va_get (D := g.1) (ci := 10) (v := .ref (q 2)) (C := R_Mod) (T := F_Mod) (N := 61) hx hb hts in_Mod hown hK hP 0 rfl rfl 2 (by decide) (hts _ wd_1252) (fun _ h9 => h9) rfl d_Mod_twoAt_11 ?_
  refine lv_iload_n hx hb d_Mod_twoAt_14 rfl (lv_at hl 1 rfl) ?_
  refine lv_iconst (v := 1) hx hb d_Mod_twoAt_15 (by decide) ?_
  refine lv_iadd hx hb d_Mod_twoAt_16 ?_
  refine tw_ri (e2 := nI (k + 1)) (nI_add k 1) ?_
  refine va_iald hx hb hK hP 1 0 rfl rfl (vp_in_nI (by omega) (by decide)) d_Mod_twoAt_17 ?_
  refine tw_ri (e2 := nI (bt bs (k + 1))) (by rw [nI_clamp (by omega)]; exact bt_eq hbs (by omega)) ?_
  refine lv_iadd hx hb d_Mod_twoAt_18 ?_
  refine tw_ri (e2 := nI (t2 bs k)) (nI_add _ _) ?_
  exact tw_isret E rfl d_Mod_twoAt_19
set_option maxHeartbeats 4000000 in
set_option maxRecDepth 100000 in
theorem g_Mod_isInstructionN (l : Launch) (g : tw_G) (sz : Nat) (h0 : Nat) (q : Nat → Nat) (rf : Int32) (n : Nat) (mm : Int32) (mb : Int32) (fa : Int32) (fp : Int32) (av : Nat) (ev : Nat) (wi : Int32) (mn : Nat) (tp : Int32) (tc : Int32) (sc : Int32) (nf : Nat) (fd : Nat) (me : Nat) (mp : Int32) (xn : Nat) (mt : Nat) (wh : Nat) (tq : Nat) (ag : Nat) (an : Int32) (ig : Int32) (bg : Nat → Int32) (ln : Nat → Int32) (is_ : Nat → Int32) (mi : Nat) (o : Nat) (b1 l1 : Nat) (hmi : mi < 160) (hbg : bg mi = nI b1) (hln : ln mi = nI l1) (hbl : b1 + l1 ≤ 600) (ho : o < 2147483648) : Met l y_Mod_isInstruction [.code y_Mod_isInstruction b_Mod_isInstruction 3 (some .boolean)] ({ frames := 0, cells := 0, slots := 0, locals := 0 }) (tw_P g [.ref h0, .int (nI mi), .int (nI o)] [(h0, .inr (10, mob q rf n mm mb fa fp av ev wi mn tp tc sc nf fd me mp xn mt wh tq ag an ig)), ((q 34), aI g 160 bg), ((q 35), aI g 160 ln), ((q 40), aZ g 600 is_)] sz) (vp_Si (fun (r : Int32) => (r = 0 ∨ r = 1) ∧ (r = 1 → o < l1 ∧ ¬ is_ (b1 + o) = 0))) 0 0 (fun _ => False) := by
  refine tw_met (l := l) (g := g) (y := y_Mod_isInstruction) (cc := b_Mod_isInstruction) (maxL := 3) (ret := (some .boolean)) (rm := { frames := 0, cells := 0, slots := 0, locals := 0 }) (mc := 0) (ms := 0) (av := [.ref h0, .int (nI mi), .int (nI o)]) (ws := [(h0, .inr (10, mob q rf n mm mb fa fp av ev wi mn tp tc sc nf fd me mp xn mt wh tq ag an ig)), ((q 34), aI g 160 bg), ((q 35), aI g 160 ln), ((q 40), aZ g 600 is_)]) (sz := sz) (Qc := fun _ => (vp_Si (fun (r : Int32) => (r = 0 ∨ r = 1) ∧ (r = 1 → o < l1 ∧ ¬ is_ (b1 + o) = 0)))) (free := fun _ _ => False) (by decide) (Nat.le_of_ble_eq_true rfl) ?_
  intro p e s m below meth c ls A E hB hK hZ hP hD hS hA hl
  obtain ⟨hx, hb, hml, hr, hown, hts, hlocks, hin⟩ := id E
  have hl : lv_has ls 3 [(0, .ref h0), (1, .int (nI mi)), (2, .int (nI o))] := hl
  refine lv_iload_n hx hb d_Mod_isInstruction_0 rfl (lv_at hl 2 rfl) ?_
  refine lv_if_lt (tgt := 34) hx hb d_Mod_isInstruction_1 (by decide) (fun h1 => ?_) (fun h1 => ?_)
  · refine lv_iconst (v := 0) hx hb d_Mod_isInstruction_34 (by decide) ?_
    exact tw_zsret E (by decide) (⟨Or.inl rfl, fun h => absurd h (by decide)⟩) d_Mod_isInstruction_35
  · refine lv_iload_n hx hb d_Mod_isInstruction_4 rfl (lv_at hl 2 rfl) ?_
    refine lv_aload_n hx hb d_Mod_isInstruction_5 rfl (lv_at hl 0 rfl) ?_
    refine va_get (D := g.1) (ci := 10) (v := .ref (q 35)) (C := R_Mod) (T := F_Mod) (N := 61) hx hb hts in_Mod hown hK hP 0 rfl rfl 35 (by decide) (hts _ wd_1285) (fun _ h9 => h9) rfl d_Mod_isInstruction_6 ?_
    refine lv_iload_n hx hb d_Mod_isInstruction_9 rfl (lv_at hl 1 rfl) ?_
    refine va_iald hx hb hK hP 2 0 rfl rfl (vp_in_nI (by omega) (by decide)) d_Mod_isInstruction_10 ?_
    refine tw_ri (e2 := nI l1) (by rw [nI_clamp (by omega)]; exact hln) ?_
    refine lv_icmp_ge (tgt := 34) hx hb d_Mod_isInstruction_11 (by decide) (fun h11 => ?_) (fun h11 => ?_)
    · refine lv_iconst (v := 0) hx hb d_Mod_isInstruction_34 (by decide) ?_
      exact tw_zsret E (by decide) (⟨Or.inl rfl, fun h => absurd h (by decide)⟩) d_Mod_isInstruction_35
    · have h11 := tn_nle h11 (by omega) (by omega)
      refine lv_aload_n hx hb d_Mod_isInstruction_14 rfl (lv_at hl 0 rfl) ?_
      refine va_get (D := g.1) (ci := 10) (v := .ref (q 40)) (C := R_Mod) (T := F_Mod) (N := 61) hx hb hts in_Mod hown hK hP 0 rfl rfl 40 (by decide) (hts _ wd_1290) (fun _ h9 => h9) rfl d_Mod_isInstruction_15 ?_
      refine lv_aload_n hx hb d_Mod_isInstruction_18 rfl (lv_at hl 0 rfl) ?_
      refine va_get (D := g.1) (ci := 10) (v := .ref (q 34)) (C := R_Mod) (T := F_Mod) (N := 61) hx hb hts in_Mod hown hK hP 0 rfl rfl 34 (by decide) (hts _ wd_1284) (fun _ h9 => h9) rfl d_Mod_isInstruction_19 ?_
      refine lv_iload_n hx hb d_Mod_isInstruction_22 rfl (lv_at hl 1 rfl) ?_
      refine va_iald hx hb hK hP 1 0 rfl rfl (vp_in_nI (by omega) (by decide)) d_Mod_isInstruction_23 ?_
      refine tw_ri (e2 := nI b1) (by rw [nI_clamp (by omega)]; exact hbg) ?_
      refine lv_iload_n hx hb d_Mod_isInstruction_24 rfl (lv_at hl 2 rfl) ?_
      refine lv_iadd hx hb d_Mod_isInstruction_25 ?_
      refine tw_ri (e2 := nI (b1 + o)) (nI_add _ _) ?_
      refine va_zald hx hb hK hP 3 3 rfl rfl (vp_in_nI (by omega) (by decide)) d_Mod_isInstruction_26 ?_
      refine tw_ri (e2 := is_ (b1 + o)) (by rw [nI_clamp (by omega)]) ?_
      refine lv_if_eq (tgt := 34) hx hb d_Mod_isInstruction_27 (by decide) (fun h27 => ?_) (fun h27 => ?_)
      · refine lv_iconst (v := 0) hx hb d_Mod_isInstruction_34 (by decide) ?_
        exact tw_zsret E (by decide) (⟨Or.inl rfl, fun h => absurd h (by decide)⟩) d_Mod_isInstruction_35
      · refine lv_iconst (v := 1) hx hb d_Mod_isInstruction_30 (by decide) ?_
        refine lv_goto (tgt := 35) hx hb d_Mod_isInstruction_31 (by decide) ?_
        exact tw_zsret E (by decide) (⟨Or.inr rfl, fun _ => ⟨h11, h27⟩⟩) d_Mod_isInstruction_35
set_option maxHeartbeats 4000000 in
set_option maxRecDepth 100000 in
theorem g_Mod_isInstructionI (l : Launch) (g : tw_G) (sz : Nat) (h0 : Nat) (q : Nat → Nat) (rf : Int32) (n : Nat) (mm : Int32) (mb : Int32) (fa : Int32) (fp : Int32) (av : Nat) (ev : Nat) (wi : Int32) (mn : Nat) (tp : Int32) (tc : Int32) (sc : Int32) (nf : Nat) (fd : Nat) (me : Nat) (mp : Int32) (xn : Nat) (mt : Nat) (wh : Nat) (tq : Nat) (ag : Nat) (an : Int32) (ig : Int32) (bg : Nat → Int32) (ln : Nat → Int32) (is_ : Nat → Int32) (mi : Nat) (o : Int32) (b1 l1 : Nat) (hmi : mi < 160) (hbg : bg mi = nI b1) (hln : ln mi = nI l1) (hbl : b1 + l1 ≤ 600) : Met l y_Mod_isInstruction [.code y_Mod_isInstruction b_Mod_isInstruction 3 (some .boolean)] ({ frames := 0, cells := 0, slots := 0, locals := 0 }) (tw_P g [.ref h0, .int (nI mi), .int o] [(h0, .inr (10, mob q rf n mm mb fa fp av ev wi mn tp tc sc nf fd me mp xn mt wh tq ag an ig)), ((q 34), aI g 160 bg), ((q 35), aI g 160 ln), ((q 40), aZ g 600 is_)] sz) (vp_Si (fun (r : Int32) => (r = 0 ∨ r = 1) ∧ (r = 1 → ∃ j, o = nI j ∧ j < l1 ∧ ¬ is_ (b1 + j) = 0))) 0 0 (fun _ => False) := by
  refine tw_met (l := l) (g := g) (y := y_Mod_isInstruction) (cc := b_Mod_isInstruction) (maxL := 3) (ret := (some .boolean)) (rm := { frames := 0, cells := 0, slots := 0, locals := 0 }) (mc := 0) (ms := 0) (av := [.ref h0, .int (nI mi), .int o]) (ws := [(h0, .inr (10, mob q rf n mm mb fa fp av ev wi mn tp tc sc nf fd me mp xn mt wh tq ag an ig)), ((q 34), aI g 160 bg), ((q 35), aI g 160 ln), ((q 40), aZ g 600 is_)]) (sz := sz) (Qc := fun _ => (vp_Si (fun (r : Int32) => (r = 0 ∨ r = 1) ∧ (r = 1 → ∃ j, o = nI j ∧ j < l1 ∧ ¬ is_ (b1 + j) = 0)))) (free := fun _ _ => False) (by decide) (Nat.le_of_ble_eq_true rfl) ?_
  intro p e s m below meth c ls A E hB hK hZ hP hD hS hA hl
  obtain ⟨hx, hb, hml, hr, hown, hts, hlocks, hin⟩ := id E
  have hl : lv_has ls 3 [(0, .ref h0), (1, .int (nI mi)), (2, .int o)] := hl
  refine lv_iload_n hx hb d_Mod_isInstruction_0 rfl (lv_at hl 2 rfl) ?_
  refine lv_if_lt (tgt := 34) hx hb d_Mod_isInstruction_1 (by decide) (fun h1 => ?_) (fun h1 => ?_)
  · refine lv_iconst (v := 0) hx hb d_Mod_isInstruction_34 (by decide) ?_
    exact tw_zsret E (by decide) (⟨Or.inl rfl, fun h => absurd h (by decide)⟩) d_Mod_isInstruction_35
  · obtain ⟨j, hj, hje⟩ := nI_of h1
    subst hje
    refine lv_iload_n hx hb d_Mod_isInstruction_4 rfl (lv_at hl 2 rfl) ?_
    refine lv_aload_n hx hb d_Mod_isInstruction_5 rfl (lv_at hl 0 rfl) ?_
    refine va_get (D := g.1) (ci := 10) (v := .ref (q 35)) (C := R_Mod) (T := F_Mod) (N := 61) hx hb hts in_Mod hown hK hP 0 rfl rfl 35 (by decide) (hts _ wd_1285) (fun _ h9 => h9) rfl d_Mod_isInstruction_6 ?_
    refine lv_iload_n hx hb d_Mod_isInstruction_9 rfl (lv_at hl 1 rfl) ?_
    refine va_iald hx hb hK hP 2 0 rfl rfl (vp_in_nI (by omega) (by decide)) d_Mod_isInstruction_10 ?_
    refine tw_ri (e2 := nI l1) (by rw [nI_clamp (by omega)]; exact hln) ?_
    refine lv_icmp_ge (tgt := 34) hx hb d_Mod_isInstruction_11 (by decide) (fun h11 => ?_) (fun h11 => ?_)
    · refine lv_iconst (v := 0) hx hb d_Mod_isInstruction_34 (by decide) ?_
      exact tw_zsret E (by decide) (⟨Or.inl rfl, fun h => absurd h (by decide)⟩) d_Mod_isInstruction_35
    · have h11 := tn_nle h11 (by omega) (by omega)
      refine lv_aload_n hx hb d_Mod_isInstruction_14 rfl (lv_at hl 0 rfl) ?_
      refine va_get (D := g.1) (ci := 10) (v := .ref (q 40)) (C := R_Mod) (T := F_Mod) (N := 61) hx hb hts in_Mod hown hK hP 0 rfl rfl 40 (by decide) (hts _ wd_1290) (fun _ h9 => h9) rfl d_Mod_isInstruction_15 ?_
      refine lv_aload_n hx hb d_Mod_isInstruction_18 rfl (lv_at hl 0 rfl) ?_
      refine va_get (D := g.1) (ci := 10) (v := .ref (q 34)) (C := R_Mod) (T := F_Mod) (N := 61) hx hb hts in_Mod hown hK hP 0 rfl rfl 34 (by decide) (hts _ wd_1284) (fun _ h9 => h9) rfl d_Mod_isInstruction_19 ?_
      refine lv_iload_n hx hb d_Mod_isInstruction_22 rfl (lv_at hl 1 rfl) ?_
      refine va_iald hx hb hK hP 1 0 rfl rfl (vp_in_nI (by omega) (by decide)) d_Mod_isInstruction_23 ?_
      refine tw_ri (e2 := nI b1) (by rw [nI_clamp (by omega)]; exact hbg) ?_
      refine lv_iload_n hx hb d_Mod_isInstruction_24 rfl (lv_at hl 2 rfl) ?_
      refine lv_iadd hx hb d_Mod_isInstruction_25 ?_
      refine tw_ri (e2 := nI (b1 + j)) (nI_add _ _) ?_
      refine va_zald hx hb hK hP 3 3 rfl rfl (vp_in_nI (by omega) (by decide)) d_Mod_isInstruction_26 ?_
      refine tw_ri (e2 := is_ (b1 + j)) (by rw [nI_clamp (by omega)]) ?_
      refine lv_if_eq (tgt := 34) hx hb d_Mod_isInstruction_27 (by decide) (fun h27 => ?_) (fun h27 => ?_)
      · refine lv_iconst (v := 0) hx hb d_Mod_isInstruction_34 (by decide) ?_
        exact tw_zsret E (by decide) (⟨Or.inl rfl, fun h => absurd h (by decide)⟩) d_Mod_isInstruction_35
      · refine lv_iconst (v := 1) hx hb d_Mod_isInstruction_30 (by decide) ?_
        refine lv_goto (tgt := 35) hx hb d_Mod_isInstruction_31 (by decide) ?_
        exact tw_zsret E (by decide) (⟨Or.inr rfl, fun _ => ⟨j, rfl, h11, h27⟩⟩) d_Mod_isInstruction_35
set_option maxHeartbeats 4000000 in
set_option maxRecDepth 100000 in
theorem g_Mod_kindAt (l : Launch) (g : tw_G) (sz : Nat) (h0 : Nat) (q : Nat → Nat) (rf : Int32) (n : Nat) (mm : Int32) (mb : Int32) (fa : Int32) (fp : Int32) (av : Nat) (ev : Nat) (wi : Int32) (mn : Nat) (tp : Int32) (tc : Int32) (sc : Int32) (nf : Nat) (fd : Nat) (me : Nat) (mp : Int32) (xn : Nat) (mt : Nat) (wh : Nat) (tq : Nat) (ag : Nat) (an : Int32) (ig : Int32) (bs : Nat → Int32) (k : Nat) (hk6 : k < 600) : Met l y_Mod_kindAt [.code y_Mod_kindAt b_Mod_kindAt 3 (some .int)] ({ frames := 0, cells := 0, slots := 0, locals := 0 }) (tw_P g [.ref h0, .int (nI k)] [(h0, .inr (10, mob q rf n mm mb fa fp av ev wi mn tp tc sc nf fd me mp xn mt wh tq ag an ig)), ((q 2), aI g 600 bs)] sz) (vp_Si (fun (r : Int32) => KND r)) 0 0 (fun _ => False) := by
  refine tw_met (l := l) (g := g) (y := y_Mod_kindAt) (cc := b_Mod_kindAt) (maxL := 3) (ret := (some .int)) (rm := { frames := 0, cells := 0, slots := 0, locals := 0 }) (mc := 0) (ms := 0) (av := [.ref h0, .int (nI k)]) (ws := [(h0, .inr (10, mob q rf n mm mb fa fp av ev wi mn tp tc sc nf fd me mp xn mt wh tq ag an ig)), ((q 2), aI g 600 bs)]) (sz := sz) (Qc := fun _ => (vp_Si (fun (r : Int32) => KND r))) (free := fun _ _ => False) (by decide) (Nat.le_of_ble_eq_true rfl) ?_
  intro p e s m below meth c ls A E hB hK hZ hP hD hS hA hl
  obtain ⟨hx, hb, hml, hr, hown, hts, hlocks, hin⟩ := id E
  have hl : lv_has ls 3 [(0, .ref h0), (1, .int (nI k))] := hl
  refine lv_aload_n hx hb d_Mod_kindAt_0 rfl (lv_at hl 0 rfl) ?_
  refine va_get (D := g.1) (ci := 10) (v := .ref (q 2)) (C := R_Mod) (T := F_Mod) (N := 61) hx hb hts in_Mod hown hK hP 0 rfl rfl 2 (by decide) (hts _ wd_1252) (fun _ h9 => h9) rfl d_Mod_kindAt_1 ?_
  refine lv_iload_n hx hb d_Mod_kindAt_4 rfl (lv_at hl 1 rfl) ?_
  refine va_iald hx hb hK hP 1 0 rfl rfl (vp_in_nI (by omega) (by decide)) d_Mod_kindAt_5 ?_
  obtain ⟨x1, ex1⟩ : ∃ z : Int32, bs ((nI k).toNatClampNeg) = z := ⟨_, rfl⟩
  refine tw_ri (e2 := x1) ex1 ?_
  refine lv_istore_n hx hb d_Mod_kindAt_6 rfl hl (by decide) rfl (fun ls hl => ?_)
  have hl : lv_has ls 3 [(2, .int x1), (0, .ref h0), (1, .int (nI k))] := hl
  refine lv_iload_n hx hb d_Mod_kindAt_7 rfl (lv_at hl 0 rfl) ?_
  refine lv_bipush (v := 74) hx hb d_Mod_kindAt_8 (by decide) ?_
  refine lv_icmp_ne (tgt := 17) hx hb d_Mod_kindAt_10 (by decide) (fun h10 => ?_) (fun h10 => ?_)
  · refine lv_iload_n hx hb d_Mod_kindAt_17 rfl (lv_at hl 0 rfl) ?_
    refine lv_bipush (v := 76) hx hb d_Mod_kindAt_18 (by decide) ?_
    refine lv_icmp_eq (tgt := 29) hx hb d_Mod_kindAt_20 (by decide) (fun h20 => ?_) (fun h20 => ?_)
    · refine lv_iconst (v := 4) hx hb d_Mod_kindAt_29 (by decide) ?_
      refine lv_goto (tgt := 66) hx hb d_Mod_kindAt_30 (by decide) ?_
      exact tw_isret E (by unfold KND; decide) d_Mod_kindAt_66
    · refine lv_iload_n hx hb d_Mod_kindAt_23 rfl (lv_at hl 0 rfl) ?_
      refine lv_bipush (v := 91) hx hb d_Mod_kindAt_24 (by decide) ?_
      refine lv_icmp_ne (tgt := 33) hx hb d_Mod_kindAt_26 (by decide) (fun h26 => ?_) (fun h26 => ?_)
      · refine lv_iload_n hx hb d_Mod_kindAt_33 rfl (lv_at hl 0 rfl) ?_
        refine lv_bipush (v := 70) hx hb d_Mod_kindAt_34 (by decide) ?_
        refine lv_icmp_ne (tgt := 44) hx hb d_Mod_kindAt_36 (by decide) (fun h36 => ?_) (fun h36 => ?_)
        · refine lv_iload_n hx hb d_Mod_kindAt_44 rfl (lv_at hl 0 rfl) ?_
          refine lv_bipush (v := 68) hx hb d_Mod_kindAt_45 (by decide) ?_
          refine lv_icmp_ne (tgt := 55) hx hb d_Mod_kindAt_47 (by decide) (fun h47 => ?_) (fun h47 => ?_)
          · refine lv_iload_n hx hb d_Mod_kindAt_55 rfl (lv_at hl 0 rfl) ?_
            refine lv_bipush (v := 86) hx hb d_Mod_kindAt_56 (by decide) ?_
            refine lv_icmp_ne (tgt := 65) hx hb d_Mod_kindAt_58 (by decide) (fun h58 => ?_) (fun h58 => ?_)
            · refine lv_iconst (v := 1) hx hb d_Mod_kindAt_65 (by decide) ?_
              exact tw_isret E (by unfold KND; decide) d_Mod_kindAt_66
            · refine lv_iconst (v := 0) hx hb d_Mod_kindAt_61 (by decide) ?_
              refine lv_goto (tgt := 66) hx hb d_Mod_kindAt_62 (by decide) ?_
              exact tw_isret E (by unfold KND; decide) d_Mod_kindAt_66
          · refine lv_bipush (v := 10) hx hb d_Mod_kindAt_50 (by decide) ?_
            refine lv_goto (tgt := 66) hx hb d_Mod_kindAt_52 (by decide) ?_
            exact tw_isret E (by unfold KND; decide) d_Mod_kindAt_66
        · refine lv_bipush (v := 9) hx hb d_Mod_kindAt_39 (by decide) ?_
          refine lv_goto (tgt := 66) hx hb d_Mod_kindAt_41 (by decide) ?_
          exact tw_isret E (by unfold KND; decide) d_Mod_kindAt_66
      · refine lv_iconst (v := 4) hx hb d_Mod_kindAt_29 (by decide) ?_
        refine lv_goto (tgt := 66) hx hb d_Mod_kindAt_30 (by decide) ?_
        exact tw_isret E (by unfold KND; decide) d_Mod_kindAt_66
  · refine lv_iconst (v := 2) hx hb d_Mod_kindAt_13 (by decide) ?_
    refine lv_goto (tgt := 66) hx hb d_Mod_kindAt_14 (by decide) ?_
    exact tw_isret E (by unfold KND; decide) d_Mod_kindAt_66
set_option maxHeartbeats 4000000 in
set_option maxRecDepth 100000 in
theorem g_Mod_markInstructions (l : Launch) (g : tw_G) (sz : Nat) (h0 : Nat) (q : Nat → Nat) (rf : Int32) (n : Nat) (mm : Int32) (mb : Int32) (av : Nat) (ev : Nat) (wi : Int32) (mn : Nat) (tp : Int32) (tc : Int32) (sc : Int32) (nf : Nat) (fd : Nat) (me : Nat) (mp : Int32) (xn : Nat) (mt : Nat) (wh : Nat) (tq : Nat) (ag : Nat) (an : Int32) (ig : Int32) (bs : Nat → Int32) (bg : Nat → Int32) (ln : Nat → Int32) (kd : Nat → Int32) (fa : Int32) (fp : Int32) (is_ : Nat → Int32) (dp : Nat → Int32) (iw : Nat → Int32) (mi : Nat) (b1 l1 : Nat) (hmi : mi < 160) (hbg : bg mi = nI b1) (hln : ln mi = nI l1) (hbl : b1 + l1 ≤ 600) (hFR : FRG dp iw kd) : Met l y_Mod_markInstructions [.code y_Mod_markInstructions b_Mod_markInstructions 5 none] ({ frames := 2, cells := 0, slots := 0, locals := 43 }) (tw_P g [.ref h0, .int (nI mi)] [(h0, .inr (10, mob q rf n mm mb fa fp av ev wi mn tp tc sc nf fd me mp xn mt wh tq ag an ig)), ((q 2), aI g 600 bs), ((q 34), aI g 160 bg), ((q 35), aI g 160 ln), ((q 40), aZ g 600 is_), ((q 41), aI g 600 dp), ((q 42), aZ g 600 iw), ((q 43), aI g 76800 kd)] sz) (tw_Qv g (fun (u : Int32 × Int32 × (Nat → Int32) × (Nat → Int32) × (Nat → Int32)) => (u.1 = 0 → fa = 0) ∧ (FRG u.2.2.2.1 u.2.2.2.2 kd) ∧ (u.1 = 0 → ∀ j, b1 ≤ j → j < b1 + l1 → ¬ u.2.2.1 j = 0 → STP bs b1 l1 j)) (fun u : Int32 × Int32 × (Nat → Int32) × (Nat → Int32) × (Nat → Int32) => [(h0, .inr (10, mob q rf n mm mb u.1 u.2.1 av ev wi mn tp tc sc nf fd me mp xn mt wh tq ag an ig)), ((q 2), aI g 600 bs), ((q 34), aI g 160 bg), ((q 35), aI g 160 ln), ((q 40), aZ g 600 u.2.2.1), ((q 41), aI g 600 u.2.2.2.1), ((q 42), aZ g 600 u.2.2.2.2), ((q 43), aI g 76800 kd)]) (va_A [(h0, .inr (10, mob q rf n mm mb fa fp av ev wi mn tp tc sc nf fd me mp xn mt wh tq ag an ig)), ((q 2), aI g 600 bs), ((q 34), aI g 160 bg), ((q 35), aI g 160 ln), ((q 40), aZ g 600 is_), ((q 41), aI g 600 dp), ((q 42), aZ g 600 iw), ((q 43), aI g 76800 kd)] sz)) 0 0 (va_A [(h0, .inr (10, mob q rf n mm mb fa fp av ev wi mn tp tc sc nf fd me mp xn mt wh tq ag an ig)), ((q 2), aI g 600 bs), ((q 34), aI g 160 bg), ((q 35), aI g 160 ln), ((q 40), aZ g 600 is_), ((q 41), aI g 600 dp), ((q 42), aZ g 600 iw), ((q 43), aI g 76800 kd)] sz) := by
  refine tw_metW (l := l) (g := g) (y := y_Mod_markInstructions) (cc := b_Mod_markInstructions) (maxL := 5) (ret := none) (rm := { frames := 2, cells := 0, slots := 0, locals := 43 }) (mc := 0) (ms := 0) (av := [.ref h0, .int (nI mi)]) (ws := [(h0, .inr (10, mob q rf n mm mb fa fp av ev wi mn tp tc sc nf fd me mp xn mt wh tq ag an ig)), ((q 2), aI g 600 bs), ((q 34), aI g 160 bg), ((q 35), aI g 160 ln), ((q 40), aZ g 600 is_), ((q 41), aI g 600 dp), ((q 42), aZ g 600 iw), ((q 43), aI g 76800 kd)]) (sz := sz) (Qc := fun A => (tw_Qv g (fun (u : Int32 × Int32 × (Nat → Int32) × (Nat → Int32) × (Nat → Int32)) => (u.1 = 0 → fa = 0) ∧ (FRG u.2.2.2.1 u.2.2.2.2 kd) ∧ (u.1 = 0 → ∀ j, b1 ≤ j → j < b1 + l1 → ¬ u.2.2.1 j = 0 → STP bs b1 l1 j)) (fun u : Int32 × Int32 × (Nat → Int32) × (Nat → Int32) × (Nat → Int32) => [(h0, .inr (10, mob q rf n mm mb u.1 u.2.1 av ev wi mn tp tc sc nf fd me mp xn mt wh tq ag an ig)), ((q 2), aI g 600 bs), ((q 34), aI g 160 bg), ((q 35), aI g 160 ln), ((q 40), aZ g 600 u.2.2.1), ((q 41), aI g 600 u.2.2.2.1), ((q 42), aZ g 600 u.2.2.2.2), ((q 43), aI g 76800 kd)]) A)) (by decide) (Nat.le_of_ble_eq_true rfl) ?_
  intro p e s m below meth c ls H A E hB hK hZ hP hD hS hA hl
  obtain ⟨hx, hb, hml, hr, hown, hts, hlocks, hin⟩ := id E
  have hl : lv_has ls 5 [(0, .ref h0), (1, .int (nI mi))] := hl
  refine lv_aload_n hx hb d_Mod_markInstructions_0 rfl (lv_at hl 0 rfl) ?_
  refine va_get (D := g.1) (ci := 10) (v := .ref (q 34)) (C := R_Mod) (T := F_Mod) (N := 61) hx hb hts in_Mod hown hK hP 0 rfl rfl 34 (by decide) (hts _ wd_1284) (fun _ h9 => h9) rfl d_Mod_markInstructions_1 ?_
  refine lv_iload_n hx hb d_Mod_markInstructions_4 rfl (lv_at hl 1 rfl) ?_
  refine va_iald hx hb hK hP 2 0 rfl rfl (vp_in_nI (by omega) (by decide)) d_Mod_markInstructions_5 ?_
  refine tw_ri (e2 := nI b1) (by rw [nI_clamp (by omega)]; exact hbg) ?_
  refine lv_aload_n hx hb d_Mod_markInstructions_6 rfl (lv_at hl 0 rfl) ?_
  refine va_get (D := g.1) (ci := 10) (v := .ref (q 35)) (C := R_Mod) (T := F_Mod) (N := 61) hx hb hts in_Mod hown hK hP 0 rfl rfl 35 (by decide) (hts _ wd_1285) (fun _ h9 => h9) rfl d_Mod_markInstructions_7 ?_
  refine lv_iload_n hx hb d_Mod_markInstructions_10 rfl (lv_at hl 1 rfl) ?_
  refine va_iald hx hb hK hP 3 0 rfl rfl (vp_in_nI (by omega) (by decide)) d_Mod_markInstructions_11 ?_
  refine tw_ri (e2 := nI l1) (by rw [nI_clamp (by omega)]; exact hln) ?_
  refine lv_iadd hx hb d_Mod_markInstructions_12 ?_
  refine tw_ri (e2 := nI (b1 + l1)) (nI_add _ _) ?_
  refine lv_istore_n hx hb d_Mod_markInstructions_13 rfl hl (by decide) rfl (fun ls hl => ?_)
  have hl : lv_has ls 5 [(2, .int (nI (b1 + l1))), (0, .ref h0), (1, .int (nI mi))] := hl
  refine lv_aload_n hx hb d_Mod_markInstructions_14 rfl (lv_at hl 1 rfl) ?_
  refine va_get (D := g.1) (ci := 10) (v := .ref (q 34)) (C := R_Mod) (T := F_Mod) (N := 61) hx hb hts in_Mod hown hK hP 0 rfl rfl 34 (by decide) (hts _ wd_1284) (fun _ h9 => h9) rfl d_Mod_markInstructions_15 ?_
  refine lv_iload_n hx hb d_Mod_markInstructions_18 rfl (lv_at hl 2 rfl) ?_
  refine va_iald hx hb hK hP 2 0 rfl rfl (vp_in_nI (by omega) (by decide)) d_Mod_markInstructions_19 ?_
  refine tw_ri (e2 := nI b1) (by rw [nI_clamp (by omega)]; exact hbg) ?_
  refine lv_istore_n hx hb d_Mod_markInstructions_20 rfl hl (by decide) rfl (fun ls hl => ?_)
  have hl : lv_has ls 5 [(3, .int (nI b1)), (2, .int (nI (b1 + l1))), (0, .ref h0), (1, .int (nI mi))] := hl
  have loop21 : ∀ (kq : Nat) (k : Nat) (is_9 : Nat → Int32) (dp9 : Nat → Int32) (iw9 : Nat → Int32) (ls : Array Slot) (H : Heap) (locs : List Loc) , b1 + l1 - k = kq → (hk1 : b1 ≤ k) → (hk2 : k ≤ b1 + l1) → (hz9 : ∀ j, b1 ≤ j → j < k → is_9 j = 0) → (hFR9 : FRG dp9 iw9 kd) → lv_has ls 5 [(3, .int (nI k)), (2, .int (nI (b1 + l1))), (0, .ref h0), (1, .int (nI mi))] → va_P g.1 classes [(h0, .inr (10, mob q rf n mm mb fa fp av ev wi mn tp tc sc nf fd me mp xn mt wh tq ag an ig)), ((q 2), aI g 600 bs), ((q 34), aI g 160 bg), ((q 35), aI g 160 ln), ((q 40), aZ g 600 is_9), ((q 41), aI g 600 dp9), ((q 42), aZ g 600 iw9), ((q 43), aI g 76800 kd)] H → va_D A [(h0, .inr (10, mob q rf n mm mb fa fp av ev wi mn tp tc sc nf fd me mp xn mt wh tq ag an ig)), ((q 2), aI g 600 bs), ((q 34), aI g 160 bg), ((q 35), aI g 160 ln), ((q 40), aZ g 600 is_9), ((q 41), aI g 600 dp9), ((q 42), aZ g 600 iw9), ((q 43), aI g 76800 kd)] → va_S A s.heap H locs → W p l e ({ frames := 2, cells := 0, slots := 0, locals := 43 }) s m [.ref h0, .int (nI mi)].toArray below meth c H locs 0 0 (MQ below (tw_Qv g (fun (u : Int32 × Int32 × (Nat → Int32) × (Nat → Int32) × (Nat → Int32)) => (u.1 = 0 → fa = 0) ∧ (FRG u.2.2.2.1 u.2.2.2.2 kd) ∧ (u.1 = 0 → ∀ j, b1 ≤ j → j < b1 + l1 → ¬ u.2.2.1 j = 0 → STP bs b1 l1 j)) (fun u : Int32 × Int32 × (Nat → Int32) × (Nat → Int32) × (Nat → Int32) => [(h0, .inr (10, mob q rf n mm mb u.1 u.2.1 av ev wi mn tp tc sc nf fd me mp xn mt wh tq ag an ig)), ((q 2), aI g 600 bs), ((q 34), aI g 160 bg), ((q 35), aI g 160 ln), ((q 40), aZ g 600 u.2.2.1), ((q 41), aI g 600 u.2.2.2.1), ((q 42), aZ g 600 u.2.2.2.2), ((q 43), aI g 76800 kd)]) A) [.ref h0, .int (nI mi)].toArray s 0 0 A) (F0 m 21 ls []) := by
    intro kq
    induction kq using Nat.strongRecOn with
    | _ kq ih =>
      intro k is_9 dp9 iw9 ls H locs hk hk1 hk2 hz9 hFR9 hl hP hD hS
      refine lv_iload_n hx hb d_Mod_markInstructions_21 rfl (lv_at hl 0 rfl) ?_
      refine lv_iload_n hx hb d_Mod_markInstructions_22 rfl (lv_at hl 1 rfl) ?_
      refine lv_icmp_ge (tgt := 53) hx hb d_Mod_markInstructions_23 (by decide) (fun h23 => ?_) (fun h23 => ?_)
      · have h23 := tn_le h23 (by omega) (by omega)
        refine lv_aload_n hx hb d_Mod_markInstructions_53 rfl (lv_at hl 2 rfl) ?_
        refine va_get (D := g.1) (ci := 10) (v := .ref (q 34)) (C := R_Mod) (T := F_Mod) (N := 61) hx hb hts in_Mod hown hK hP 0 rfl rfl 34 (by decide) (hts _ wd_1284) (fun _ h9 => h9) rfl d_Mod_markInstructions_54 ?_
        refine lv_iload_n hx hb d_Mod_markInstructions_57 rfl (lv_at hl 3 rfl) ?_
        refine va_iald hx hb hK hP 2 0 rfl rfl (vp_in_nI (by omega) (by decide)) d_Mod_markInstructions_58 ?_
        refine tw_ri (e2 := nI b1) (by rw [nI_clamp (by omega)]; exact hbg) ?_
        refine lv_istore_n hx hb d_Mod_markInstructions_59 rfl hl (by decide) rfl (fun ls hl => ?_)
        have hl : lv_has ls 5 [(3, .int (nI b1)), (2, .int (nI (b1 + l1))), (0, .ref h0), (1, .int (nI mi))] := hl
        have loop60 : ∀ (kq : Nat) (k : Nat) (fa8 : Int32) (fp8 : Int32) (is_8 : Nat → Int32) (ls : Array Slot) (H : Heap) (locs : List Loc) , 2 * (b1 + l1 - k) + (if fa8 = 0 then 1 else 0) = kq → (hc8 : fa8 = 0 → fa = 0) → (huk : k ≤ 700) → (hk1 : b1 ≤ k) → (hSTk : fa8 = 0 → ∀ j, b1 ≤ j → j < b1 + l1 → ¬ is_8 j = 0 → STP bs b1 l1 j) → lv_has ls 5 [(3, .int (nI k)), (2, .int (nI (b1 + l1))), (0, .ref h0), (1, .int (nI mi))] → va_P g.1 classes [(h0, .inr (10, mob q rf n mm mb fa8 fp8 av ev wi mn tp tc sc nf fd me mp xn mt wh tq ag an ig)), ((q 2), aI g 600 bs), ((q 34), aI g 160 bg), ((q 35), aI g 160 ln), ((q 40), aZ g 600 is_8), ((q 41), aI g 600 dp9), ((q 42), aZ g 600 iw9), ((q 43), aI g 76800 kd)] H → va_D A [(h0, .inr (10, mob q rf n mm mb fa8 fp8 av ev wi mn tp tc sc nf fd me mp xn mt wh tq ag an ig)), ((q 2), aI g 600 bs), ((q 34), aI g 160 bg), ((q 35), aI g 160 ln), ((q 40), aZ g 600 is_8), ((q 41), aI g 600 dp9), ((q 42), aZ g 600 iw9), ((q 43), aI g 76800 kd)] → va_S A s.heap H locs → W p l e ({ frames := 2, cells := 0, slots := 0, locals := 43 }) s m [.ref h0, .int (nI mi)].toArray below meth c H locs 0 0 (MQ below (tw_Qv g (fun (u : Int32 × Int32 × (Nat → Int32) × (Nat → Int32) × (Nat → Int32)) => (u.1 = 0 → fa = 0) ∧ (FRG u.2.2.2.1 u.2.2.2.2 kd) ∧ (u.1 = 0 → ∀ j, b1 ≤ j → j < b1 + l1 → ¬ u.2.2.1 j = 0 → STP bs b1 l1 j)) (fun u : Int32 × Int32 × (Nat → Int32) × (Nat → Int32) × (Nat → Int32) => [(h0, .inr (10, mob q rf n mm mb u.1 u.2.1 av ev wi mn tp tc sc nf fd me mp xn mt wh tq ag an ig)), ((q 2), aI g 600 bs), ((q 34), aI g 160 bg), ((q 35), aI g 160 ln), ((q 40), aZ g 600 u.2.2.1), ((q 41), aI g 600 u.2.2.2.1), ((q 42), aZ g 600 u.2.2.2.2), ((q 43), aI g 76800 kd)]) A) [.ref h0, .int (nI mi)].toArray s 0 0 A) (F0 m 60 ls []) := by
          intro kq
          induction kq using Nat.strongRecOn with
          | _ kq ih60 =>
            intro k fa8 fp8 is_8 ls H locs hk60 hc8 huk hk1 hSTk hl hP hD hS
            refine lv_iload_n hx hb d_Mod_markInstructions_60 rfl (lv_at hl 0 rfl) ?_
            refine lv_iload_n hx hb d_Mod_markInstructions_61 rfl (lv_at hl 1 rfl) ?_
            refine lv_icmp_ge (tgt := 130) hx hb d_Mod_markInstructions_62 (by decide) (fun h62 => ?_) (fun h62 => ?_)
            · exact tw_vret E hS (fa8, fp8, is_8, dp9, iw9) (⟨(fun h => (fun h => h) (hc8 h)), hFR9, (fun hz => by have hz1 := hc8 hz; have hz2 := hSTk hz; exact hz2)⟩) hP hD d_Mod_markInstructions_130
            · have h62 := tn_nle h62 (by omega) (by omega)
              refine lv_aload_n hx hb d_Mod_markInstructions_65 rfl (lv_at hl 2 rfl) ?_
              refine va_get (D := g.1) (ci := 10) (v := .int fa8) (C := R_Mod) (T := F_Mod) (N := 61) hx hb hts in_Mod hown hK hP 0 rfl rfl 8 (by decide) (hts _ wd_1258) (fun _ h9 => h9) rfl d_Mod_markInstructions_66 ?_
              refine lv_if_ne (tgt := 130) hx hb d_Mod_markInstructions_69 (by decide) (fun h69 => ?_) (fun h69 => ?_)
              · exact tw_vret E hS (fa8, fp8, is_8, dp9, iw9) (⟨(fun h => absurd h h69), hFR9, (fun h => absurd h h69)⟩) hP hD d_Mod_markInstructions_130
              · have hz3 := hc8 h69
                have hz4 := hSTk h69
                refine lv_aload_n hx hb d_Mod_markInstructions_72 rfl (lv_at hl 2 rfl) ?_
                refine va_get (D := g.1) (ci := 10) (v := .ref (q 2)) (C := R_Mod) (T := F_Mod) (N := 61) hx hb hts in_Mod hown hK hP 0 rfl rfl 2 (by decide) (hts _ wd_1252) (fun _ h9 => h9) rfl d_Mod_markInstructions_73 ?_
                refine lv_iload_n hx hb d_Mod_markInstructions_76 rfl (lv_at hl 0 rfl) ?_
                refine va_iald hx hb hK hP 1 0 rfl rfl (vp_in_nI (by omega) (by decide)) d_Mod_markInstructions_77 ?_
                refine tw_ri (e2 := bs k) (by rw [nI_clamp (by omega)]) ?_
                refine tw_si (tw_runS (ws := [(h0, .inr (10, mob q rf n mm mb fa8 fp8 av ev wi mn tp tc sc nf fd me mp xn mt wh tq ag an ig)), ((q 2), aI g 600 bs), ((q 34), aI g 160 bg), ((q 35), aI g 160 ln), ((q 40), aZ g 600 is_8), ((q 41), aI g 600 dp9), ((q 42), aZ g 600 iw9), ((q 43), aI g 76800 kd)]) (wc := []) (As := [.int (bs k)]) (rest := []) E hB hK hZ (g_Mod_follows l g H.size (bs k)) mc_Mod_follows ms_Mod_follows wd_1603 hP hD hS hA [] rfl (by decide) rfl rfl (by decide) rfl hl.1 rfl (Nat.le_of_ble_eq_true rfl) (by decide) d_Mod_markInstructions_78) (fun r5 hr5 => ?_)
                have hB5 := hr5
                refine lv_istore hx hb d_Mod_markInstructions_81 hl (by decide) rfl (fun ls hl => ?_)
                have hl : lv_has ls 5 [(4, .int r5), (3, .int (nI k)), (2, .int (nI (b1 + l1))), (0, .ref h0), (1, .int (nI mi))] := hl
                refine lv_aload_n hx hb d_Mod_markInstructions_83 rfl (lv_at hl 3 rfl) ?_
                refine va_get (D := g.1) (ci := 10) (v := .ref (q 40)) (C := R_Mod) (T := F_Mod) (N := 61) hx hb hts in_Mod hown hK hP 0 rfl rfl 40 (by decide) (hts _ wd_1290) (fun _ h9 => h9) rfl d_Mod_markInstructions_84 ?_
                refine lv_iload_n hx hb d_Mod_markInstructions_87 rfl (lv_at hl 1 rfl) ?_
                refine lv_iconst (v := 1) hx hb d_Mod_markInstructions_88 (by decide) ?_
                refine va_zast hx hb hK hP hD hS 4 3 rfl rfl (vp_in_nI (by omega) (by decide)) d_Mod_markInstructions_89 (fun H locs hP hD hS => ?_)
                have hP : va_P g.1 classes [(h0, .inr (10, mob q rf n mm mb fa8 fp8 av ev wi mn tp tc sc nf fd me mp xn mt wh tq ag an ig)), ((q 2), aI g 600 bs), ((q 34), aI g 160 bg), ((q 35), aI g 160 ln), ((q 40), aZ g 600 (upd is_8 (nI k).toNatClampNeg (vp_nar .boolean 1))), ((q 41), aI g 600 dp9), ((q 42), aZ g 600 iw9), ((q 43), aI g 76800 kd)] H := hP
                have hD : va_D A [(h0, .inr (10, mob q rf n mm mb fa8 fp8 av ev wi mn tp tc sc nf fd me mp xn mt wh tq ag an ig)), ((q 2), aI g 600 bs), ((q 34), aI g 160 bg), ((q 35), aI g 160 ln), ((q 40), aZ g 600 (upd is_8 (nI k).toNatClampNeg (vp_nar .boolean 1))), ((q 41), aI g 600 dp9), ((q 42), aZ g 600 iw9), ((q 43), aI g 76800 kd)] := hD
                have e9 : upd is_8 (nI k).toNatClampNeg (vp_nar .boolean 1) = upd is_8 k 1 := by rw [nI_clamp (by omega)]; rfl
                rw [e9] at hP hD
                refine lv_iload hx hb d_Mod_markInstructions_90 (lv_at hl 0 rfl) ?_
                refine lv_if_ge (tgt := 105) hx hb d_Mod_markInstructions_92 (by decide) (fun h92 => ?_) (fun h92 => ?_)
                · obtain ⟨n1, hn1, hre⟩ := fo_n hB5.1 h92
                  have hfo : fof (bs k) = nI n1 := hB5.2.symm.trans hre
                  subst hre
                  refine lv_iload_n hx hb d_Mod_markInstructions_105 rfl (lv_at hl 1 rfl) ?_
                  refine lv_iload hx hb d_Mod_markInstructions_106 (lv_at hl 0 rfl) ?_
                  refine lv_iadd hx hb d_Mod_markInstructions_108 ?_
                  refine tw_ri (e2 := nI (k + n1)) (nI_add _ _) ?_
                  refine lv_iload_n hx hb d_Mod_markInstructions_109 rfl (lv_at hl 2 rfl) ?_
                  refine lv_icmp_lt (tgt := 120) hx hb d_Mod_markInstructions_110 (by decide) (fun h110 => ?_) (fun h110 => ?_)
                  · have h110 := tn_lt h110 (by omega) (by omega)
                    refine lv_iload_n hx hb d_Mod_markInstructions_120 rfl (lv_at hl 1 rfl) ?_
                    refine lv_iconst (v := 1) hx hb d_Mod_markInstructions_121 (by decide) ?_
                    refine lv_iadd hx hb d_Mod_markInstructions_122 ?_
                    refine tw_ri (e2 := nI (k + 1)) (nI_add k 1) ?_
                    refine lv_iload hx hb d_Mod_markInstructions_123 (lv_at hl 0 rfl) ?_
                    refine lv_iadd hx hb d_Mod_markInstructions_125 ?_
                    refine tw_ri (e2 := nI (k + 1 + n1)) (nI_add _ _) ?_
                    refine lv_istore_n hx hb d_Mod_markInstructions_126 rfl hl (by decide) rfl (fun ls hl => ?_)
                    have hl : lv_has ls 5 [(3, .int (nI (k + 1 + n1))), (4, .int (nI n1)), (2, .int (nI (b1 + l1))), (0, .ref h0), (1, .int (nI mi))] := hl
                    refine lv_goto (tgt := 60) hx hb d_Mod_markInstructions_127 (by decide) ?_
                    have hP : va_P g.1 classes [(h0, .inr (10, mob q rf n mm mb fa8 fp8 av ev wi mn tp tc sc nf fd me mp xn mt wh tq ag an ig)), ((q 2), aI g 600 bs), ((q 34), aI g 160 bg), ((q 35), aI g 160 ln), ((q 40), aZ g 600 (upd is_8 k 1)), ((q 41), aI g 600 dp9), ((q 42), aZ g 600 iw9), ((q 43), aI g 76800 kd)] H := hP.sub [0, 1, 2, 3, 4, 5, 6, 7] rfl
                    have hD : va_D A [(h0, .inr (10, mob q rf n mm mb fa8 fp8 av ev wi mn tp tc sc nf fd me mp xn mt wh tq ag an ig)), ((q 2), aI g 600 bs), ((q 34), aI g 160 bg), ((q 35), aI g 160 ln), ((q 40), aZ g 600 (upd is_8 k 1)), ((q 41), aI g 600 dp9), ((q 42), aZ g 600 iw9), ((q 43), aI g 76800 kd)] := hD.sub [0, 1, 2, 3, 4, 5, 6, 7] (by decide) rfl
                    exact ih60 _ (by rw [← hk60, if_pos h69]; first | omega | (split <;> omega)) (k + 1 + n1) fa8 fp8 (upd is_8 k 1) ls _ _ rfl (fun _ => hz3) (by omega) (by omega) (fun _ => by exact mk_st hz4 ⟨n1, hn1, hfo, h110⟩) (lv_sub hl [0, 2, 3, 4] rfl) hP hD hS
                  · refine lv_aload_n hx hb d_Mod_markInstructions_113 rfl (lv_at hl 3 rfl) ?_
                    refine lv_bipush (v := 19) hx hb d_Mod_markInstructions_114 (by decide) ?_
                    refine lv_iload_n hx hb d_Mod_markInstructions_116 rfl (lv_at hl 1 rfl) ?_
                    refine tw_wv (wr := [((q 2), aI g 600 bs), ((q 34), aI g 160 bg), ((q 35), aI g 160 ln), ((q 40), aZ g 600 (upd is_8 k 1)), ((q 41), aI g 600 dp9), ((q 42), aZ g 600 iw9), ((q 43), aI g 76800 kd)]) (tw_runV (ws := [(h0, .inr (10, mob q rf n mm mb fa8 fp8 av ev wi mn tp tc sc nf fd me mp xn mt wh tq ag an ig)), ((q 2), aI g 600 bs), ((q 34), aI g 160 bg), ((q 35), aI g 160 ln), ((q 40), aZ g 600 (upd is_8 k 1)), ((q 41), aI g 600 dp9), ((q 42), aZ g 600 iw9), ((q 43), aI g 76800 kd)]) (wc := [(h0, .inr (10, mob q rf n mm mb fa8 fp8 av ev wi mn tp tc sc nf fd me mp xn mt wh tq ag an ig))]) (As := [.int 19, .int (nI k)]) (rest := []) E hB hK hZ (g_Mod_fail l g H.size h0 q rf n mm mb av ev wi mn tp tc sc nf fd me mp xn mt wh tq ag an ig fa8 fp8 19 (nI k) (by decide)) mc_Mod_fail mi_Mod_fail me_Mod_fail wd_1478 hP hD hS hA [0] rfl (by decide) 0 rfl rfl rfl rfl rfl (by decide) rfl hl.1 rfl (Nat.le_of_ble_eq_true rfl) (by decide) d_Mod_markInstructions_117) hP hD hS hA [0] [1, 2, 3, 4, 5, 6, 7] rfl rfl (by decide) (by decide) (fun u7 H locs hr6 hP hD hS => ?_)
                    try dsimp only at hr6
                    have hP : va_P g.1 classes [((q 2), aI g 600 bs), ((q 34), aI g 160 bg), ((q 35), aI g 160 ln), ((q 40), aZ g 600 (upd is_8 k 1)), ((q 41), aI g 600 dp9), ((q 42), aZ g 600 iw9), ((q 43), aI g 76800 kd), (h0, .inr (10, mob q rf n mm mb u7.1 u7.2 av ev wi mn tp tc sc nf fd me mp xn mt wh tq ag an ig))] H := hP
                    have hD : va_D A [((q 2), aI g 600 bs), ((q 34), aI g 160 bg), ((q 35), aI g 160 ln), ((q 40), aZ g 600 (upd is_8 k 1)), ((q 41), aI g 600 dp9), ((q 42), aZ g 600 iw9), ((q 43), aI g 76800 kd), (h0, .inr (10, mob q rf n mm mb u7.1 u7.2 av ev wi mn tp tc sc nf fd me mp xn mt wh tq ag an ig))] := hD
                    have hP : va_P g.1 classes [(h0, .inr (10, mob q rf n mm mb u7.1 u7.2 av ev wi mn tp tc sc nf fd me mp xn mt wh tq ag an ig)), ((q 2), aI g 600 bs), ((q 34), aI g 160 bg), ((q 35), aI g 160 ln), ((q 40), aZ g 600 (upd is_8 k 1)), ((q 41), aI g 600 dp9), ((q 42), aZ g 600 iw9), ((q 43), aI g 76800 kd)] H := hP.sub [7, 0, 1, 2, 3, 4, 5, 6] rfl
                    have hD : va_D A [(h0, .inr (10, mob q rf n mm mb u7.1 u7.2 av ev wi mn tp tc sc nf fd me mp xn mt wh tq ag an ig)), ((q 2), aI g 600 bs), ((q 34), aI g 160 bg), ((q 35), aI g 160 ln), ((q 40), aZ g 600 (upd is_8 k 1)), ((q 41), aI g 600 dp9), ((q 42), aZ g 600 iw9), ((q 43), aI g 76800 kd)] := hD.sub [7, 0, 1, 2, 3, 4, 5, 6] (by decide) rfl
                    have hp7_0 := hr6
                    refine lv_iload_n hx hb d_Mod_markInstructions_120 rfl (lv_at hl 1 rfl) ?_
                    refine lv_iconst (v := 1) hx hb d_Mod_markInstructions_121 (by decide) ?_
                    refine lv_iadd hx hb d_Mod_markInstructions_122 ?_
                    refine tw_ri (e2 := nI (k + 1)) (nI_add k 1) ?_
                    refine lv_iload hx hb d_Mod_markInstructions_123 (lv_at hl 0 rfl) ?_
                    refine lv_iadd hx hb d_Mod_markInstructions_125 ?_
                    refine tw_ri (e2 := nI (k + 1 + n1)) (nI_add _ _) ?_
                    refine lv_istore_n hx hb d_Mod_markInstructions_126 rfl hl (by decide) rfl (fun ls hl => ?_)
                    have hl : lv_has ls 5 [(3, .int (nI (k + 1 + n1))), (4, .int (nI n1)), (2, .int (nI (b1 + l1))), (0, .ref h0), (1, .int (nI mi))] := hl
                    refine lv_goto (tgt := 60) hx hb d_Mod_markInstructions_127 (by decide) ?_
                    have hP : va_P g.1 classes [(h0, .inr (10, mob q rf n mm mb u7.1 u7.2 av ev wi mn tp tc sc nf fd me mp xn mt wh tq ag an ig)), ((q 2), aI g 600 bs), ((q 34), aI g 160 bg), ((q 35), aI g 160 ln), ((q 40), aZ g 600 (upd is_8 k 1)), ((q 41), aI g 600 dp9), ((q 42), aZ g 600 iw9), ((q 43), aI g 76800 kd)] H := hP.sub [0, 1, 2, 3, 4, 5, 6, 7] rfl
                    have hD : va_D A [(h0, .inr (10, mob q rf n mm mb u7.1 u7.2 av ev wi mn tp tc sc nf fd me mp xn mt wh tq ag an ig)), ((q 2), aI g 600 bs), ((q 34), aI g 160 bg), ((q 35), aI g 160 ln), ((q 40), aZ g 600 (upd is_8 k 1)), ((q 41), aI g 600 dp9), ((q 42), aZ g 600 iw9), ((q 43), aI g 76800 kd)] := hD.sub [0, 1, 2, 3, 4, 5, 6, 7] (by decide) rfl
                    exact ih60 _ (by rw [← hk60, if_pos h69]; first | omega | (split <;> omega)) (k + 1 + n1) u7.1 u7.2 (upd is_8 k 1) ls _ _ rfl (fun h => absurd h hp7_0) (by omega) (by omega) (fun h => absurd h hp7_0) (lv_sub hl [0, 2, 3, 4] rfl) hP hD hS
                · have hre := fo_m hB5.1 h92
                  subst hre
                  refine lv_aload_n hx hb d_Mod_markInstructions_95 rfl (lv_at hl 3 rfl) ?_
                  refine lv_bipush (v := 18) hx hb d_Mod_markInstructions_96 (by decide) ?_
                  refine lv_iload_n hx hb d_Mod_markInstructions_98 rfl (lv_at hl 1 rfl) ?_
                  refine tw_wv (wr := [((q 2), aI g 600 bs), ((q 34), aI g 160 bg), ((q 35), aI g 160 ln), ((q 40), aZ g 600 (upd is_8 k 1)), ((q 41), aI g 600 dp9), ((q 42), aZ g 600 iw9), ((q 43), aI g 76800 kd)]) (tw_runV (ws := [(h0, .inr (10, mob q rf n mm mb fa8 fp8 av ev wi mn tp tc sc nf fd me mp xn mt wh tq ag an ig)), ((q 2), aI g 600 bs), ((q 34), aI g 160 bg), ((q 35), aI g 160 ln), ((q 40), aZ g 600 (upd is_8 k 1)), ((q 41), aI g 600 dp9), ((q 42), aZ g 600 iw9), ((q 43), aI g 76800 kd)]) (wc := [(h0, .inr (10, mob q rf n mm mb fa8 fp8 av ev wi mn tp tc sc nf fd me mp xn mt wh tq ag an ig))]) (As := [.int 18, .int (nI k)]) (rest := []) E hB hK hZ (g_Mod_fail l g H.size h0 q rf n mm mb av ev wi mn tp tc sc nf fd me mp xn mt wh tq ag an ig fa8 fp8 18 (nI k) (by decide)) mc_Mod_fail mi_Mod_fail me_Mod_fail wd_1478 hP hD hS hA [0] rfl (by decide) 0 rfl rfl rfl rfl rfl (by decide) rfl hl.1 rfl (Nat.le_of_ble_eq_true rfl) (by decide) d_Mod_markInstructions_99) hP hD hS hA [0] [1, 2, 3, 4, 5, 6, 7] rfl rfl (by decide) (by decide) (fun u9 H locs hr8 hP hD hS => ?_)
                  try dsimp only at hr8
                  have hP : va_P g.1 classes [((q 2), aI g 600 bs), ((q 34), aI g 160 bg), ((q 35), aI g 160 ln), ((q 40), aZ g 600 (upd is_8 k 1)), ((q 41), aI g 600 dp9), ((q 42), aZ g 600 iw9), ((q 43), aI g 76800 kd), (h0, .inr (10, mob q rf n mm mb u9.1 u9.2 av ev wi mn tp tc sc nf fd me mp xn mt wh tq ag an ig))] H := hP
                  have hD : va_D A [((q 2), aI g 600 bs), ((q 34), aI g 160 bg), ((q 35), aI g 160 ln), ((q 40), aZ g 600 (upd is_8 k 1)), ((q 41), aI g 600 dp9), ((q 42), aZ g 600 iw9), ((q 43), aI g 76800 kd), (h0, .inr (10, mob q rf n mm mb u9.1 u9.2 av ev wi mn tp tc sc nf fd me mp xn mt wh tq ag an ig))] := hD
                  have hP : va_P g.1 classes [(h0, .inr (10, mob q rf n mm mb u9.1 u9.2 av ev wi mn tp tc sc nf fd me mp xn mt wh tq ag an ig)), ((q 2), aI g 600 bs), ((q 34), aI g 160 bg), ((q 35), aI g 160 ln), ((q 40), aZ g 600 (upd is_8 k 1)), ((q 41), aI g 600 dp9), ((q 42), aZ g 600 iw9), ((q 43), aI g 76800 kd)] H := hP.sub [7, 0, 1, 2, 3, 4, 5, 6] rfl
                  have hD : va_D A [(h0, .inr (10, mob q rf n mm mb u9.1 u9.2 av ev wi mn tp tc sc nf fd me mp xn mt wh tq ag an ig)), ((q 2), aI g 600 bs), ((q 34), aI g 160 bg), ((q 35), aI g 160 ln), ((q 40), aZ g 600 (upd is_8 k 1)), ((q 41), aI g 600 dp9), ((q 42), aZ g 600 iw9), ((q 43), aI g 76800 kd)] := hD.sub [7, 0, 1, 2, 3, 4, 5, 6] (by decide) rfl
                  have hp9_0 := hr8
                  refine lv_goto (tgt := 120) hx hb d_Mod_markInstructions_102 (by decide) ?_
                  refine lv_iload_n hx hb d_Mod_markInstructions_120 rfl (lv_at hl 1 rfl) ?_
                  refine lv_iconst (v := 1) hx hb d_Mod_markInstructions_121 (by decide) ?_
                  refine lv_iadd hx hb d_Mod_markInstructions_122 ?_
                  refine tw_ri (e2 := nI (k + 1)) (nI_add k 1) ?_
                  refine lv_iload hx hb d_Mod_markInstructions_123 (lv_at hl 0 rfl) ?_
                  refine lv_iadd hx hb d_Mod_markInstructions_125 ?_
                  refine tw_ri (e2 := nI k) (nI_p1m1 k) ?_
                  refine lv_istore_n hx hb d_Mod_markInstructions_126 rfl hl (by decide) rfl (fun ls hl => ?_)
                  have hl : lv_has ls 5 [(3, .int (nI k)), (4, .int (-1)), (2, .int (nI (b1 + l1))), (0, .ref h0), (1, .int (nI mi))] := hl
                  refine lv_goto (tgt := 60) hx hb d_Mod_markInstructions_127 (by decide) ?_
                  have hP : va_P g.1 classes [(h0, .inr (10, mob q rf n mm mb u9.1 u9.2 av ev wi mn tp tc sc nf fd me mp xn mt wh tq ag an ig)), ((q 2), aI g 600 bs), ((q 34), aI g 160 bg), ((q 35), aI g 160 ln), ((q 40), aZ g 600 (upd is_8 k 1)), ((q 41), aI g 600 dp9), ((q 42), aZ g 600 iw9), ((q 43), aI g 76800 kd)] H := hP.sub [0, 1, 2, 3, 4, 5, 6, 7] rfl
                  have hD : va_D A [(h0, .inr (10, mob q rf n mm mb u9.1 u9.2 av ev wi mn tp tc sc nf fd me mp xn mt wh tq ag an ig)), ((q 2), aI g 600 bs), ((q 34), aI g 160 bg), ((q 35), aI g 160 ln), ((q 40), aZ g 600 (upd is_8 k 1)), ((q 41), aI g 600 dp9), ((q 42), aZ g 600 iw9), ((q 43), aI g 76800 kd)] := hD.sub [0, 1, 2, 3, 4, 5, 6, 7] (by decide) rfl
                  exact ih60 _ (by rw [← hk60, if_pos h69, if_neg hp9_0]; omega) k u9.1 u9.2 (upd is_8 k 1) ls _ _ rfl (fun h => absurd h hp9_0) (by omega) (by omega) (fun h => absurd h hp9_0) (lv_sub hl [0, 2, 3, 4] rfl) hP hD hS
        exact loop60 _ b1 fa fp is_9 ls _ _ rfl (fun h => h) (by omega) (Nat.le_refl _) (fun _ j h1 h2 h9 => absurd (hz9 j h1 (by omega)) h9) (lv_sub hl [0, 1, 2, 3] rfl) hP hD hS
      · have h23 := tn_nle h23 (by omega) (by omega)
        refine lv_aload_n hx hb d_Mod_markInstructions_26 rfl (lv_at hl 2 rfl) ?_
        refine va_get (D := g.1) (ci := 10) (v := .ref (q 40)) (C := R_Mod) (T := F_Mod) (N := 61) hx hb hts in_Mod hown hK hP 0 rfl rfl 40 (by decide) (hts _ wd_1290) (fun _ h9 => h9) rfl d_Mod_markInstructions_27 ?_
        refine lv_iload_n hx hb d_Mod_markInstructions_30 rfl (lv_at hl 0 rfl) ?_
        refine lv_iconst (v := 0) hx hb d_Mod_markInstructions_31 (by decide) ?_
        refine va_zast hx hb hK hP hD hS 4 3 rfl rfl (vp_in_nI (by omega) (by decide)) d_Mod_markInstructions_32 (fun H locs hP hD hS => ?_)
        have hP : va_P g.1 classes [(h0, .inr (10, mob q rf n mm mb fa fp av ev wi mn tp tc sc nf fd me mp xn mt wh tq ag an ig)), ((q 2), aI g 600 bs), ((q 34), aI g 160 bg), ((q 35), aI g 160 ln), ((q 40), aZ g 600 (upd is_9 (nI k).toNatClampNeg (vp_nar .boolean 0))), ((q 41), aI g 600 dp9), ((q 42), aZ g 600 iw9), ((q 43), aI g 76800 kd)] H := hP
        have hD : va_D A [(h0, .inr (10, mob q rf n mm mb fa fp av ev wi mn tp tc sc nf fd me mp xn mt wh tq ag an ig)), ((q 2), aI g 600 bs), ((q 34), aI g 160 bg), ((q 35), aI g 160 ln), ((q 40), aZ g 600 (upd is_9 (nI k).toNatClampNeg (vp_nar .boolean 0))), ((q 41), aI g 600 dp9), ((q 42), aZ g 600 iw9), ((q 43), aI g 76800 kd)] := hD
        have e9 : upd is_9 (nI k).toNatClampNeg (vp_nar .boolean 0) = upd is_9 k 0 := by rw [nI_clamp (by omega)]; rfl
        rw [e9] at hP hD
        refine lv_aload_n hx hb d_Mod_markInstructions_33 rfl (lv_at hl 2 rfl) ?_
        refine va_get (D := g.1) (ci := 10) (v := .ref (q 42)) (C := R_Mod) (T := F_Mod) (N := 61) hx hb hts in_Mod hown hK hP 0 rfl rfl 42 (by decide) (hts _ wd_1292) (fun _ h9 => h9) rfl d_Mod_markInstructions_34 ?_
        refine lv_iload_n hx hb d_Mod_markInstructions_37 rfl (lv_at hl 0 rfl) ?_
        refine lv_iconst (v := 0) hx hb d_Mod_markInstructions_38 (by decide) ?_
        refine va_zast hx hb hK hP hD hS 6 3 rfl rfl (vp_in_nI (by omega) (by decide)) d_Mod_markInstructions_39 (fun H locs hP hD hS => ?_)
        have hP : va_P g.1 classes [(h0, .inr (10, mob q rf n mm mb fa fp av ev wi mn tp tc sc nf fd me mp xn mt wh tq ag an ig)), ((q 2), aI g 600 bs), ((q 34), aI g 160 bg), ((q 35), aI g 160 ln), ((q 40), aZ g 600 (upd is_9 k 0)), ((q 41), aI g 600 dp9), ((q 42), aZ g 600 (upd iw9 (nI k).toNatClampNeg (vp_nar .boolean 0))), ((q 43), aI g 76800 kd)] H := hP
        have hD : va_D A [(h0, .inr (10, mob q rf n mm mb fa fp av ev wi mn tp tc sc nf fd me mp xn mt wh tq ag an ig)), ((q 2), aI g 600 bs), ((q 34), aI g 160 bg), ((q 35), aI g 160 ln), ((q 40), aZ g 600 (upd is_9 k 0)), ((q 41), aI g 600 dp9), ((q 42), aZ g 600 (upd iw9 (nI k).toNatClampNeg (vp_nar .boolean 0))), ((q 43), aI g 76800 kd)] := hD
        have e9 : upd iw9 (nI k).toNatClampNeg (vp_nar .boolean 0) = upd iw9 k 0 := by rw [nI_clamp (by omega)]; rfl
        rw [e9] at hP hD
        refine lv_aload_n hx hb d_Mod_markInstructions_40 rfl (lv_at hl 2 rfl) ?_
        refine va_get (D := g.1) (ci := 10) (v := .ref (q 41)) (C := R_Mod) (T := F_Mod) (N := 61) hx hb hts in_Mod hown hK hP 0 rfl rfl 41 (by decide) (hts _ wd_1291) (fun _ h9 => h9) rfl d_Mod_markInstructions_41 ?_
        refine lv_iload_n hx hb d_Mod_markInstructions_44 rfl (lv_at hl 0 rfl) ?_
        refine lv_iconst (v := (-1)) hx hb d_Mod_markInstructions_45 (by decide) ?_
        refine va_iast hx hb hK hP hD hS 5 0 rfl rfl (vp_in_nI (by omega) (by decide)) d_Mod_markInstructions_46 (fun H locs hP hD hS => ?_)
        have hP : va_P g.1 classes [(h0, .inr (10, mob q rf n mm mb fa fp av ev wi mn tp tc sc nf fd me mp xn mt wh tq ag an ig)), ((q 2), aI g 600 bs), ((q 34), aI g 160 bg), ((q 35), aI g 160 ln), ((q 40), aZ g 600 (upd is_9 k 0)), ((q 41), aI g 600 (upd dp9 (nI k).toNatClampNeg (-1))), ((q 42), aZ g 600 (upd iw9 k 0)), ((q 43), aI g 76800 kd)] H := hP
        have hD : va_D A [(h0, .inr (10, mob q rf n mm mb fa fp av ev wi mn tp tc sc nf fd me mp xn mt wh tq ag an ig)), ((q 2), aI g 600 bs), ((q 34), aI g 160 bg), ((q 35), aI g 160 ln), ((q 40), aZ g 600 (upd is_9 k 0)), ((q 41), aI g 600 (upd dp9 (nI k).toNatClampNeg (-1))), ((q 42), aZ g 600 (upd iw9 k 0)), ((q 43), aI g 76800 kd)] := hD
        have e9 : upd dp9 (nI k).toNatClampNeg (-1) = upd dp9 k (-1) := by rw [nI_clamp (by omega)]
        rw [e9] at hP hD
        refine lv_iinc (k := 0) (v := nI (k + 1)) hx hb d_Mod_markInstructions_47 hl rfl ((nI_succ k).symm) (by decide) rfl (fun ls hl => ?_)
        have hl : lv_has ls 5 [(3, .int (nI (k + 1))), (2, .int (nI (b1 + l1))), (0, .ref h0), (1, .int (nI mi))] := hl
        refine lv_goto (tgt := 21) hx hb d_Mod_markInstructions_50 (by decide) ?_
        have hP : va_P g.1 classes [(h0, .inr (10, mob q rf n mm mb fa fp av ev wi mn tp tc sc nf fd me mp xn mt wh tq ag an ig)), ((q 2), aI g 600 bs), ((q 34), aI g 160 bg), ((q 35), aI g 160 ln), ((q 40), aZ g 600 (upd is_9 k 0)), ((q 41), aI g 600 (upd dp9 k (-1))), ((q 42), aZ g 600 (upd iw9 k 0)), ((q 43), aI g 76800 kd)] H := hP.sub [0, 1, 2, 3, 4, 5, 6, 7] rfl
        have hD : va_D A [(h0, .inr (10, mob q rf n mm mb fa fp av ev wi mn tp tc sc nf fd me mp xn mt wh tq ag an ig)), ((q 2), aI g 600 bs), ((q 34), aI g 160 bg), ((q 35), aI g 160 ln), ((q 40), aZ g 600 (upd is_9 k 0)), ((q 41), aI g 600 (upd dp9 k (-1))), ((q 42), aZ g 600 (upd iw9 k 0)), ((q 43), aI g 76800 kd)] := hD.sub [0, 1, 2, 3, 4, 5, 6, 7] (by decide) rfl
        exact ih _ (by omega) (k + 1) (upd is_9 k 0) (upd dp9 k (-1)) (upd iw9 k 0) ls _ _ rfl (by omega) (by omega) (mk_z hz9) (hFR9.mark (by omega)) (lv_sub hl [0, 1, 2, 3] rfl) hP hD hS
  exact loop21 _ b1 is_ dp iw ls _ _ rfl (Nat.le_refl _) (by omega) (fun j h1 h2 => absurd h2 (by omega)) hFR (hl) hP hD hS
