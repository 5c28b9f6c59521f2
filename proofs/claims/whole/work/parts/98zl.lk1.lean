set_option maxHeartbeats 4000000 in
set_option maxRecDepth 100000 in
theorem g_Mod_endOf (l : Launch) (g : tw_G) (sz : Nat) (h0 : Nat) (q : Nat → Nat) (rf : Int32) (n : Nat) (mm : Int32) (mb : Int32) (fa : Int32) (fp : Int32) (av : Nat) (ev : Nat) (wi : Int32) (mn : Nat) (tp : Int32) (tc : Int32) (sc : Int32) (nf : Nat) (fd : Nat) (me : Nat) (mp : Int32) (xn : Nat) (mt : Nat) (wh : Nat) (tq : Nat) (ag : Nat) (an : Int32) (ig : Int32) (on : Nat → Int32) (tw : Nat → Int32) (k : Nat) (p1 l1 : Nat) (k6k : k < 620) (q1k : on k = nI p1) (q2k : tw k = nI l1) (q3k : p1 + l1 ≤ 600) : Met l y_Mod_endOf [.code y_Mod_endOf b_Mod_endOf 2 (some .int)] ({ frames := 0, cells := 0, slots := 0, locals := 0 }) (tw_P g [.ref h0, .int (nI k)] [(h0, .inr (10, mob q rf n mm mb fa fp av ev wi mn tp tc sc nf fd me mp xn mt wh tq ag an ig)), ((q 16), aI g 620 on), ((q 17), aI g 620 tw)] sz) (vp_Si (fun (r : Int32) => r = nI (p1 + l1))) 0 0 (fun _ => False) := by
  refine tw_met (l := l) (g := g) (y := y_Mod_endOf) (cc := b_Mod_endOf) (maxL := 2) (ret := (some .int)) (rm := { frames := 0, cells := 0, slots := 0, locals := 0 }) (mc := 0) (ms := 0) (av := [.ref h0, .int (nI k)]) (ws := [(h0, .inr (10, mob q rf n mm mb fa fp av ev wi mn tp tc sc nf fd me mp xn mt wh tq ag an ig)), ((q 16), aI g 620 on), ((q 17), aI g 620 tw)]) (sz := sz) (Qc := fun _ => (vp_Si (fun (r : Int32) => r = nI (p1 + l1)))) (free := fun _ _ => False) (by decide) (Nat.le_of_ble_eq_true rfl) ?_
  intro p e s m below meth c ls A E hB hK hZ hP hD hS hA hl
  obtain ⟨hx, hb, hml, hr, hown, hts, hlocks, hin⟩ := id E
  have hl : lv_has ls 2 [(0, .ref h0), (1, .int (nI k))] := hl
  refine lv_aload_n hx hb d_Mod_endOf_0 rfl (lv_at hl 0 rfl) ?_
  refine va_get (D := g.1) (ci := 10) (v := .ref (q 16)) (C := R_Mod) (T := F_Mod) (N := 61) hx hb hts in_Mod hown hK hP 0 rfl rfl 16 (by decide) (hts _ wd_1266) (fun _ h9 => h9) rfl d_Mod_endOf_1 ?_
  refine lv_iload_n hx hb d_Mod_endOf_4 rfl (lv_at hl 1 rfl) ?_
  refine va_iald hx hb hK hP 1 0 rfl rfl (vp_in_nI (by omega) (by decide)) d_Mod_endOf_5 ?_
  refine tw_ri (e2 := nI p1) (by rw [nI_clamp (by omega)]; exact q1k) ?_
  refine lv_aload_n hx hb d_Mod_endOf_6 rfl (lv_at hl 0 rfl) ?_
  refine va_get (D := g.1) (ci := 10) (v := .ref (q 17)) (C := R_Mod) (T := F_Mod) (N := 61) hx hb hts in_Mod hown hK hP 0 rfl rfl 17 (by decide) (hts _ wd_1267) (fun _ h9 => h9) rfl d_Mod_endOf_7 ?_
  refine lv_iload_n hx hb d_Mod_endOf_10 rfl (lv_at hl 1 rfl) ?_
  refine va_iald hx hb hK hP 2 0 rfl rfl (vp_in_nI (by omega) (by decide)) d_Mod_endOf_11 ?_
  refine tw_ri (e2 := nI l1) (by rw [nI_clamp (by omega)]; exact q2k) ?_
  refine lv_iadd hx hb d_Mod_endOf_12 ?_
  refine tw_ri (e2 := nI (p1 + l1)) (nI_add _ _) ?_
  exact tw_isret E rfl d_Mod_endOf_13
set_option maxHeartbeats 4000000 in
set_option maxRecDepth 100000 in
theorem g_Mod_isInit (l : Launch) (g : tw_G) (sz : Nat) (h0 : Nat) (q : Nat → Nat) (rf : Int32) (n : Nat) (mm : Int32) (mb : Int32) (fa : Int32) (fp : Int32) (av : Nat) (ev : Nat) (wi : Int32) (mn : Nat) (tp : Int32) (tc : Int32) (sc : Int32) (nf : Nat) (fd : Nat) (me : Nat) (mp : Int32) (xn : Nat) (mt : Nat) (wh : Nat) (tq : Nat) (ag : Nat) (an : Int32) (ig : Int32) (bs : Nat → Int32) (on : Nat → Int32) (tw : Nat → Int32) (k : Nat) (p1 l1 : Nat) (k6k : k < 620) (q1k : on k = nI p1) (q2k : tw k = nI l1) (q3k : p1 + l1 ≤ 600) : Met l y_Mod_isInit [.code y_Mod_isInit b_Mod_isInit 3 (some .boolean)] ({ frames := 0, cells := 0, slots := 0, locals := 0 }) (tw_P g [.ref h0, .int (nI k)] [(h0, .inr (10, mob q rf n mm mb fa fp av ev wi mn tp tc sc nf fd me mp xn mt wh tq ag an ig)), ((q 2), aI g 600 bs), ((q 16), aI g 620 on), ((q 17), aI g 620 tw)] sz) (vp_Si (fun (r : Int32) => (r = 0 ∨ r = 1))) 0 0 (fun _ => False) := by
  refine tw_met (l := l) (g := g) (y := y_Mod_isInit) (cc := b_Mod_isInit) (maxL := 3) (ret := (some .boolean)) (rm := { frames := 0, cells := 0, slots := 0, locals := 0 }) (mc := 0) (ms := 0) (av := [.ref h0, .int (nI k)]) (ws := [(h0, .inr (10, mob q rf n mm mb fa fp av ev wi mn tp tc sc nf fd me mp xn mt wh tq ag an ig)), ((q 2), aI g 600 bs), ((q 16), aI g 620 on), ((q 17), aI g 620 tw)]) (sz := sz) (Qc := fun _ => (vp_Si (fun (r : Int32) => (r = 0 ∨ r = 1)))) (free := fun _ _ => False) (by decide) (Nat.le_of_ble_eq_true rfl) ?_
  intro p e s m below meth c ls A E hB hK hZ hP hD hS hA hl
  obtain ⟨hx, hb, hml, hr, hown, hts, hlocks, hin⟩ := id E
  have hl : lv_has ls 3 [(0, .ref h0), (1, .int (nI k))] := hl
  refine lv_aload_n hx hb d_Mod_isInit_0 rfl (lv_at hl 0 rfl) ?_
  refine va_get (D := g.1) (ci := 10) (v := .ref (q 16)) (C := R_Mod) (T := F_Mod) (N := 61) hx hb hts in_Mod hown hK hP 0 rfl rfl 16 (by decide) (hts _ wd_1266) (fun _ h9 => h9) rfl d_Mod_isInit_1 ?_
  refine lv_iload_n hx hb d_Mod_isInit_4 rfl (lv_at hl 1 rfl) ?_
  refine va_iald hx hb hK hP 2 0 rfl rfl (vp_in_nI (by omega) (by decide)) d_Mod_isInit_5 ?_
  refine tw_ri (e2 := nI p1) (by rw [nI_clamp (by omega)]; exact q1k) ?_
  refine lv_istore_n hx hb d_Mod_isInit_6 rfl hl (by decide) rfl (fun ls hl => ?_)
  have hl : lv_has ls 3 [(2, .int (nI p1)), (0, .ref h0), (1, .int (nI k))] := hl
  refine lv_aload_n hx hb d_Mod_isInit_7 rfl (lv_at hl 1 rfl) ?_
  refine va_get (D := g.1) (ci := 10) (v := .ref (q 17)) (C := R_Mod) (T := F_Mod) (N := 61) hx hb hts in_Mod hown hK hP 0 rfl rfl 17 (by decide) (hts _ wd_1267) (fun _ h9 => h9) rfl d_Mod_isInit_8 ?_
  refine lv_iload_n hx hb d_Mod_isInit_11 rfl (lv_at hl 2 rfl) ?_
  refine va_iald hx hb hK hP 3 0 rfl rfl (vp_in_nI (by omega) (by decide)) d_Mod_isInit_12 ?_
  refine tw_ri (e2 := nI l1) (by rw [nI_clamp (by omega)]; exact q2k) ?_
  refine lv_bipush (v := 6) hx hb d_Mod_isInit_13 (by decide) ?_
  refine lv_icmp_ne (tgt := 98) hx hb d_Mod_isInit_15 (by decide) (fun h15 => ?_) (fun h15 => ?_)
  · refine lv_iconst (v := 0) hx hb d_Mod_isInit_98 (by decide) ?_
    exact tw_zsret E (by decide) (by decide) d_Mod_isInit_99
  · have h15 := tn_eq (b := 6) h15 (by omega) (by decide)
    refine lv_aload_n hx hb d_Mod_isInit_18 rfl (lv_at hl 1 rfl) ?_
    refine va_get (D := g.1) (ci := 10) (v := .ref (q 2)) (C := R_Mod) (T := F_Mod) (N := 61) hx hb hts in_Mod hown hK hP 0 rfl rfl 2 (by decide) (hts _ wd_1252) (fun _ h9 => h9) rfl d_Mod_isInit_19 ?_
    refine lv_iload_n hx hb d_Mod_isInit_22 rfl (lv_at hl 0 rfl) ?_
    refine va_iald hx hb hK hP 1 0 rfl rfl (vp_in_nI (by omega) (by decide)) d_Mod_isInit_23 ?_
    obtain ⟨x1, ex1⟩ : ∃ z : Int32, bs ((nI p1).toNatClampNeg) = z := ⟨_, rfl⟩
    refine tw_ri (e2 := x1) ex1 ?_
    refine lv_bipush (v := 60) hx hb d_Mod_isInit_24 (by decide) ?_
    refine lv_icmp_ne (tgt := 98) hx hb d_Mod_isInit_26 (by decide) (fun h26 => ?_) (fun h26 => ?_)
    · refine lv_iconst (v := 0) hx hb d_Mod_isInit_98 (by decide) ?_
      exact tw_zsret E (by decide) (by decide) d_Mod_isInit_99
    · refine lv_aload_n hx hb d_Mod_isInit_29 rfl (lv_at hl 1 rfl) ?_
      refine va_get (D := g.1) (ci := 10) (v := .ref (q 2)) (C := R_Mod) (T := F_Mod) (N := 61) hx hb hts in_Mod hown hK hP 0 rfl rfl 2 (by decide) (hts _ wd_1252) (fun _ h9 => h9) rfl d_Mod_isInit_30 ?_
      refine lv_iload_n hx hb d_Mod_isInit_33 rfl (lv_at hl 0 rfl) ?_
      refine lv_iconst (v := 1) hx hb d_Mod_isInit_34 (by decide) ?_
      refine lv_iadd hx hb d_Mod_isInit_35 ?_
      refine tw_ri (e2 := nI (p1 + 1)) (nI_add p1 1) ?_
      refine va_iald hx hb hK hP 1 0 rfl rfl (vp_in_nI (by omega) (by decide)) d_Mod_isInit_36 ?_
      obtain ⟨x2, ex2⟩ : ∃ z : Int32, bs ((nI (p1 + 1)).toNatClampNeg) = z := ⟨_, rfl⟩
      refine tw_ri (e2 := x2) ex2 ?_
      refine lv_bipush (v := 105) hx hb d_Mod_isInit_37 (by decide) ?_
      refine lv_icmp_ne (tgt := 98) hx hb d_Mod_isInit_39 (by decide) (fun h39 => ?_) (fun h39 => ?_)
      · refine lv_iconst (v := 0) hx hb d_Mod_isInit_98 (by decide) ?_
        exact tw_zsret E (by decide) (by decide) d_Mod_isInit_99
      · refine lv_aload_n hx hb d_Mod_isInit_42 rfl (lv_at hl 1 rfl) ?_
        refine va_get (D := g.1) (ci := 10) (v := .ref (q 2)) (C := R_Mod) (T := F_Mod) (N := 61) hx hb hts in_Mod hown hK hP 0 rfl rfl 2 (by decide) (hts _ wd_1252) (fun _ h9 => h9) rfl d_Mod_isInit_43 ?_
        refine lv_iload_n hx hb d_Mod_isInit_46 rfl (lv_at hl 0 rfl) ?_
        refine lv_iconst (v := 2) hx hb d_Mod_isInit_47 (by decide) ?_
        refine lv_iadd hx hb d_Mod_isInit_48 ?_
        refine tw_ri (e2 := nI (p1 + 2)) (nI_add p1 2) ?_
        refine va_iald hx hb hK hP 1 0 rfl rfl (vp_in_nI (by omega) (by decide)) d_Mod_isInit_49 ?_
        obtain ⟨x3, ex3⟩ : ∃ z : Int32, bs ((nI (p1 + 2)).toNatClampNeg) = z := ⟨_, rfl⟩
        refine tw_ri (e2 := x3) ex3 ?_
        refine lv_bipush (v := 110) hx hb d_Mod_isInit_50 (by decide) ?_
        refine lv_icmp_ne (tgt := 98) hx hb d_Mod_isInit_52 (by decide) (fun h52 => ?_) (fun h52 => ?_)
        · refine lv_iconst (v := 0) hx hb d_Mod_isInit_98 (by decide) ?_
          exact tw_zsret E (by decide) (by decide) d_Mod_isInit_99
        · refine lv_aload_n hx hb d_Mod_isInit_55 rfl (lv_at hl 1 rfl) ?_
          refine va_get (D := g.1) (ci := 10) (v := .ref (q 2)) (C := R_Mod) (T := F_Mod) (N := 61) hx hb hts in_Mod hown hK hP 0 rfl rfl 2 (by decide) (hts _ wd_1252) (fun _ h9 => h9) rfl d_Mod_isInit_56 ?_
          refine lv_iload_n hx hb d_Mod_isInit_59 rfl (lv_at hl 0 rfl) ?_
          refine lv_iconst (v := 3) hx hb d_Mod_isInit_60 (by decide) ?_
          refine lv_iadd hx hb d_Mod_isInit_61 ?_
          refine tw_ri (e2 := nI (p1 + 3)) (nI_add p1 3) ?_
          refine va_iald hx hb hK hP 1 0 rfl rfl (vp_in_nI (by omega) (by decide)) d_Mod_isInit_62 ?_
          obtain ⟨x4, ex4⟩ : ∃ z : Int32, bs ((nI (p1 + 3)).toNatClampNeg) = z := ⟨_, rfl⟩
          refine tw_ri (e2 := x4) ex4 ?_
          refine lv_bipush (v := 105) hx hb d_Mod_isInit_63 (by decide) ?_
          refine lv_icmp_ne (tgt := 98) hx hb d_Mod_isInit_65 (by decide) (fun h65 => ?_) (fun h65 => ?_)
          · refine lv_iconst (v := 0) hx hb d_Mod_isInit_98 (by decide) ?_
            exact tw_zsret E (by decide) (by decide) d_Mod_isInit_99
          · refine lv_aload_n hx hb d_Mod_isInit_68 rfl (lv_at hl 1 rfl) ?_
            refine va_get (D := g.1) (ci := 10) (v := .ref (q 2)) (C := R_Mod) (T := F_Mod) (N := 61) hx hb hts in_Mod hown hK hP 0 rfl rfl 2 (by decide) (hts _ wd_1252) (fun _ h9 => h9) rfl d_Mod_isInit_69 ?_
            refine lv_iload_n hx hb d_Mod_isInit_72 rfl (lv_at hl 0 rfl) ?_
            refine lv_iconst (v := 4) hx hb d_Mod_isInit_73 (by decide) ?_
            refine lv_iadd hx hb d_Mod_isInit_74 ?_
            refine tw_ri (e2 := nI (p1 + 4)) (nI_add p1 4) ?_
            refine va_iald hx hb hK hP 1 0 rfl rfl (vp_in_nI (by omega) (by decide)) d_Mod_isInit_75 ?_
            obtain ⟨x5, ex5⟩ : ∃ z : Int32, bs ((nI (p1 + 4)).toNatClampNeg) = z := ⟨_, rfl⟩
            refine tw_ri (e2 := x5) ex5 ?_
            refine lv_bipush (v := 116) hx hb d_Mod_isInit_76 (by decide) ?_
            refine lv_icmp_ne (tgt := 98) hx hb d_Mod_isInit_78 (by decide) (fun h78 => ?_) (fun h78 => ?_)
            · refine lv_iconst (v := 0) hx hb d_Mod_isInit_98 (by decide) ?_
              exact tw_zsret E (by decide) (by decide) d_Mod_isInit_99
            · refine lv_aload_n hx hb d_Mod_isInit_81 rfl (lv_at hl 1 rfl) ?_
              refine va_get (D := g.1) (ci := 10) (v := .ref (q 2)) (C := R_Mod) (T := F_Mod) (N := 61) hx hb hts in_Mod hown hK hP 0 rfl rfl 2 (by decide) (hts _ wd_1252) (fun _ h9 => h9) rfl d_Mod_isInit_82 ?_
              refine lv_iload_n hx hb d_Mod_isInit_85 rfl (lv_at hl 0 rfl) ?_
              refine lv_iconst (v := 5) hx hb d_Mod_isInit_86 (by decide) ?_
              refine lv_iadd hx hb d_Mod_isInit_87 ?_
              refine tw_ri (e2 := nI (p1 + 5)) (nI_add p1 5) ?_
              refine va_iald hx hb hK hP 1 0 rfl rfl (vp_in_nI (by omega) (by decide)) d_Mod_isInit_88 ?_
              obtain ⟨x6, ex6⟩ : ∃ z : Int32, bs ((nI (p1 + 5)).toNatClampNeg) = z := ⟨_, rfl⟩
              refine tw_ri (e2 := x6) ex6 ?_
              refine lv_bipush (v := 62) hx hb d_Mod_isInit_89 (by decide) ?_
              refine lv_icmp_ne (tgt := 98) hx hb d_Mod_isInit_91 (by decide) (fun h91 => ?_) (fun h91 => ?_)
              · refine lv_iconst (v := 0) hx hb d_Mod_isInit_98 (by decide) ?_
                exact tw_zsret E (by decide) (by decide) d_Mod_isInit_99
              · refine lv_iconst (v := 1) hx hb d_Mod_isInit_94 (by decide) ?_
                refine lv_goto (tgt := 99) hx hb d_Mod_isInit_95 (by decide) ?_
                exact tw_zsret E (by decide) (by decide) d_Mod_isInit_99
set_option maxHeartbeats 4000000 in
set_option maxRecDepth 100000 in
theorem g_Mod_isClassInit (l : Launch) (g : tw_G) (sz : Nat) (h0 : Nat) (q : Nat → Nat) (rf : Int32) (n : Nat) (mm : Int32) (mb : Int32) (fa : Int32) (fp : Int32) (av : Nat) (ev : Nat) (wi : Int32) (mn : Nat) (tp : Int32) (tc : Int32) (sc : Int32) (nf : Nat) (fd : Nat) (me : Nat) (mp : Int32) (xn : Nat) (mt : Nat) (wh : Nat) (tq : Nat) (ag : Nat) (an : Int32) (ig : Int32) (bs : Nat → Int32) (on : Nat → Int32) (tw : Nat → Int32) (k : Nat) (p1 l1 : Nat) (k6k : k < 620) (q1k : on k = nI p1) (q2k : tw k = nI l1) (q3k : p1 + l1 ≤ 600) : Met l y_Mod_isClassInit [.code y_Mod_isClassInit b_Mod_isClassInit 3 (some .boolean)] ({ frames := 0, cells := 0, slots := 0, locals := 0 }) (tw_P g [.ref h0, .int (nI k)] [(h0, .inr (10, mob q rf n mm mb fa fp av ev wi mn tp tc sc nf fd me mp xn mt wh tq ag an ig)), ((q 2), aI g 600 bs), ((q 16), aI g 620 on), ((q 17), aI g 620 tw)] sz) (vp_Si (fun (r : Int32) => (r = 0 ∨ r = 1))) 0 0 (fun _ => False) := by
  refine tw_met (l := l) (g := g) (y := y_Mod_isClassInit) (cc := b_Mod_isClassInit) (maxL := 3) (ret := (some .boolean)) (rm := { frames := 0, cells := 0, slots := 0, locals := 0 }) (mc := 0) (ms := 0) (av := [.ref h0, .int (nI k)]) (ws := [(h0, .inr (10, mob q rf n mm mb fa fp av ev wi mn tp tc sc nf fd me mp xn mt wh tq ag an ig)), ((q 2), aI g 600 bs), ((q 16), aI g 620 on), ((q 17), aI g 620 tw)]) (sz := sz) (Qc := fun _ => (vp_Si (fun (r : Int32) => (r = 0 ∨ r = 1)))) (free := fun _ _ => False) (by decide) (Nat.le_of_ble_eq_true rfl) ?_
  intro p e s m below meth c ls A E hB hK hZ hP hD hS hA hl
  obtain ⟨hx, hb, hml, hr, hown, hts, hlocks, hin⟩ := id E
  have hl : lv_has ls 3 [(0, .ref h0), (1, .int (nI k))] := hl
  refine lv_aload_n hx hb d_Mod_isClassInit_0 rfl (lv_at hl 0 rfl) ?_
  refine va_get (D := g.1) (ci := 10) (v := .ref (q 16)) (C := R_Mod) (T := F_Mod) (N := 61) hx hb hts in_Mod hown hK hP 0 rfl rfl 16 (by decide) (hts _ wd_1266) (fun _ h9 => h9) rfl d_Mod_isClassInit_1 ?_
  refine lv_iload_n hx hb d_Mod_isClassInit_4 rfl (lv_at hl 1 rfl) ?_
  refine va_iald hx hb hK hP 2 0 rfl rfl (vp_in_nI (by omega) (by decide)) d_Mod_isClassInit_5 ?_
  refine tw_ri (e2 := nI p1) (by rw [nI_clamp (by omega)]; exact q1k) ?_
  refine lv_istore_n hx hb d_Mod_isClassInit_6 rfl hl (by decide) rfl (fun ls hl => ?_)
  have hl : lv_has ls 3 [(2, .int (nI p1)), (0, .ref h0), (1, .int (nI k))] := hl
  refine lv_aload_n hx hb d_Mod_isClassInit_7 rfl (lv_at hl 1 rfl) ?_
  refine va_get (D := g.1) (ci := 10) (v := .ref (q 17)) (C := R_Mod) (T := F_Mod) (N := 61) hx hb hts in_Mod hown hK hP 0 rfl rfl 17 (by decide) (hts _ wd_1267) (fun _ h9 => h9) rfl d_Mod_isClassInit_8 ?_
  refine lv_iload_n hx hb d_Mod_isClassInit_11 rfl (lv_at hl 2 rfl) ?_
  refine va_iald hx hb hK hP 3 0 rfl rfl (vp_in_nI (by omega) (by decide)) d_Mod_isClassInit_12 ?_
  refine tw_ri (e2 := nI l1) (by rw [nI_clamp (by omega)]; exact q2k) ?_
  refine lv_bipush (v := 8) hx hb d_Mod_isClassInit_13 (by decide) ?_
  refine lv_icmp_ne (tgt := 126) hx hb d_Mod_isClassInit_15 (by decide) (fun h15 => ?_) (fun h15 => ?_)
  · refine lv_iconst (v := 0) hx hb d_Mod_isClassInit_126 (by decide) ?_
    exact tw_zsret E (by decide) (by decide) d_Mod_isClassInit_127
  · have h15 := tn_eq (b := 8) h15 (by omega) (by decide)
    refine lv_aload_n hx hb d_Mod_isClassInit_18 rfl (lv_at hl 1 rfl) ?_
    refine va_get (D := g.1) (ci := 10) (v := .ref (q 2)) (C := R_Mod) (T := F_Mod) (N := 61) hx hb hts in_Mod hown hK hP 0 rfl rfl 2 (by decide) (hts _ wd_1252) (fun _ h9 => h9) rfl d_Mod_isClassInit_19 ?_
    refine lv_iload_n hx hb d_Mod_isClassInit_22 rfl (lv_at hl 0 rfl) ?_
    refine va_iald hx hb hK hP 1 0 rfl rfl (vp_in_nI (by omega) (by decide)) d_Mod_isClassInit_23 ?_
    obtain ⟨x1, ex1⟩ : ∃ z : Int32, bs ((nI p1).toNatClampNeg) = z := ⟨_, rfl⟩
    refine tw_ri (e2 := x1) ex1 ?_
    refine lv_bipush (v := 60) hx hb d_Mod_isClassInit_24 (by decide) ?_
    refine lv_icmp_ne (tgt := 126) hx hb d_Mod_isClassInit_26 (by decide) (fun h26 => ?_) (fun h26 => ?_)
    · refine lv_iconst (v := 0) hx hb d_Mod_isClassInit_126 (by decide) ?_
      exact tw_zsret E (by decide) (by decide) d_Mod_isClassInit_127
    · refine lv_aload_n hx hb d_Mod_isClassInit_29 rfl (lv_at hl 1 rfl) ?_
      refine va_get (D := g.1) (ci := 10) (v := .ref (q 2)) (C := R_Mod) (T := F_Mod) (N := 61) hx hb hts in_Mod hown hK hP 0 rfl rfl 2 (by decide) (hts _ wd_1252) (fun _ h9 => h9) rfl d_Mod_isClassInit_30 ?_
      refine lv_iload_n hx hb d_Mod_isClassInit_33 rfl (lv_at hl 0 rfl) ?_
      refine lv_iconst (v := 1) hx hb d_Mod_isClassInit_34 (by decide) ?_
      refine lv_iadd hx hb d_Mod_isClassInit_35 ?_
      refine tw_ri (e2 := nI (p1 + 1)) (nI_add p1 1) ?_
      refine va_iald hx hb hK hP 1 0 rfl rfl (vp_in_nI (by omega) (by decide)) d_Mod_isClassInit_36 ?_
      obtain ⟨x2, ex2⟩ : ∃ z : Int32, bs ((nI (p1 + 1)).toNatClampNeg) = z := ⟨_, rfl⟩
      refine tw_ri (e2 := x2) ex2 ?_
      refine lv_bipush (v := 99) hx hb d_Mod_isClassInit_37 (by decide) ?_
      refine lv_icmp_ne (tgt := 126) hx hb d_Mod_isClassInit_39 (by decide) (fun h39 => ?_) (fun h39 => ?_)
      · refine lv_iconst (v := 0) hx hb d_Mod_isClassInit_126 (by decide) ?_
        exact tw_zsret E (by decide) (by decide) d_Mod_isClassInit_127
      · refine lv_aload_n hx hb d_Mod_isClassInit_42 rfl (lv_at hl 1 rfl) ?_
        refine va_get (D := g.1) (ci := 10) (v := .ref (q 2)) (C := R_Mod) (T := F_Mod) (N := 61) hx hb hts in_Mod hown hK hP 0 rfl rfl 2 (by decide) (hts _ wd_1252) (fun _ h9 => h9) rfl d_Mod_isClassInit_43 ?_
        refine lv_iload_n hx hb d_Mod_isClassInit_46 rfl (lv_at hl 0 rfl) ?_
        refine lv_iconst (v := 2) hx hb d_Mod_isClassInit_47 (by decide) ?_
        refine lv_iadd hx hb d_Mod_isClassInit_48 ?_
        refine tw_ri (e2 := nI (p1 + 2)) (nI_add p1 2) ?_
        refine va_iald hx hb hK hP 1 0 rfl rfl (vp_in_nI (by omega) (by decide)) d_Mod_isClassInit_49 ?_
        obtain ⟨x3, ex3⟩ : ∃ z : Int32, bs ((nI (p1 + 2)).toNatClampNeg) = z := ⟨_, rfl⟩
        refine tw_ri (e2 := x3) ex3 ?_
        refine lv_bipush (v := 108) hx hb d_Mod_isClassInit_50 (by decide) ?_
        refine lv_icmp_ne (tgt := 126) hx hb d_Mod_isClassInit_52 (by decide) (fun h52 => ?_) (fun h52 => ?_)
        · refine lv_iconst (v := 0) hx hb d_Mod_isClassInit_126 (by decide) ?_
          exact tw_zsret E (by decide) (by decide) d_Mod_isClassInit_127
        · refine lv_aload_n hx hb d_Mod_isClassInit_55 rfl (lv_at hl 1 rfl) ?_
          refine va_get (D := g.1) (ci := 10) (v := .ref (q 2)) (C := R_Mod) (T := F_Mod) (N := 61) hx hb hts in_Mod hown hK hP 0 rfl rfl 2 (by decide) (hts _ wd_1252) (fun _ h9 => h9) rfl d_Mod_isClassInit_56 ?_
          refine lv_iload_n hx hb d_Mod_isClassInit_59 rfl (lv_at hl 0 rfl) ?_
          refine lv_iconst (v := 3) hx hb d_Mod_isClassInit_60 (by decide) ?_
          refine lv_iadd hx hb d_Mod_isClassInit_61 ?_
          refine tw_ri (e2 := nI (p1 + 3)) (nI_add p1 3) ?_
          refine va_iald hx hb hK hP 1 0 rfl rfl (vp_in_nI (by omega) (by decide)) d_Mod_isClassInit_62 ?_
          obtain ⟨x4, ex4⟩ : ∃ z : Int32, bs ((nI (p1 + 3)).toNatClampNeg) = z := ⟨_, rfl⟩
          refine tw_ri (e2 := x4) ex4 ?_
          refine lv_bipush (v := 105) hx hb d_Mod_isClassInit_63 (by decide) ?_
          refine lv_icmp_ne (tgt := 126) hx hb d_Mod_isClassInit_65 (by decide) (fun h65 => ?_) (fun h65 => ?_)
          · refine lv_iconst (v := 0) hx hb d_Mod_isClassInit_126 (by decide) ?_
            exact tw_zsret E (by decide) (by decide) d_Mod_isClassInit_127
          · refine lv_aload_n hx hb d_Mod_isClassInit_68 rfl (lv_at hl 1 rfl) ?_
            refine va_get (D := g.1) (ci := 10) (v := .ref (q 2)) (C := R_Mod) (T := F_Mod) (N := 61) hx hb hts in_Mod hown hK hP 0 rfl rfl 2 (by decide) (hts _ wd_1252) (fun _ h9 => h9) rfl d_Mod_isClassInit_69 ?_
            refine lv_iload_n hx hb d_Mod_isClassInit_72 rfl (lv_at hl 0 rfl) ?_
            refine lv_iconst (v := 4) hx hb d_Mod_isClassInit_73 (by decide) ?_
            refine lv_iadd hx hb d_Mod_isClassInit_74 ?_
            refine tw_ri (e2 := nI (p1 + 4)) (nI_add p1 4) ?_
            refine va_iald hx hb hK hP 1 0 rfl rfl (vp_in_nI (by omega) (by decide)) d_Mod_isClassInit_75 ?_
            obtain ⟨x5, ex5⟩ : ∃ z : Int32, bs ((nI (p1 + 4)).toNatClampNeg) = z := ⟨_, rfl⟩
            refine tw_ri (e2 := x5) ex5 ?_
            refine lv_bipush (v := 110) hx hb d_Mod_isClassInit_76 (by decide) ?_
            refine lv_icmp_ne (tgt := 126) hx hb d_Mod_isClassInit_78 (by decide) (fun h78 => ?_) (fun h78 => ?_)
            · refine lv_iconst (v := 0) hx hb d_Mod_isClassInit_126 (by decide) ?_
              exact tw_zsret E (by decide) (by decide) d_Mod_isClassInit_127
            · refine lv_aload_n hx hb d_Mod_isClassInit_81 rfl (lv_at hl 1 rfl) ?_
              refine va_get (D := g.1) (ci := 10) (v := .ref (q 2)) (C := R_Mod) (T := F_Mod) (N := 61) hx hb hts in_Mod hown hK hP 0 rfl rfl 2 (by decide) (hts _ wd_1252) (fun _ h9 => h9) rfl d_Mod_isClassInit_82 ?_
              refine lv_iload_n hx hb d_Mod_isClassInit_85 rfl (lv_at hl 0 rfl) ?_
              refine lv_iconst (v := 5) hx hb d_Mod_isClassInit_86 (by decide) ?_
              refine lv_iadd hx hb d_Mod_isClassInit_87 ?_
              refine tw_ri (e2 := nI (p1 + 5)) (nI_add p1 5) ?_
              refine va_iald hx hb hK hP 1 0 rfl rfl (vp_in_nI (by omega) (by decide)) d_Mod_isClassInit_88 ?_
              obtain ⟨x6, ex6⟩ : ∃ z : Int32, bs ((nI (p1 + 5)).toNatClampNeg) = z := ⟨_, rfl⟩
              refine tw_ri (e2 := x6) ex6 ?_
              refine lv_bipush (v := 105) hx hb d_Mod_isClassInit_89 (by decide) ?_
              refine lv_icmp_ne (tgt := 126) hx hb d_Mod_isClassInit_91 (by decide) (fun h91 => ?_) (fun h91 => ?_)
              · refine lv_iconst (v := 0) hx hb d_Mod_isClassInit_126 (by decide) ?_
                exact tw_zsret E (by decide) (by decide) d_Mod_isClassInit_127
              · refine lv_aload_n hx hb d_Mod_isClassInit_94 rfl (lv_at hl 1 rfl) ?_
                refine va_get (D := g.1) (ci := 10) (v := .ref (q 2)) (C := R_Mod) (T := F_Mod) (N := 61) hx hb hts in_Mod hown hK hP 0 rfl rfl 2 (by decide) (hts _ wd_1252) (fun _ h9 => h9) rfl d_Mod_isClassInit_95 ?_
                refine lv_iload_n hx hb d_Mod_isClassInit_98 rfl (lv_at hl 0 rfl) ?_
                refine lv_bipush (v := 6) hx hb d_Mod_isClassInit_99 (by decide) ?_
                refine lv_iadd hx hb d_Mod_isClassInit_101 ?_
                refine tw_ri (e2 := nI (p1 + 6)) (nI_add p1 6) ?_
                refine va_iald hx hb hK hP 1 0 rfl rfl (vp_in_nI (by omega) (by decide)) d_Mod_isClassInit_102 ?_
                obtain ⟨x7, ex7⟩ : ∃ z : Int32, bs ((nI (p1 + 6)).toNatClampNeg) = z := ⟨_, rfl⟩
                refine tw_ri (e2 := x7) ex7 ?_
                refine lv_bipush (v := 116) hx hb d_Mod_isClassInit_103 (by decide) ?_
                refine lv_icmp_ne (tgt := 126) hx hb d_Mod_isClassInit_105 (by decide) (fun h105 => ?_) (fun h105 => ?_)
                · refine lv_iconst (v := 0) hx hb d_Mod_isClassInit_126 (by decide) ?_
                  exact tw_zsret E (by decide) (by decide) d_Mod_isClassInit_127
                · refine lv_aload_n hx hb d_Mod_isClassInit_108 rfl (lv_at hl 1 rfl) ?_
                  refine va_get (D := g.1) (ci := 10) (v := .ref (q 2)) (C := R_Mod) (T := F_Mod) (N := 61) hx hb hts in_Mod hown hK hP 0 rfl rfl 2 (by decide) (hts _ wd_1252) (fun _ h9 => h9) rfl d_Mod_isClassInit_109 ?_
                  refine lv_iload_n hx hb d_Mod_isClassInit_112 rfl (lv_at hl 0 rfl) ?_
                  refine lv_bipush (v := 7) hx hb d_Mod_isClassInit_113 (by decide) ?_
                  refine lv_iadd hx hb d_Mod_isClassInit_115 ?_
                  refine tw_ri (e2 := nI (p1 + 7)) (nI_add p1 7) ?_
                  refine va_iald hx hb hK hP 1 0 rfl rfl (vp_in_nI (by omega) (by decide)) d_Mod_isClassInit_116 ?_
                  obtain ⟨x8, ex8⟩ : ∃ z : Int32, bs ((nI (p1 + 7)).toNatClampNeg) = z := ⟨_, rfl⟩
                  refine tw_ri (e2 := x8) ex8 ?_
                  refine lv_bipush (v := 62) hx hb d_Mod_isClassInit_117 (by decide) ?_
                  refine lv_icmp_ne (tgt := 126) hx hb d_Mod_isClassInit_119 (by decide) (fun h119 => ?_) (fun h119 => ?_)
                  · refine lv_iconst (v := 0) hx hb d_Mod_isClassInit_126 (by decide) ?_
                    exact tw_zsret E (by decide) (by decide) d_Mod_isClassInit_127
                  · refine lv_iconst (v := 1) hx hb d_Mod_isClassInit_122 (by decide) ?_
                    refine lv_goto (tgt := 127) hx hb d_Mod_isClassInit_123 (by decide) ?_
                    exact tw_zsret E (by decide) (by decide) d_Mod_isClassInit_127
set_option maxHeartbeats 4000000 in
set_option maxRecDepth 100000 in
theorem g_Mod_sameTexts (l : Launch) (g : tw_G) (sz : Nat) (h0 : Nat) (q : Nat → Nat) (rf : Int32) (n : Nat) (mm : Int32) (mb : Int32) (fa : Int32) (fp : Int32) (av : Nat) (ev : Nat) (wi : Int32) (mn : Nat) (tp : Int32) (tc : Int32) (sc : Int32) (nf : Nat) (fd : Nat) (me : Nat) (mp : Int32) (xn : Nat) (mt : Nat) (wh : Nat) (tq : Nat) (ag : Nat) (an : Int32) (ig : Int32) (bs : Nat → Int32) (on : Nat → Int32) (tw : Nat → Int32) (k : Nat) (k2 : Nat) (p1 l1 p2 l2 : Nat) (k6k : k < 620) (q1k : on k = nI p1) (q2k : tw k = nI l1) (q3k : p1 + l1 ≤ 600) (k6k2 : k2 < 620) (q1k2 : on k2 = nI p2) (q2k2 : tw k2 = nI l2) (q3k2 : p2 + l2 ≤ 600) : Met l y_Mod_sameTexts [.code y_Mod_sameTexts b_Mod_sameTexts 5 (some .boolean)] ({ frames := 0, cells := 0, slots := 0, locals := 0 }) (tw_P g [.ref h0, .int (nI k), .int (nI k2)] [(h0, .inr (10, mob q rf n mm mb fa fp av ev wi mn tp tc sc nf fd me mp xn mt wh tq ag an ig)), ((q 2), aI g 600 bs), ((q 16), aI g 620 on), ((q 17), aI g 620 tw)] sz) (vp_Si (fun (r : Int32) => (r = 0 ∨ r = 1))) 0 0 (fun _ => False) := by
  refine tw_met (l := l) (g := g) (y := y_Mod_sameTexts) (cc := b_Mod_sameTexts) (maxL := 5) (ret := (some .boolean)) (rm := { frames := 0, cells := 0, slots := 0, locals := 0 }) (mc := 0) (ms := 0) (av := [.ref h0, .int (nI k), .int (nI k2)]) (ws := [(h0, .inr (10, mob q rf n mm mb fa fp av ev wi mn tp tc sc nf fd me mp xn mt wh tq ag an ig)), ((q 2), aI g 600 bs), ((q 16), aI g 620 on), ((q 17), aI g 620 tw)]) (sz := sz) (Qc := fun _ => (vp_Si (fun (r : Int32) => (r = 0 ∨ r = 1)))) (free := fun _ _ => False) (by decide) (Nat.le_of_ble_eq_true rfl) ?_
  intro p e s m below meth c ls A E hB hK hZ hP hD hS hA hl
  obtain ⟨hx, hb, hml, hr, hown, hts, hlocks, hin⟩ := id E
  have hl : lv_has ls 5 [(0, .ref h0), (1, .int (nI k)), (2, .int (nI k2))] := hl
  refine lv_aload_n hx hb d_Mod_sameTexts_0 rfl (lv_at hl 0 rfl) ?_
  refine va_get (D := g.1) (ci := 10) (v := .ref (q 17)) (C := R_Mod) (T := F_Mod) (N := 61) hx hb hts in_Mod hown hK hP 0 rfl rfl 17 (by decide) (hts _ wd_1267) (fun _ h9 => h9) rfl d_Mod_sameTexts_1 ?_
  refine lv_iload_n hx hb d_Mod_sameTexts_4 rfl (lv_at hl 1 rfl) ?_
  refine va_iald hx hb hK hP 3 0 rfl rfl (vp_in_nI (by omega) (by decide)) d_Mod_sameTexts_5 ?_
  refine tw_ri (e2 := nI l1) (by rw [nI_clamp (by omega)]; exact q2k) ?_
  refine lv_aload_n hx hb d_Mod_sameTexts_6 rfl (lv_at hl 0 rfl) ?_
  refine va_get (D := g.1) (ci := 10) (v := .ref (q 17)) (C := R_Mod) (T := F_Mod) (N := 61) hx hb hts in_Mod hown hK hP 0 rfl rfl 17 (by decide) (hts _ wd_1267) (fun _ h9 => h9) rfl d_Mod_sameTexts_7 ?_
  refine lv_iload_n hx hb d_Mod_sameTexts_10 rfl (lv_at hl 2 rfl) ?_
  refine va_iald hx hb hK hP 3 0 rfl rfl (vp_in_nI (by omega) (by decide)) d_Mod_sameTexts_11 ?_
  refine tw_ri (e2 := nI l2) (by rw [nI_clamp (by omega)]; exact q2k2) ?_
  refine lv_icmp_ne (tgt := 19) hx hb d_Mod_sameTexts_12 (by decide) (fun h12 => ?_) (fun h12 => ?_)
  · refine lv_iconst (v := 0) hx hb d_Mod_sameTexts_19 (by decide) ?_
    refine lv_istore_n hx hb d_Mod_sameTexts_20 rfl hl (by decide) rfl (fun ls hl => ?_)
    have hl : lv_has ls 5 [(3, .int 0), (0, .ref h0), (1, .int (nI k)), (2, .int (nI k2))] := hl
    refine lv_iconst (v := 0) hx hb d_Mod_sameTexts_21 (by decide) ?_
    refine lv_istore hx hb d_Mod_sameTexts_22 hl (by decide) rfl (fun ls hl => ?_)
    have hl : lv_has ls 5 [(4, .int 0), (3, .int 0), (0, .ref h0), (1, .int (nI k)), (2, .int (nI k2))] := hl
    have loop24 : ∀ (kq : Nat) (s9 : Int32) (i : Nat) (ls : Array Slot) , l1 - i = kq → (hi : i ≤ l1) → (hs9 : s9 = 0 ∨ s9 = 1) → (hsl : ¬ s9 = 0 → l1 = l2) → lv_has ls 5 [(4, .int (nI i)), (3, .int s9), (0, .ref h0), (1, .int (nI k)), (2, .int (nI k2))] → W p l e ({ frames := 0, cells := 0, slots := 0, locals := 0 }) s m [.ref h0, .int (nI k), .int (nI k2)].toArray below meth c s.heap [] 0 0 (MQ below (vp_Si (fun (r : Int32) => (r = 0 ∨ r = 1))) [.ref h0, .int (nI k), .int (nI k2)].toArray s 0 0 (fun _ => False)) (F0 m 24 ls []) := by
      intro kq
      induction kq using Nat.strongRecOn with
      | _ kq ih =>
        intro s9 i ls hk hi hs9 hsl hl 
        refine lv_iload_n hx hb d_Mod_sameTexts_24 rfl (lv_at hl 1 rfl) ?_
        refine lv_if_eq (tgt := 82) hx hb d_Mod_sameTexts_25 (by decide) (fun h25 => ?_) (fun h25 => ?_)
        · refine lv_iload_n hx hb d_Mod_sameTexts_82 rfl (lv_at hl 1 rfl) ?_
          exact tw_zsret E (tn_z hs9) hs9 d_Mod_sameTexts_83
        · refine lv_iload hx hb d_Mod_sameTexts_28 (lv_at hl 0 rfl) ?_
          refine lv_aload_n hx hb d_Mod_sameTexts_30 rfl (lv_at hl 2 rfl) ?_
          refine va_get (D := g.1) (ci := 10) (v := .ref (q 17)) (C := R_Mod) (T := F_Mod) (N := 61) hx hb hts in_Mod hown hK hP 0 rfl rfl 17 (by decide) (hts _ wd_1267) (fun _ h9 => h9) rfl d_Mod_sameTexts_31 ?_
          refine lv_iload_n hx hb d_Mod_sameTexts_34 rfl (lv_at hl 3 rfl) ?_
          refine va_iald hx hb hK hP 3 0 rfl rfl (vp_in_nI (by omega) (by decide)) d_Mod_sameTexts_35 ?_
          refine tw_ri (e2 := nI l1) (by rw [nI_clamp (by omega)]; exact q2k) ?_
          refine lv_icmp_ge (tgt := 82) hx hb d_Mod_sameTexts_36 (by decide) (fun h36 => ?_) (fun h36 => ?_)
          · refine lv_iload_n hx hb d_Mod_sameTexts_82 rfl (lv_at hl 1 rfl) ?_
            exact tw_zsret E (tn_z hs9) hs9 d_Mod_sameTexts_83
          · have h36 := tn_nle h36 (by omega) (by omega)
            have hll := hsl h25
            refine lv_aload_n hx hb d_Mod_sameTexts_39 rfl (lv_at hl 2 rfl) ?_
            refine va_get (D := g.1) (ci := 10) (v := .ref (q 2)) (C := R_Mod) (T := F_Mod) (N := 61) hx hb hts in_Mod hown hK hP 0 rfl rfl 2 (by decide) (hts _ wd_1252) (fun _ h9 => h9) rfl d_Mod_sameTexts_40 ?_
            refine lv_aload_n hx hb d_Mod_sameTexts_43 rfl (lv_at hl 2 rfl) ?_
            refine va_get (D := g.1) (ci := 10) (v := .ref (q 16)) (C := R_Mod) (T := F_Mod) (N := 61) hx hb hts in_Mod hown hK hP 0 rfl rfl 16 (by decide) (hts _ wd_1266) (fun _ h9 => h9) rfl d_Mod_sameTexts_44 ?_
            refine lv_iload_n hx hb d_Mod_sameTexts_47 rfl (lv_at hl 3 rfl) ?_
            refine va_iald hx hb hK hP 2 0 rfl rfl (vp_in_nI (by omega) (by decide)) d_Mod_sameTexts_48 ?_
            refine tw_ri (e2 := nI p1) (by rw [nI_clamp (by omega)]; exact q1k) ?_
            refine lv_iload hx hb d_Mod_sameTexts_49 (lv_at hl 0 rfl) ?_
            refine lv_iadd hx hb d_Mod_sameTexts_51 ?_
            refine tw_ri (e2 := nI (p1 + i)) (nI_add _ _) ?_
            refine va_iald hx hb hK hP 1 0 rfl rfl (vp_in_nI (by omega) (by decide)) d_Mod_sameTexts_52 ?_
            obtain ⟨x1, ex1⟩ : ∃ z : Int32, bs ((nI (p1 + i)).toNatClampNeg) = z := ⟨_, rfl⟩
            refine tw_ri (e2 := x1) ex1 ?_
            refine lv_aload_n hx hb d_Mod_sameTexts_53 rfl (lv_at hl 2 rfl) ?_
            refine va_get (D := g.1) (ci := 10) (v := .ref (q 2)) (C := R_Mod) (T := F_Mod) (N := 61) hx hb hts in_Mod hown hK hP 0 rfl rfl 2 (by decide) (hts _ wd_1252) (fun _ h9 => h9) rfl d_Mod_sameTexts_54 ?_
            refine lv_aload_n hx hb d_Mod_sameTexts_57 rfl (lv_at hl 2 rfl) ?_
            refine va_get (D := g.1) (ci := 10) (v := .ref (q 16)) (C := R_Mod) (T := F_Mod) (N := 61) hx hb hts in_Mod hown hK hP 0 rfl rfl 16 (by decide) (hts _ wd_1266) (fun _ h9 => h9) rfl d_Mod_sameTexts_58 ?_
            refine lv_iload_n hx hb d_Mod_sameTexts_61 rfl (lv_at hl 4 rfl) ?_
            refine va_iald hx hb hK hP 2 0 rfl rfl (vp_in_nI (by omega) (by decide)) d_Mod_sameTexts_62 ?_
            refine tw_ri (e2 := nI p2) (by rw [nI_clamp (by omega)]; exact q1k2) ?_
            refine lv_iload hx hb d_Mod_sameTexts_63 (lv_at hl 0 rfl) ?_
            refine lv_iadd hx hb d_Mod_sameTexts_65 ?_
            refine tw_ri (e2 := nI (p2 + i)) (nI_add _ _) ?_
            refine va_iald hx hb hK hP 1 0 rfl rfl (vp_in_nI (by omega) (by decide)) d_Mod_sameTexts_66 ?_
            obtain ⟨x2, ex2⟩ : ∃ z : Int32, bs ((nI (p2 + i)).toNatClampNeg) = z := ⟨_, rfl⟩
            refine tw_ri (e2 := x2) ex2 ?_
            refine lv_icmp_ne (tgt := 74) hx hb d_Mod_sameTexts_67 (by decide) (fun h67 => ?_) (fun h67 => ?_)
            · refine lv_iconst (v := 0) hx hb d_Mod_sameTexts_74 (by decide) ?_
              refine lv_istore_n hx hb d_Mod_sameTexts_75 rfl hl (by decide) rfl (fun ls hl => ?_)
              have hl : lv_has ls 5 [(3, .int 0), (4, .int (nI i)), (0, .ref h0), (1, .int (nI k)), (2, .int (nI k2))] := hl
              refine lv_iinc (k := 1) (v := nI (i + 1)) hx hb d_Mod_sameTexts_76 hl rfl ((nI_succ i).symm) (by decide) rfl (fun ls hl => ?_)
              have hl : lv_has ls 5 [(4, .int (nI (i + 1))), (3, .int 0), (0, .ref h0), (1, .int (nI k)), (2, .int (nI k2))] := hl
              refine lv_goto (tgt := 24) hx hb d_Mod_sameTexts_79 (by decide) ?_
              exact ih _ (by omega) 0 (i + 1) ls rfl (by omega) (Or.inl rfl) (fun _ => hll) (lv_sub hl [0, 1, 2, 3, 4] rfl)
            · refine lv_iconst (v := 1) hx hb d_Mod_sameTexts_70 (by decide) ?_
              refine lv_goto (tgt := 75) hx hb d_Mod_sameTexts_71 (by decide) ?_
              refine lv_istore_n hx hb d_Mod_sameTexts_75 rfl hl (by decide) rfl (fun ls hl => ?_)
              have hl : lv_has ls 5 [(3, .int 1), (4, .int (nI i)), (0, .ref h0), (1, .int (nI k)), (2, .int (nI k2))] := hl
              refine lv_iinc (k := 1) (v := nI (i + 1)) hx hb d_Mod_sameTexts_76 hl rfl ((nI_succ i).symm) (by decide) rfl (fun ls hl => ?_)
              have hl : lv_has ls 5 [(4, .int (nI (i + 1))), (3, .int 1), (0, .ref h0), (1, .int (nI k)), (2, .int (nI k2))] := hl
              refine lv_goto (tgt := 24) hx hb d_Mod_sameTexts_79 (by decide) ?_
              exact ih _ (by omega) 1 (i + 1) ls rfl (by omega) (Or.inr rfl) (fun _ => hll) (lv_sub hl [0, 1, 2, 3, 4] rfl)
    exact loop24 _ 0 0 ls rfl (Nat.zero_le _) (Or.inl rfl) (fun h => absurd rfl h) (hl)
  · have h12 := tn_eq h12 (by omega) (by omega)
    refine lv_iconst (v := 1) hx hb d_Mod_sameTexts_15 (by decide) ?_
    refine lv_goto (tgt := 20) hx hb d_Mod_sameTexts_16 (by decide) ?_
    refine lv_istore_n hx hb d_Mod_sameTexts_20 rfl hl (by decide) rfl (fun ls hl => ?_)
    have hl : lv_has ls 5 [(3, .int 1), (0, .ref h0), (1, .int (nI k)), (2, .int (nI k2))] := hl
    refine lv_iconst (v := 0) hx hb d_Mod_sameTexts_21 (by decide) ?_
    refine lv_istore hx hb d_Mod_sameTexts_22 hl (by decide) rfl (fun ls hl => ?_)
    have hl : lv_has ls 5 [(4, .int 0), (3, .int 1), (0, .ref h0), (1, .int (nI k)), (2, .int (nI k2))] := hl
    have loop24 : ∀ (kq : Nat) (s9 : Int32) (i : Nat) (ls : Array Slot) , l1 - i = kq → (hi : i ≤ l1) → (hs9 : s9 = 0 ∨ s9 = 1) → (hsl : ¬ s9 = 0 → l1 = l2) → lv_has ls 5 [(4, .int (nI i)), (3, .int s9), (0, .ref h0), (1, .int (nI k)), (2, .int (nI k2))] → W p l e ({ frames := 0, cells := 0, slots := 0, locals := 0 }) s m [.ref h0, .int (nI k), .int (nI k2)].toArray below meth c s.heap [] 0 0 (MQ below (vp_Si (fun (r : Int32) => (r = 0 ∨ r = 1))) [.ref h0, .int (nI k), .int (nI k2)].toArray s 0 0 (fun _ => False)) (F0 m 24 ls []) := by
      intro kq
      induction kq using Nat.strongRecOn with
      | _ kq ih =>
        intro s9 i ls hk hi hs9 hsl hl 
        refine lv_iload_n hx hb d_Mod_sameTexts_24 rfl (lv_at hl 1 rfl) ?_
        refine lv_if_eq (tgt := 82) hx hb d_Mod_sameTexts_25 (by decide) (fun h25 => ?_) (fun h25 => ?_)
        · refine lv_iload_n hx hb d_Mod_sameTexts_82 rfl (lv_at hl 1 rfl) ?_
          exact tw_zsret E (tn_z hs9) hs9 d_Mod_sameTexts_83
        · refine lv_iload hx hb d_Mod_sameTexts_28 (lv_at hl 0 rfl) ?_
          refine lv_aload_n hx hb d_Mod_sameTexts_30 rfl (lv_at hl 2 rfl) ?_
          refine va_get (D := g.1) (ci := 10) (v := .ref (q 17)) (C := R_Mod) (T := F_Mod) (N := 61) hx hb hts in_Mod hown hK hP 0 rfl rfl 17 (by decide) (hts _ wd_1267) (fun _ h9 => h9) rfl d_Mod_sameTexts_31 ?_
          refine lv_iload_n hx hb d_Mod_sameTexts_34 rfl (lv_at hl 3 rfl) ?_
          refine va_iald hx hb hK hP 3 0 rfl rfl (vp_in_nI (by omega) (by decide)) d_Mod_sameTexts_35 ?_
          refine tw_ri (e2 := nI l1) (by rw [nI_clamp (by omega)]; exact q2k) ?_
          refine lv_icmp_ge (tgt := 82) hx hb d_Mod_sameTexts_36 (by decide) (fun h36 => ?_) (fun h36 => ?_)
          · refine lv_iload_n hx hb d_Mod_sameTexts_82 rfl (lv_at hl 1 rfl) ?_
            exact tw_zsret E (tn_z hs9) hs9 d_Mod_sameTexts_83
          · have h36 := tn_nle h36 (by omega) (by omega)
            have hll := hsl h25
            refine lv_aload_n hx hb d_Mod_sameTexts_39 rfl (lv_at hl 2 rfl) ?_
            refine va_get (D := g.1) (ci := 10) (v := .ref (q 2)) (C := R_Mod) (T := F_Mod) (N := 61) hx hb hts in_Mod hown hK hP 0 rfl rfl 2 (by decide) (hts _ wd_1252) (fun _ h9 => h9) rfl d_Mod_sameTexts_40 ?_
            refine lv_aload_n hx hb d_Mod_sameTexts_43 rfl (lv_at hl 2 rfl) ?_
            refine va_get (D := g.1) (ci := 10) (v := .ref (q 16)) (C := R_Mod) (T := F_Mod) (N := 61) hx hb hts in_Mod hown hK hP 0 rfl rfl 16 (by decide) (hts _ wd_1266) (fun _ h9 => h9) rfl d_Mod_sameTexts_44 ?_
            refine lv_iload_n hx hb d_Mod_sameTexts_47 rfl (lv_at hl 3 rfl) ?_
            refine va_iald hx hb hK hP 2 0 rfl rfl (vp_in_nI (by omega) (by decide)) d_Mod_sameTexts_48 ?_
            refine tw_ri (e2 := nI p1) (by rw [nI_clamp (by omega)]; exact q1k) ?_
            refine lv_iload hx hb d_Mod_sameTexts_49 (lv_at hl 0 rfl) ?_
            refine lv_iadd hx hb d_Mod_sameTexts_51 ?_
            refine tw_ri (e2 := nI (p1 + i)) (nI_add _ _) ?_
            refine va_iald hx hb hK hP 1 0 rfl rfl (vp_in_nI (by omega) (by decide)) d_Mod_sameTexts_52 ?_
            obtain ⟨x3, ex3⟩ : ∃ z : Int32, bs ((nI (p1 + i)).toNatClampNeg) = z := ⟨_, rfl⟩
            refine tw_ri (e2 := x3) ex3 ?_
            refine lv_aload_n hx hb d_Mod_sameTexts_53 rfl (lv_at hl 2 rfl) ?_
            refine va_get (D := g.1) (ci := 10) (v := .ref (q 2)) (C := R_Mod) (T := F_Mod) (N := 61) hx hb hts in_Mod hown hK hP 0 rfl rfl 2 (by decide) (hts _ wd_1252) (fun _ h9 => h9) rfl d_Mod_sameTexts_54 ?_
            refine lv_aload_n hx hb d_Mod_sameTexts_57 rfl (lv_at hl 2 rfl) ?_
            refine va_get (D := g.1) (ci := 10) (v := .ref (q 16)) (C := R_Mod) (T := F_Mod) (N := 61) hx hb hts in_Mod hown hK hP 0 rfl rfl 16 (by decide) (hts _ wd_1266) (fun _ h9 => h9) rfl d_Mod_sameTexts_58 ?_
            refine lv_iload_n hx hb d_Mod_sameTexts_61 rfl (lv_at hl 4 rfl) ?_
            refine va_iald hx hb hK hP 2 0 rfl rfl (vp_in_nI (by omega) (by decide)) d_Mod_sameTexts_62 ?_
            refine tw_ri (e2 := nI p2) (by rw [nI_clamp (by omega)]; exact q1k2) ?_
            refine lv_iload hx hb d_Mod_sameTexts_63 (lv_at hl 0 rfl) ?_
            refine lv_iadd hx hb d_Mod_sameTexts_65 ?_
            refine tw_ri (e2 := nI (p2 + i)) (nI_add _ _) ?_
            refine va_iald hx hb hK hP 1 0 rfl rfl (vp_in_nI (by omega) (by decide)) d_Mod_sameTexts_66 ?_
            obtain ⟨x4, ex4⟩ : ∃ z : Int32, bs ((nI (p2 + i)).toNatClampNeg) = z := ⟨_, rfl⟩
            refine tw_ri (e2 := x4) ex4 ?_
            refine lv_icmp_ne (tgt := 74) hx hb d_Mod_sameTexts_67 (by decide) (fun h67 => ?_) (fun h67 => ?_)
            · refine lv_iconst (v := 0) hx hb d_Mod_sameTexts_74 (by decide) ?_
              refine lv_istore_n hx hb d_Mod_sameTexts_75 rfl hl (by decide) rfl (fun ls hl => ?_)
              have hl : lv_has ls 5 [(3, .int 0), (4, .int (nI i)), (0, .ref h0), (1, .int (nI k)), (2, .int (nI k2))] := hl
              refine lv_iinc (k := 1) (v := nI (i + 1)) hx hb d_Mod_sameTexts_76 hl rfl ((nI_succ i).symm) (by decide) rfl (fun ls hl => ?_)
              have hl : lv_has ls 5 [(4, .int (nI (i + 1))), (3, .int 0), (0, .ref h0), (1, .int (nI k)), (2, .int (nI k2))] := hl
              refine lv_goto (tgt := 24) hx hb d_Mod_sameTexts_79 (by decide) ?_
              exact ih _ (by omega) 0 (i + 1) ls rfl (by omega) (Or.inl rfl) (fun _ => hll) (lv_sub hl [0, 1, 2, 3, 4] rfl)
            · refine lv_iconst (v := 1) hx hb d_Mod_sameTexts_70 (by decide) ?_
              refine lv_goto (tgt := 75) hx hb d_Mod_sameTexts_71 (by decide) ?_
              refine lv_istore_n hx hb d_Mod_sameTexts_75 rfl hl (by decide) rfl (fun ls hl => ?_)
              have hl : lv_has ls 5 [(3, .int 1), (4, .int (nI i)), (0, .ref h0), (1, .int (nI k)), (2, .int (nI k2))] := hl
              refine lv_iinc (k := 1) (v := nI (i + 1)) hx hb d_Mod_sameTexts_76 hl rfl ((nI_succ i).symm) (by decide) rfl (fun ls hl => ?_)
              have hl : lv_has ls 5 [(4, .int (nI (i + 1))), (3, .int 1), (0, .ref h0), (1, .int (nI k)), (2, .int (nI k2))] := hl
              refine lv_goto (tgt := 24) hx hb d_Mod_sameTexts_79 (by decide) ?_
              exact ih _ (by omega) 1 (i + 1) ls rfl (by omega) (Or.inr rfl) (fun _ => hll) (lv_sub hl [0, 1, 2, 3, 4] rfl)
    exact loop24 _ 1 0 ls rfl (Nat.zero_le _) (Or.inr rfl) (fun _ => h12) (hl)
