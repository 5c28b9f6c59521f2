set_option maxHeartbeats 4000000 in
set_option maxRecDepth 100000 in
theorem g_Mod_isSign (l : Launch) (g : tw_G) (sz : Nat) (x : Int32) : Met l y_Mod_isSign [.code y_Mod_isSign b_Mod_isSign 1 (some .boolean)] ({ frames := 0, cells := 0, slots := 0, locals := 0 }) (tw_P g [.int x] [] sz) (vp_Si (fun (r : Int32) => (r = 0 ∨ r = 1) ∧ r = sgf x)) 0 0 (fun _ => False) := by
  refine tw_met (l := l) (g := g) (y := y_Mod_isSign) (cc := b_Mod_isSign) (maxL := 1) (ret := (some .boolean)) (rm := { frames := 0, cells := 0, slots := 0, locals := 0 }) (mc := 0) (ms := 0) (av := [.int x]) (ws := []) (sz := sz) (Qc := fun _ => (vp_Si (fun (r : Int32) => (r = 0 ∨ r = 1) ∧ r = sgf x))) (free := fun _ _ => False) (by decide) (Nat.le_of_ble_eq_true rfl) ?_
  intro p e s m below meth c ls A E hB hK hZ hP hD hS hA hl
  obtain ⟨hx, hb, hml, hr, hown, hts, hlocks, hin⟩ := id E
  have hl : lv_has ls 1 [(0, .int x)] := hl
  refine lv_iload_n hx hb d_Mod_isSign_0 rfl (lv_at hl 0 rfl) ?_
  refine lv_bipush (v := 32) hx hb d_Mod_isSign_1 (by decide) ?_
  refine lv_icmp_le (tgt := 46) hx hb d_Mod_isSign_3 (by decide) (fun h3 => ?_) (fun h3 => ?_)
  · refine lv_iconst (v := 0) hx hb d_Mod_isSign_46 (by decide) ?_
    exact tw_zsret E (by decide) (⟨(Or.inl rfl), (by unfold sgf; rw [if_pos h3])⟩) d_Mod_isSign_47
  · refine lv_iload_n hx hb d_Mod_isSign_6 rfl (lv_at hl 0 rfl) ?_
    refine lv_bipush (v := 46) hx hb d_Mod_isSign_7 (by decide) ?_
    refine lv_icmp_eq (tgt := 46) hx hb d_Mod_isSign_9 (by decide) (fun h9 => ?_) (fun h9 => ?_)
    · refine lv_iconst (v := 0) hx hb d_Mod_isSign_46 (by decide) ?_
      exact tw_zsret E (by decide) (⟨(Or.inl rfl), (by unfold sgf; rw [if_neg h3, if_pos h9])⟩) d_Mod_isSign_47
    · refine lv_iload_n hx hb d_Mod_isSign_12 rfl (lv_at hl 0 rfl) ?_
      refine lv_bipush (v := 59) hx hb d_Mod_isSign_13 (by decide) ?_
      refine lv_icmp_eq (tgt := 46) hx hb d_Mod_isSign_15 (by decide) (fun h15 => ?_) (fun h15 => ?_)
      · refine lv_iconst (v := 0) hx hb d_Mod_isSign_46 (by decide) ?_
        exact tw_zsret E (by decide) (⟨(Or.inl rfl), (by unfold sgf; rw [if_neg h3, if_neg h9, if_pos h15])⟩) d_Mod_isSign_47
      · refine lv_iload_n hx hb d_Mod_isSign_18 rfl (lv_at hl 0 rfl) ?_
        refine lv_bipush (v := 91) hx hb d_Mod_isSign_19 (by decide) ?_
        refine lv_icmp_eq (tgt := 46) hx hb d_Mod_isSign_21 (by decide) (fun h21 => ?_) (fun h21 => ?_)
        · refine lv_iconst (v := 0) hx hb d_Mod_isSign_46 (by decide) ?_
          exact tw_zsret E (by decide) (⟨(Or.inl rfl), (by unfold sgf; rw [if_neg h3, if_neg h9, if_neg h15, if_pos h21])⟩) d_Mod_isSign_47
        · refine lv_iload_n hx hb d_Mod_isSign_24 rfl (lv_at hl 0 rfl) ?_
          refine lv_bipush (v := 47) hx hb d_Mod_isSign_25 (by decide) ?_
          refine lv_icmp_eq (tgt := 46) hx hb d_Mod_isSign_27 (by decide) (fun h27 => ?_) (fun h27 => ?_)
          · refine lv_iconst (v := 0) hx hb d_Mod_isSign_46 (by decide) ?_
            exact tw_zsret E (by decide) (⟨(Or.inl rfl), (by unfold sgf; rw [if_neg h3, if_neg h9, if_neg h15, if_neg h21, if_pos h27])⟩) d_Mod_isSign_47
          · refine lv_iload_n hx hb d_Mod_isSign_30 rfl (lv_at hl 0 rfl) ?_
            refine lv_bipush (v := 60) hx hb d_Mod_isSign_31 (by decide) ?_
            refine lv_icmp_eq (tgt := 46) hx hb d_Mod_isSign_33 (by decide) (fun h33 => ?_) (fun h33 => ?_)
            · refine lv_iconst (v := 0) hx hb d_Mod_isSign_46 (by decide) ?_
              exact tw_zsret E (by decide) (⟨(Or.inl rfl), (by unfold sgf; rw [if_neg h3, if_neg h9, if_neg h15, if_neg h21, if_neg h27, if_pos h33])⟩) d_Mod_isSign_47
            · refine lv_iload_n hx hb d_Mod_isSign_36 rfl (lv_at hl 0 rfl) ?_
              refine lv_bipush (v := 62) hx hb d_Mod_isSign_37 (by decide) ?_
              refine lv_icmp_eq (tgt := 46) hx hb d_Mod_isSign_39 (by decide) (fun h39 => ?_) (fun h39 => ?_)
              · refine lv_iconst (v := 0) hx hb d_Mod_isSign_46 (by decide) ?_
                exact tw_zsret E (by decide) (⟨(Or.inl rfl), (by unfold sgf; rw [if_neg h3, if_neg h9, if_neg h15, if_neg h21, if_neg h27, if_neg h33, if_pos h39])⟩) d_Mod_isSign_47
              · refine lv_iconst (v := 1) hx hb d_Mod_isSign_42 (by decide) ?_
                refine lv_goto (tgt := 47) hx hb d_Mod_isSign_43 (by decide) ?_
                exact tw_zsret E (by decide) (⟨(Or.inr rfl), (by unfold sgf; rw [if_neg h3, if_neg h9, if_neg h15, if_neg h21, if_neg h27, if_neg h33, if_neg h39])⟩) d_Mod_isSign_47
set_option maxHeartbeats 4000000 in
set_option maxRecDepth 100000 in
theorem g_Mod_isName (l : Launch) (g : tw_G) (sz : Nat) (h0 : Nat) (q : Nat → Nat) (rf : Int32) (n : Nat) (mm : Int32) (mb : Int32) (fa : Int32) (fp : Int32) (av : Nat) (ev : Nat) (wi : Int32) (mn : Nat) (tp : Int32) (tc : Int32) (sc : Int32) (nf : Nat) (fd : Nat) (me : Nat) (mp : Int32) (xn : Nat) (mt : Nat) (wh : Nat) (tq : Nat) (ag : Nat) (an : Int32) (ig : Int32) (bs : Nat → Int32) (x : Nat) (y : Nat) (hx6 : x ≤ 600) (hy6 : y ≤ 600) : Met l y_Mod_isName [.code y_Mod_isName b_Mod_isName 5 (some .boolean)] ({ frames := 1, cells := 0, slots := 0, locals := 20 }) (tw_P g [.ref h0, .int (nI x), .int (nI y)] [(h0, .inr (10, mob q rf n mm mb fa fp av ev wi mn tp tc sc nf fd me mp xn mt wh tq ag an ig)), ((q 2), aI g 600 bs)] sz) (vp_Si (fun (r : Int32) => (r = 0 ∨ r = 1) ∧ r = nmf bs (y - x) x (if x < y then 1 else 0))) 0 0 (fun _ => False) := by
  refine tw_met (l := l) (g := g) (y := y_Mod_isName) (cc := b_Mod_isName) (maxL := 5) (ret := (some .boolean)) (rm := { frames := 1, cells := 0, slots := 0, locals := 20 }) (mc := 0) (ms := 0) (av := [.ref h0, .int (nI x), .int (nI y)]) (ws := [(h0, .inr (10, mob q rf n mm mb fa fp av ev wi mn tp tc sc nf fd me mp xn mt wh tq ag an ig)), ((q 2), aI g 600 bs)]) (sz := sz) (Qc := fun _ => (vp_Si (fun (r : Int32) => (r = 0 ∨ r = 1) ∧ r = nmf bs (y - x) x (if x < y then 1 else 0)))) (free := fun _ _ => False) (by decide) (Nat.le_of_ble_eq_true rfl) ?_
  intro p e s m below meth c ls A E hB hK hZ hP hD hS hA hl
  obtain ⟨hx, hb, hml, hr, hown, hts, hlocks, hin⟩ := id E
  have hl : lv_has ls 5 [(0, .ref h0), (1, .int (nI x)), (2, .int (nI y))] := hl
  refine lv_iload_n hx hb d_Mod_isName_0 rfl (lv_at hl 1 rfl) ?_
  refine lv_iload_n hx hb d_Mod_isName_1 rfl (lv_at hl 2 rfl) ?_
  refine lv_icmp_ge (tgt := 9) hx hb d_Mod_isName_2 (by decide) (fun h2 => ?_) (fun h2 => ?_)
  · have h2 := tn_le h2 (by omega) (by omega)
    refine lv_iconst (v := 0) hx hb d_Mod_isName_9 (by decide) ?_
    refine lv_istore_n hx hb d_Mod_isName_10 rfl hl (by decide) rfl (fun ls hl => ?_)
    have hl : lv_has ls 5 [(3, .int 0), (0, .ref h0), (1, .int (nI x)), (2, .int (nI y))] := hl
    refine lv_iload_n hx hb d_Mod_isName_11 rfl (lv_at hl 2 rfl) ?_
    refine lv_istore hx hb d_Mod_isName_12 hl (by decide) rfl (fun ls hl => ?_)
    have hl : lv_has ls 5 [(4, .int (nI x)), (3, .int 0), (0, .ref h0), (1, .int (nI x)), (2, .int (nI y))] := hl
    have loop14 : ∀ (kq : Nat) (g9 : Int32) (k : Nat) (ls : Array Slot) , y - k = kq → (hk1 : x ≤ k) → (hk2 : k ≤ 600) → (hg : g9 = 0 ∨ g9 = 1) → (hN : nmf bs (y - k) k g9 = nmf bs (y - x) x (if x < y then 1 else 0)) → lv_has ls 5 [(4, .int (nI k)), (3, .int g9), (0, .ref h0), (1, .int (nI x)), (2, .int (nI y))] → W p l e ({ frames := 1, cells := 0, slots := 0, locals := 20 }) s m [.ref h0, .int (nI x), .int (nI y)].toArray below meth c s.heap [] 0 0 (MQ below (vp_Si (fun (r : Int32) => (r = 0 ∨ r = 1) ∧ r = nmf bs (y - x) x (if x < y then 1 else 0))) [.ref h0, .int (nI x), .int (nI y)].toArray s 0 0 (fun _ => False)) (F0 m 14 ls []) := by
      intro kq
      induction kq using Nat.strongRecOn with
      | _ kq ih =>
        intro g9 k ls hk hk1 hk2 hg hN hl 
        refine lv_iload hx hb d_Mod_isName_14 (lv_at hl 0 rfl) ?_
        refine lv_iload_n hx hb d_Mod_isName_16 rfl (lv_at hl 4 rfl) ?_
        refine lv_icmp_ge (tgt := 49) hx hb d_Mod_isName_17 (by decide) (fun h17 => ?_) (fun h17 => ?_)
        · have h17 := tn_le h17 (by omega) (by omega)
          refine lv_iload_n hx hb d_Mod_isName_49 rfl (lv_at hl 1 rfl) ?_
          exact tw_zsret E (tn_z hg) (⟨hg, (by rw [← hN, nmf_0 h17])⟩) d_Mod_isName_50
        · have h17 := tn_nle h17 (by omega) (by omega)
          refine lv_iload_n hx hb d_Mod_isName_20 rfl (lv_at hl 1 rfl) ?_
          refine lv_if_eq (tgt := 41) hx hb d_Mod_isName_21 (by decide) (fun h21 => ?_) (fun h21 => ?_)
          · refine lv_iconst (v := 0) hx hb d_Mod_isName_41 (by decide) ?_
            refine lv_istore_n hx hb d_Mod_isName_42 rfl hl (by decide) rfl (fun ls hl => ?_)
            have hl : lv_has ls 5 [(3, .int 0), (4, .int (nI k)), (0, .ref h0), (1, .int (nI x)), (2, .int (nI y))] := hl
            refine lv_iinc (k := 1) (v := nI (k + 1)) hx hb d_Mod_isName_43 hl rfl ((nI_succ k).symm) (by decide) rfl (fun ls hl => ?_)
            have hl : lv_has ls 5 [(4, .int (nI (k + 1))), (3, .int 0), (0, .ref h0), (1, .int (nI x)), (2, .int (nI y))] := hl
            refine lv_goto (tgt := 14) hx hb d_Mod_isName_46 (by decide) ?_
            exact ih _ (by omega) 0 (k + 1) ls rfl (by omega) (by omega) (Or.inl rfl) (by rw [← hN, nmf_step h17, if_pos h21]) (lv_sub hl [0, 1, 2, 3, 4] rfl)
          · refine lv_aload_n hx hb d_Mod_isName_24 rfl (lv_at hl 2 rfl) ?_
            refine va_get (D := g.1) (ci := 10) (v := .ref (q 2)) (C := R_Mod) (T := F_Mod) (N := 61) hx hb hts in_Mod hown hK hP 0 rfl rfl 2 (by decide) (hts _ wd_1252) (fun _ h9 => h9) rfl d_Mod_isName_25 ?_
            refine lv_iload hx hb d_Mod_isName_28 (lv_at hl 0 rfl) ?_
            refine va_iald hx hb hK hP 1 0 rfl rfl (vp_in_nI (by omega) (by decide)) d_Mod_isName_30 ?_
            refine tw_ri (e2 := bs k) (by rw [nI_clamp (by omega)]) ?_
            refine tw_si (tw_runS (ws := [(h0, .inr (10, mob q rf n mm mb fa fp av ev wi mn tp tc sc nf fd me mp xn mt wh tq ag an ig)), ((q 2), aI g 600 bs)]) (wc := []) (As := [.int (bs k)]) (rest := []) E hB hK hZ (g_Mod_isSign l g s.heap.size (bs k)) mc_Mod_isSign ms_Mod_isSign wd_1548 hP hD hS hA [] rfl (by decide) rfl rfl (by decide) rfl hl.1 rfl (Nat.le_of_ble_eq_true rfl) (by decide) d_Mod_isName_31) (fun r1 hr1 => ?_)
            have hB1 := hr1
            refine lv_if_eq (tgt := 41) hx hb d_Mod_isName_34 (by decide) (fun h34 => ?_) (fun h34 => ?_)
            · refine lv_iconst (v := 0) hx hb d_Mod_isName_41 (by decide) ?_
              refine lv_istore_n hx hb d_Mod_isName_42 rfl hl (by decide) rfl (fun ls hl => ?_)
              have hl : lv_has ls 5 [(3, .int 0), (4, .int (nI k)), (0, .ref h0), (1, .int (nI x)), (2, .int (nI y))] := hl
              refine lv_iinc (k := 1) (v := nI (k + 1)) hx hb d_Mod_isName_43 hl rfl ((nI_succ k).symm) (by decide) rfl (fun ls hl => ?_)
              have hl : lv_has ls 5 [(4, .int (nI (k + 1))), (3, .int 0), (0, .ref h0), (1, .int (nI x)), (2, .int (nI y))] := hl
              refine lv_goto (tgt := 14) hx hb d_Mod_isName_46 (by decide) ?_
              exact ih _ (by omega) 0 (k + 1) ls rfl (by omega) (by omega) (Or.inl rfl) (by rw [← hN, nmf_step h17, if_neg h21, ← hB1.2, h34]) (lv_sub hl [0, 1, 2, 3, 4] rfl)
            · refine lv_iconst (v := 1) hx hb d_Mod_isName_37 (by decide) ?_
              refine lv_goto (tgt := 42) hx hb d_Mod_isName_38 (by decide) ?_
              refine lv_istore_n hx hb d_Mod_isName_42 rfl hl (by decide) rfl (fun ls hl => ?_)
              have hl : lv_has ls 5 [(3, .int 1), (4, .int (nI k)), (0, .ref h0), (1, .int (nI x)), (2, .int (nI y))] := hl
              refine lv_iinc (k := 1) (v := nI (k + 1)) hx hb d_Mod_isName_43 hl rfl ((nI_succ k).symm) (by decide) rfl (fun ls hl => ?_)
              have hl : lv_has ls 5 [(4, .int (nI (k + 1))), (3, .int 1), (0, .ref h0), (1, .int (nI x)), (2, .int (nI y))] := hl
              refine lv_goto (tgt := 14) hx hb d_Mod_isName_46 (by decide) ?_
              exact ih _ (by omega) 1 (k + 1) ls rfl (by omega) (by omega) (Or.inr rfl) (by rw [← hN, nmf_step h17, if_neg h21, ← hB1.2, (hB1.1.resolve_left h34)]) (lv_sub hl [0, 1, 2, 3, 4] rfl)
    exact loop14 _ 0 x ls rfl (Nat.le_refl _) hx6 (Or.inl rfl) (by rw [if_neg (by omega)]) (hl)
  · have h2 := tn_nle h2 (by omega) (by omega)
    refine lv_iconst (v := 1) hx hb d_Mod_isName_5 (by decide) ?_
    refine lv_goto (tgt := 10) hx hb d_Mod_isName_6 (by decide) ?_
    refine lv_istore_n hx hb d_Mod_isName_10 rfl hl (by decide) rfl (fun ls hl => ?_)
    have hl : lv_has ls 5 [(3, .int 1), (0, .ref h0), (1, .int (nI x)), (2, .int (nI y))] := hl
    refine lv_iload_n hx hb d_Mod_isName_11 rfl (lv_at hl 2 rfl) ?_
    refine lv_istore hx hb d_Mod_isName_12 hl (by decide) rfl (fun ls hl => ?_)
    have hl : lv_has ls 5 [(4, .int (nI x)), (3, .int 1), (0, .ref h0), (1, .int (nI x)), (2, .int (nI y))] := hl
    have loop14 : ∀ (kq : Nat) (g9 : Int32) (k : Nat) (ls : Array Slot) , y - k = kq → (hk1 : x ≤ k) → (hk2 : k ≤ 600) → (hg : g9 = 0 ∨ g9 = 1) → (hN : nmf bs (y - k) k g9 = nmf bs (y - x) x (if x < y then 1 else 0)) → lv_has ls 5 [(4, .int (nI k)), (3, .int g9), (0, .ref h0), (1, .int (nI x)), (2, .int (nI y))] → W p l e ({ frames := 1, cells := 0, slots := 0, locals := 20 }) s m [.ref h0, .int (nI x), .int (nI y)].toArray below meth c s.heap [] 0 0 (MQ below (vp_Si (fun (r : Int32) => (r = 0 ∨ r = 1) ∧ r = nmf bs (y - x) x (if x < y then 1 else 0))) [.ref h0, .int (nI x), .int (nI y)].toArray s 0 0 (fun _ => False)) (F0 m 14 ls []) := by
      intro kq
      induction kq using Nat.strongRecOn with
      | _ kq ih =>
        intro g9 k ls hk hk1 hk2 hg hN hl 
        refine lv_iload hx hb d_Mod_isName_14 (lv_at hl 0 rfl) ?_
        refine lv_iload_n hx hb d_Mod_isName_16 rfl (lv_at hl 4 rfl) ?_
        refine lv_icmp_ge (tgt := 49) hx hb d_Mod_isName_17 (by decide) (fun h17 => ?_) (fun h17 => ?_)
        · have h17 := tn_le h17 (by omega) (by omega)
          refine lv_iload_n hx hb d_Mod_isName_49 rfl (lv_at hl 1 rfl) ?_
          exact tw_zsret E (tn_z hg) (⟨hg, (by rw [← hN, nmf_0 h17])⟩) d_Mod_isName_50
        · have h17 := tn_nle h17 (by omega) (by omega)
          refine lv_iload_n hx hb d_Mod_isName_20 rfl (lv_at hl 1 rfl) ?_
          refine lv_if_eq (tgt := 41) hx hb d_Mod_isName_21 (by decide) (fun h21 => ?_) (fun h21 => ?_)
          · refine lv_iconst (v := 0) hx hb d_Mod_isName_41 (by decide) ?_
            refine lv_istore_n hx hb d_Mod_isName_42 rfl hl (by decide) rfl (fun ls hl => ?_)
            have hl : lv_has ls 5 [(3, .int 0), (4, .int (nI k)), (0, .ref h0), (1, .int (nI x)), (2, .int (nI y))] := hl
            refine lv_iinc (k := 1) (v := nI (k + 1)) hx hb d_Mod_isName_43 hl rfl ((nI_succ k).symm) (by decide) rfl (fun ls hl => ?_)
            have hl : lv_has ls 5 [(4, .int (nI (k + 1))), (3, .int 0), (0, .ref h0), (1, .int (nI x)), (2, .int (nI y))] := hl
            refine lv_goto (tgt := 14) hx hb d_Mod_isName_46 (by decide) ?_
            exact ih _ (by omega) 0 (k + 1) ls rfl (by omega) (by omega) (Or.inl rfl) (by rw [← hN, nmf_step h17, if_pos h21]) (lv_sub hl [0, 1, 2, 3, 4] rfl)
          · refine lv_aload_n hx hb d_Mod_isName_24 rfl (lv_at hl 2 rfl) ?_
            refine va_get (D := g.1) (ci := 10) (v := .ref (q 2)) (C := R_Mod) (T := F_Mod) (N := 61) hx hb hts in_Mod hown hK hP 0 rfl rfl 2 (by decide) (hts _ wd_1252) (fun _ h9 => h9) rfl d_Mod_isName_25 ?_
            refine lv_iload hx hb d_Mod_isName_28 (lv_at hl 0 rfl) ?_
            refine va_iald hx hb hK hP 1 0 rfl rfl (vp_in_nI (by omega) (by decide)) d_Mod_isName_30 ?_
            refine tw_ri (e2 := bs k) (by rw [nI_clamp (by omega)]) ?_
            refine tw_si (tw_runS (ws := [(h0, .inr (10, mob q rf n mm mb fa fp av ev wi mn tp tc sc nf fd me mp xn mt wh tq ag an ig)), ((q 2), aI g 600 bs)]) (wc := []) (As := [.int (bs k)]) (rest := []) E hB hK hZ (g_Mod_isSign l g s.heap.size (bs k)) mc_Mod_isSign ms_Mod_isSign wd_1548 hP hD hS hA [] rfl (by decide) rfl rfl (by decide) rfl hl.1 rfl (Nat.le_of_ble_eq_true rfl) (by decide) d_Mod_isName_31) (fun r2 hr2 => ?_)
            have hB2 := hr2
            refine lv_if_eq (tgt := 41) hx hb d_Mod_isName_34 (by decide) (fun h34 => ?_) (fun h34 => ?_)
            · refine lv_iconst (v := 0) hx hb d_Mod_isName_41 (by decide) ?_
              refine lv_istore_n hx hb d_Mod_isName_42 rfl hl (by decide) rfl (fun ls hl => ?_)
              have hl : lv_has ls 5 [(3, .int 0), (4, .int (nI k)), (0, .ref h0), (1, .int (nI x)), (2, .int (nI y))] := hl
              refine lv_iinc (k := 1) (v := nI (k + 1)) hx hb d_Mod_isName_43 hl rfl ((nI_succ k).symm) (by decide) rfl (fun ls hl => ?_)
              have hl : lv_has ls 5 [(4, .int (nI (k + 1))), (3, .int 0), (0, .ref h0), (1, .int (nI x)), (2, .int (nI y))] := hl
              refine lv_goto (tgt := 14) hx hb d_Mod_isName_46 (by decide) ?_
              exact ih _ (by omega) 0 (k + 1) ls rfl (by omega) (by omega) (Or.inl rfl) (by rw [← hN, nmf_step h17, if_neg h21, ← hB2.2, h34]) (lv_sub hl [0, 1, 2, 3, 4] rfl)
            · refine lv_iconst (v := 1) hx hb d_Mod_isName_37 (by decide) ?_
              refine lv_goto (tgt := 42) hx hb d_Mod_isName_38 (by decide) ?_
              refine lv_istore_n hx hb d_Mod_isName_42 rfl hl (by decide) rfl (fun ls hl => ?_)
              have hl : lv_has ls 5 [(3, .int 1), (4, .int (nI k)), (0, .ref h0), (1, .int (nI x)), (2, .int (nI y))] := hl
              refine lv_iinc (k := 1) (v := nI (k + 1)) hx hb d_Mod_isName_43 hl rfl ((nI_succ k).symm) (by decide) rfl (fun ls hl => ?_)
              have hl : lv_has ls 5 [(4, .int (nI (k + 1))), (3, .int 1), (0, .ref h0), (1, .int (nI x)), (2, .int (nI y))] := hl
              refine lv_goto (tgt := 14) hx hb d_Mod_isName_46 (by decide) ?_
              exact ih _ (by omega) 1 (k + 1) ls rfl (by omega) (by omega) (Or.inr rfl) (by rw [← hN, nmf_step h17, if_neg h21, ← hB2.2, (hB2.1.resolve_left h34)]) (lv_sub hl [0, 1, 2, 3, 4] rfl)
    exact loop14 _ 1 x ls rfl (Nat.le_refl _) hx6 (Or.inr rfl) (by rw [if_pos h2]) (hl)
set_option maxHeartbeats 4000000 in
set_option maxRecDepth 100000 in
theorem g_Mod_isClassName (l : Launch) (g : tw_G) (sz : Nat) (h0 : Nat) (q : Nat → Nat) (rf : Int32) (n : Nat) (mm : Int32) (mb : Int32) (fa : Int32) (fp : Int32) (av : Nat) (ev : Nat) (wi : Int32) (mn : Nat) (tp : Int32) (tc : Int32) (sc : Int32) (nf : Nat) (fd : Nat) (me : Nat) (mp : Int32) (xn : Nat) (mt : Nat) (wh : Nat) (tq : Nat) (ag : Nat) (an : Int32) (ig : Int32) (bs : Nat → Int32) (x : Nat) (y : Nat) (hxy : x ≤ y) (hy6 : y ≤ 600) : Met l y_Mod_isClassName [.code y_Mod_isClassName b_Mod_isClassName 6 (some .boolean)] ({ frames := 2, cells := 0, slots := 0, locals := 44 }) (tw_P g [.ref h0, .int (nI x), .int (nI y)] [(h0, .inr (10, mob q rf n mm mb fa fp av ev wi mn tp tc sc nf fd me mp xn mt wh tq ag an ig)), ((q 2), aI g 600 bs)] sz) (vp_Si (fun (r : Int32) => (r = 0 ∨ r = 1) ∧ r = cnf bs y (y + 1 - x) x x 1)) 0 0 (fun _ => False) := by
  refine tw_met (l := l) (g := g) (y := y_Mod_isClassName) (cc := b_Mod_isClassName) (maxL := 6) (ret := (some .boolean)) (rm := { frames := 2, cells := 0, slots := 0, locals := 44 }) (mc := 0) (ms := 0) (av := [.ref h0, .int (nI x), .int (nI y)]) (ws := [(h0, .inr (10, mob q rf n mm mb fa fp av ev wi mn tp tc sc nf fd me mp xn mt wh tq ag an ig)), ((q 2), aI g 600 bs)]) (sz := sz) (Qc := fun _ => (vp_Si (fun (r : Int32) => (r = 0 ∨ r = 1) ∧ r = cnf bs y (y + 1 - x) x x 1))) (free := fun _ _ => False) (by decide) (Nat.le_of_ble_eq_true rfl) ?_
  intro p e s m below meth c ls A E hB hK hZ hP hD hS hA hl
  obtain ⟨hx, hb, hml, hr, hown, hts, hlocks, hin⟩ := id E
  have hl : lv_has ls 6 [(0, .ref h0), (1, .int (nI x)), (2, .int (nI y))] := hl
  refine lv_iconst (v := 1) hx hb d_Mod_isClassName_0 (by decide) ?_
  refine lv_istore_n hx hb d_Mod_isClassName_1 rfl hl (by decide) rfl (fun ls hl => ?_)
  have hl : lv_has ls 6 [(3, .int 1), (0, .ref h0), (1, .int (nI x)), (2, .int (nI y))] := hl
  refine lv_iload_n hx hb d_Mod_isClassName_2 rfl (lv_at hl 2 rfl) ?_
  refine lv_istore hx hb d_Mod_isClassName_3 hl (by decide) rfl (fun ls hl => ?_)
  have hl : lv_has ls 6 [(4, .int (nI x)), (3, .int 1), (0, .ref h0), (1, .int (nI x)), (2, .int (nI y))] := hl
  refine lv_iload_n hx hb d_Mod_isClassName_5 rfl (lv_at hl 3 rfl) ?_
  refine lv_istore hx hb d_Mod_isClassName_6 hl (by decide) rfl (fun ls hl => ?_)
  have hl : lv_has ls 6 [(5, .int (nI x)), (4, .int (nI x)), (3, .int 1), (0, .ref h0), (1, .int (nI x)), (2, .int (nI y))] := hl
  have loop8 : ∀ (kq : Nat) (g9 : Int32) (b9 : Nat) (k : Nat) (ls : Array Slot) , y + 1 - k = kq → (hk1 : x ≤ k) → (hk2 : k ≤ y + 1) → (hb9 : b9 ≤ k) → (hg : g9 = 0 ∨ g9 = 1) → (hC : cnf bs y (y + 1 - k) k b9 g9 = cnf bs y (y + 1 - x) x x 1) → lv_has ls 6 [(5, .int (nI k)), (4, .int (nI b9)), (3, .int g9), (0, .ref h0), (1, .int (nI x)), (2, .int (nI y))] → W p l e ({ frames := 2, cells := 0, slots := 0, locals := 44 }) s m [.ref h0, .int (nI x), .int (nI y)].toArray below meth c s.heap [] 0 0 (MQ below (vp_Si (fun (r : Int32) => (r = 0 ∨ r = 1) ∧ r = cnf bs y (y + 1 - x) x x 1)) [.ref h0, .int (nI x), .int (nI y)].toArray s 0 0 (fun _ => False)) (F0 m 8 ls []) := by
    intro kq
    induction kq using Nat.strongRecOn with
    | _ kq ih =>
      intro g9 b9 k ls hk hk1 hk2 hb9 hg hC hl 
      refine lv_iload hx hb d_Mod_isClassName_8 (lv_at hl 0 rfl) ?_
      refine lv_iload_n hx hb d_Mod_isClassName_10 rfl (lv_at hl 5 rfl) ?_
      refine lv_icmp_gt (tgt := 65) hx hb d_Mod_isClassName_11 (by decide) (fun h11 => ?_) (fun h11 => ?_)
      · have h11 := tn_lt h11 (by omega) (by omega)
        refine lv_iload_n hx hb d_Mod_isClassName_65 rfl (lv_at hl 2 rfl) ?_
        exact tw_zsret E (tn_z hg) (⟨hg, (by rw [← hC, cnf_0 h11])⟩) d_Mod_isClassName_66
      · have h11 := tn_nlt h11 (by omega) (by omega)
        refine lv_iload hx hb d_Mod_isClassName_14 (lv_at hl 0 rfl) ?_
        refine lv_iload_n hx hb d_Mod_isClassName_16 rfl (lv_at hl 5 rfl) ?_
        refine lv_icmp_eq (tgt := 32) hx hb d_Mod_isClassName_17 (by decide) (fun h17 => ?_) (fun h17 => ?_)
        · have h17 := tn_eq h17 (by omega) (by omega)
          refine lv_iload_n hx hb d_Mod_isClassName_32 rfl (lv_at hl 2 rfl) ?_
          refine lv_if_eq (tgt := 51) hx hb d_Mod_isClassName_33 (by decide) (fun h33 => ?_) (fun h33 => ?_)
          · refine lv_iconst (v := 0) hx hb d_Mod_isClassName_51 (by decide) ?_
            refine lv_istore_n hx hb d_Mod_isClassName_52 rfl hl (by decide) rfl (fun ls hl => ?_)
            have hl : lv_has ls 6 [(3, .int 0), (5, .int (nI k)), (4, .int (nI b9)), (0, .ref h0), (1, .int (nI x)), (2, .int (nI y))] := hl
            refine lv_iload hx hb d_Mod_isClassName_53 (lv_at hl 1 rfl) ?_
            refine lv_iconst (v := 1) hx hb d_Mod_isClassName_55 (by decide) ?_
            refine lv_iadd hx hb d_Mod_isClassName_56 ?_
            refine tw_ri (e2 := nI (k + 1)) (nI_add k 1) ?_
            refine lv_istore hx hb d_Mod_isClassName_57 hl (by decide) rfl (fun ls hl => ?_)
            have hl : lv_has ls 6 [(4, .int (nI (k + 1))), (3, .int 0), (5, .int (nI k)), (0, .ref h0), (1, .int (nI x)), (2, .int (nI y))] := hl
            refine lv_iinc (k := 2) (v := nI (k + 1)) hx hb d_Mod_isClassName_59 hl rfl ((nI_succ k).symm) (by decide) rfl (fun ls hl => ?_)
            have hl : lv_has ls 6 [(5, .int (nI (k + 1))), (4, .int (nI (k + 1))), (3, .int 0), (0, .ref h0), (1, .int (nI x)), (2, .int (nI y))] := hl
            refine lv_goto (tgt := 8) hx hb d_Mod_isClassName_62 (by decide) ?_
            exact ih _ (by omega) 0 (k + 1) (k + 1) ls rfl (by omega) (by omega) (by omega) (Or.inl rfl) (by rw [← hC, cnf_s1 (by omega) (Or.inl h17), if_pos h33]) (lv_sub hl [0, 1, 2, 3, 4, 5] rfl)
          · refine lv_aload_n hx hb d_Mod_isClassName_36 rfl (lv_at hl 3 rfl) ?_
            refine lv_iload hx hb d_Mod_isClassName_37 (lv_at hl 1 rfl) ?_
            refine lv_iload hx hb d_Mod_isClassName_39 (lv_at hl 0 rfl) ?_
            refine tw_si (tw_runV (ws := [(h0, .inr (10, mob q rf n mm mb fa fp av ev wi mn tp tc sc nf fd me mp xn mt wh tq ag an ig)), ((q 2), aI g 600 bs)]) (wc := [(h0, .inr (10, mob q rf n mm mb fa fp av ev wi mn tp tc sc nf fd me mp xn mt wh tq ag an ig)), ((q 2), aI g 600 bs)]) (As := [.int (nI b9), .int (nI k)]) (rest := []) E hB hK hZ (g_Mod_isName l g s.heap.size h0 q rf n mm mb fa fp av ev wi mn tp tc sc nf fd me mp xn mt wh tq ag an ig bs b9 k (by omega) (by omega)) mc_Mod_isName mi_Mod_isName me_Mod_isName wd_1544 hP hD hS hA [0, 1] rfl (by decide) 0 rfl rfl rfl rfl rfl (by decide) rfl hl.1 rfl (Nat.le_of_ble_eq_true rfl) (by decide) d_Mod_isClassName_41) (fun r1 hr1 => ?_)
            have hB1 := hr1
            refine lv_if_eq (tgt := 51) hx hb d_Mod_isClassName_44 (by decide) (fun h44 => ?_) (fun h44 => ?_)
            · refine lv_iconst (v := 0) hx hb d_Mod_isClassName_51 (by decide) ?_
              refine lv_istore_n hx hb d_Mod_isClassName_52 rfl hl (by decide) rfl (fun ls hl => ?_)
              have hl : lv_has ls 6 [(3, .int 0), (5, .int (nI k)), (4, .int (nI b9)), (0, .ref h0), (1, .int (nI x)), (2, .int (nI y))] := hl
              refine lv_iload hx hb d_Mod_isClassName_53 (lv_at hl 1 rfl) ?_
              refine lv_iconst (v := 1) hx hb d_Mod_isClassName_55 (by decide) ?_
              refine lv_iadd hx hb d_Mod_isClassName_56 ?_
              refine tw_ri (e2 := nI (k + 1)) (nI_add k 1) ?_
              refine lv_istore hx hb d_Mod_isClassName_57 hl (by decide) rfl (fun ls hl => ?_)
              have hl : lv_has ls 6 [(4, .int (nI (k + 1))), (3, .int 0), (5, .int (nI k)), (0, .ref h0), (1, .int (nI x)), (2, .int (nI y))] := hl
              refine lv_iinc (k := 2) (v := nI (k + 1)) hx hb d_Mod_isClassName_59 hl rfl ((nI_succ k).symm) (by decide) rfl (fun ls hl => ?_)
              have hl : lv_has ls 6 [(5, .int (nI (k + 1))), (4, .int (nI (k + 1))), (3, .int 0), (0, .ref h0), (1, .int (nI x)), (2, .int (nI y))] := hl
              refine lv_goto (tgt := 8) hx hb d_Mod_isClassName_62 (by decide) ?_
              exact ih _ (by omega) 0 (k + 1) (k + 1) ls rfl (by omega) (by omega) (by omega) (Or.inl rfl) (by rw [← hC, cnf_s1 (by omega) (Or.inl h17), if_neg h33, ← hB1.2, h44]) (lv_sub hl [0, 1, 2, 3, 4, 5] rfl)
            · refine lv_iconst (v := 1) hx hb d_Mod_isClassName_47 (by decide) ?_
              refine lv_goto (tgt := 52) hx hb d_Mod_isClassName_48 (by decide) ?_
              refine lv_istore_n hx hb d_Mod_isClassName_52 rfl hl (by decide) rfl (fun ls hl => ?_)
              have hl : lv_has ls 6 [(3, .int 1), (5, .int (nI k)), (4, .int (nI b9)), (0, .ref h0), (1, .int (nI x)), (2, .int (nI y))] := hl
              refine lv_iload hx hb d_Mod_isClassName_53 (lv_at hl 1 rfl) ?_
              refine lv_iconst (v := 1) hx hb d_Mod_isClassName_55 (by decide) ?_
              refine lv_iadd hx hb d_Mod_isClassName_56 ?_
              refine tw_ri (e2 := nI (k + 1)) (nI_add k 1) ?_
              refine lv_istore hx hb d_Mod_isClassName_57 hl (by decide) rfl (fun ls hl => ?_)
              have hl : lv_has ls 6 [(4, .int (nI (k + 1))), (3, .int 1), (5, .int (nI k)), (0, .ref h0), (1, .int (nI x)), (2, .int (nI y))] := hl
              refine lv_iinc (k := 2) (v := nI (k + 1)) hx hb d_Mod_isClassName_59 hl rfl ((nI_succ k).symm) (by decide) rfl (fun ls hl => ?_)
              have hl : lv_has ls 6 [(5, .int (nI (k + 1))), (4, .int (nI (k + 1))), (3, .int 1), (0, .ref h0), (1, .int (nI x)), (2, .int (nI y))] := hl
              refine lv_goto (tgt := 8) hx hb d_Mod_isClassName_62 (by decide) ?_
              exact ih _ (by omega) 1 (k + 1) (k + 1) ls rfl (by omega) (by omega) (by omega) (Or.inr rfl) (by rw [← hC, cnf_s1 (by omega) (Or.inl h17), if_neg h33, ← hB1.2, (hB1.1.resolve_left h44)]) (lv_sub hl [0, 1, 2, 3, 4, 5] rfl)
        · have h17 := tn_neq h17
          refine lv_aload_n hx hb d_Mod_isClassName_20 rfl (lv_at hl 3 rfl) ?_
          refine va_get (D := g.1) (ci := 10) (v := .ref (q 2)) (C := R_Mod) (T := F_Mod) (N := 61) hx hb hts in_Mod hown hK hP 0 rfl rfl 2 (by decide) (hts _ wd_1252) (fun _ h9 => h9) rfl d_Mod_isClassName_21 ?_
          refine lv_iload hx hb d_Mod_isClassName_24 (lv_at hl 0 rfl) ?_
          refine va_iald hx hb hK hP 1 0 rfl rfl (vp_in_nI (by omega) (by decide)) d_Mod_isClassName_26 ?_
          refine tw_ri (e2 := bs k) (by rw [nI_clamp (by omega)]) ?_
          refine lv_bipush (v := 47) hx hb d_Mod_isClassName_27 (by decide) ?_
          refine lv_icmp_ne (tgt := 59) hx hb d_Mod_isClassName_29 (by decide) (fun h29 => ?_) (fun h29 => ?_)
          · refine lv_iinc (k := 0) (v := nI (k + 1)) hx hb d_Mod_isClassName_59 hl rfl ((nI_succ k).symm) (by decide) rfl (fun ls hl => ?_)
            have hl : lv_has ls 6 [(5, .int (nI (k + 1))), (4, .int (nI b9)), (3, .int g9), (0, .ref h0), (1, .int (nI x)), (2, .int (nI y))] := hl
            refine lv_goto (tgt := 8) hx hb d_Mod_isClassName_62 (by decide) ?_
            exact ih _ (by omega) g9 b9 (k + 1) ls rfl (by omega) (by omega) (by omega) hg (by rw [← hC, cnf_s2 (by omega) h17 h29]) (lv_sub hl [0, 1, 2, 3, 4, 5] rfl)
          · refine lv_iload_n hx hb d_Mod_isClassName_32 rfl (lv_at hl 2 rfl) ?_
            refine lv_if_eq (tgt := 51) hx hb d_Mod_isClassName_33 (by decide) (fun h33 => ?_) (fun h33 => ?_)
            · refine lv_iconst (v := 0) hx hb d_Mod_isClassName_51 (by decide) ?_
              refine lv_istore_n hx hb d_Mod_isClassName_52 rfl hl (by decide) rfl (fun ls hl => ?_)
              have hl : lv_has ls 6 [(3, .int 0), (5, .int (nI k)), (4, .int (nI b9)), (0, .ref h0), (1, .int (nI x)), (2, .int (nI y))] := hl
              refine lv_iload hx hb d_Mod_isClassName_53 (lv_at hl 1 rfl) ?_
              refine lv_iconst (v := 1) hx hb d_Mod_isClassName_55 (by decide) ?_
              refine lv_iadd hx hb d_Mod_isClassName_56 ?_
              refine tw_ri (e2 := nI (k + 1)) (nI_add k 1) ?_
              refine lv_istore hx hb d_Mod_isClassName_57 hl (by decide) rfl (fun ls hl => ?_)
              have hl : lv_has ls 6 [(4, .int (nI (k + 1))), (3, .int 0), (5, .int (nI k)), (0, .ref h0), (1, .int (nI x)), (2, .int (nI y))] := hl
              refine lv_iinc (k := 2) (v := nI (k + 1)) hx hb d_Mod_isClassName_59 hl rfl ((nI_succ k).symm) (by decide) rfl (fun ls hl => ?_)
              have hl : lv_has ls 6 [(5, .int (nI (k + 1))), (4, .int (nI (k + 1))), (3, .int 0), (0, .ref h0), (1, .int (nI x)), (2, .int (nI y))] := hl
              refine lv_goto (tgt := 8) hx hb d_Mod_isClassName_62 (by decide) ?_
              exact ih _ (by omega) 0 (k + 1) (k + 1) ls rfl (by omega) (by omega) (by omega) (Or.inl rfl) (by rw [← hC, cnf_s1 (by omega) (Or.inr h29), if_pos h33]) (lv_sub hl [0, 1, 2, 3, 4, 5] rfl)
            · refine lv_aload_n hx hb d_Mod_isClassName_36 rfl (lv_at hl 3 rfl) ?_
              refine lv_iload hx hb d_Mod_isClassName_37 (lv_at hl 1 rfl) ?_
              refine lv_iload hx hb d_Mod_isClassName_39 (lv_at hl 0 rfl) ?_
              refine tw_si (tw_runV (ws := [(h0, .inr (10, mob q rf n mm mb fa fp av ev wi mn tp tc sc nf fd me mp xn mt wh tq ag an ig)), ((q 2), aI g 600 bs)]) (wc := [(h0, .inr (10, mob q rf n mm mb fa fp av ev wi mn tp tc sc nf fd me mp xn mt wh tq ag an ig)), ((q 2), aI g 600 bs)]) (As := [.int (nI b9), .int (nI k)]) (rest := []) E hB hK hZ (g_Mod_isName l g s.heap.size h0 q rf n mm mb fa fp av ev wi mn tp tc sc nf fd me mp xn mt wh tq ag an ig bs b9 k (by omega) (by omega)) mc_Mod_isName mi_Mod_isName me_Mod_isName wd_1544 hP hD hS hA [0, 1] rfl (by decide) 0 rfl rfl rfl rfl rfl (by decide) rfl hl.1 rfl (Nat.le_of_ble_eq_true rfl) (by decide) d_Mod_isClassName_41) (fun r2 hr2 => ?_)
              have hB2 := hr2
              refine lv_if_eq (tgt := 51) hx hb d_Mod_isClassName_44 (by decide) (fun h44 => ?_) (fun h44 => ?_)
              · refine lv_iconst (v := 0) hx hb d_Mod_isClassName_51 (by decide) ?_
                refine lv_istore_n hx hb d_Mod_isClassName_52 rfl hl (by decide) rfl (fun ls hl => ?_)
                have hl : lv_has ls 6 [(3, .int 0), (5, .int (nI k)), (4, .int (nI b9)), (0, .ref h0), (1, .int (nI x)), (2, .int (nI y))] := hl
                refine lv_iload hx hb d_Mod_isClassName_53 (lv_at hl 1 rfl) ?_
                refine lv_iconst (v := 1) hx hb d_Mod_isClassName_55 (by decide) ?_
                refine lv_iadd hx hb d_Mod_isClassName_56 ?_
                refine tw_ri (e2 := nI (k + 1)) (nI_add k 1) ?_
                refine lv_istore hx hb d_Mod_isClassName_57 hl (by decide) rfl (fun ls hl => ?_)
                have hl : lv_has ls 6 [(4, .int (nI (k + 1))), (3, .int 0), (5, .int (nI k)), (0, .ref h0), (1, .int (nI x)), (2, .int (nI y))] := hl
                refine lv_iinc (k := 2) (v := nI (k + 1)) hx hb d_Mod_isClassName_59 hl rfl ((nI_succ k).symm) (by decide) rfl (fun ls hl => ?_)
                have hl : lv_has ls 6 [(5, .int (nI (k + 1))), (4, .int (nI (k + 1))), (3, .int 0), (0, .ref h0), (1, .int (nI x)), (2, .int (nI y))] := hl
                refine lv_goto (tgt := 8) hx hb d_Mod_isClassName_62 (by decide) ?_
                exact ih _ (by omega) 0 (k + 1) (k + 1) ls rfl (by omega) (by omega) (by omega) (Or.inl rfl) (by rw [← hC, cnf_s1 (by omega) (Or.inr h29), if_neg h33, ← hB2.2, h44]) (lv_sub hl [0, 1, 2, 3, 4, 5] rfl)
              · refine lv_iconst (v := 1) hx hb d_Mod_isClassName_47 (by decide) ?_
                refine lv_goto (tgt := 52) hx hb d_Mod_isClassName_48 (by decide) ?_
                refine lv_istore_n hx hb d_Mod_isClassName_52 rfl hl (by decide) rfl (fun ls hl => ?_)
                have hl : lv_has ls 6 [(3, .int 1), (5, .int (nI k)), (4, .int (nI b9)), (0, .ref h0), (1, .int (nI x)), (2, .int (nI y))] := hl
                refine lv_iload hx hb d_Mod_isClassName_53 (lv_at hl 1 rfl) ?_
                refine lv_iconst (v := 1) hx hb d_Mod_isClassName_55 (by decide) ?_
                refine lv_iadd hx hb d_Mod_isClassName_56 ?_
                refine tw_ri (e2 := nI (k + 1)) (nI_add k 1) ?_
                refine lv_istore hx hb d_Mod_isClassName_57 hl (by decide) rfl (fun ls hl => ?_)
                have hl : lv_has ls 6 [(4, .int (nI (k + 1))), (3, .int 1), (5, .int (nI k)), (0, .ref h0), (1, .int (nI x)), (2, .int (nI y))] := hl
                refine lv_iinc (k := 2) (v := nI (k + 1)) hx hb d_Mod_isClassName_59 hl rfl ((nI_succ k).symm) (by decide) rfl (fun ls hl => ?_)
                have hl : lv_has ls 6 [(5, .int (nI (k + 1))), (4, .int (nI (k + 1))), (3, .int 1), (0, .ref h0), (1, .int (nI x)), (2, .int (nI y))] := hl
                refine lv_goto (tgt := 8) hx hb d_Mod_isClassName_62 (by decide) ?_
                exact ih _ (by omega) 1 (k + 1) (k + 1) ls rfl (by omega) (by omega) (by omega) (Or.inr rfl) (by rw [← hC, cnf_s1 (by omega) (Or.inr h29), if_neg h33, ← hB2.2, (hB2.1.resolve_left h44)]) (lv_sub hl [0, 1, 2, 3, 4, 5] rfl)
  exact loop8 _ 1 x x ls rfl (Nat.le_refl _) (by omega) (Nat.le_refl _) (Or.inr rfl) rfl (hl)
set_option maxHeartbeats 4000000 in
set_option maxRecDepth 100000 in
theorem g_Mod_typeEnd (l : Launch) (g : tw_G) (sz : Nat) (h0 : Nat) (q : Nat → Nat) (rf : Int32) (n : Nat) (mm : Int32) (mb : Int32) (fa : Int32) (fp : Int32) (av : Nat) (ev : Nat) (wi : Int32) (mn : Nat) (tp : Int32) (tc : Int32) (sc : Int32) (nf : Nat) (fd : Nat) (me : Nat) (mp : Int32) (xn : Nat) (mt : Nat) (wh : Nat) (tq : Nat) (ag : Nat) (an : Int32) (ig : Int32) (bs : Nat → Int32) (x : Nat) (y : Nat) (hxy : x ≤ y) (hy6 : y ≤ 600) : Met l y_Mod_typeEnd [.code y_Mod_typeEnd b_Mod_typeEnd 6 (some .int)] ({ frames := 3, cells := 0, slots := 0, locals := 69 }) (tw_P g [.ref h0, .int (nI x), .int (nI y)] [(h0, .inr (10, mob q rf n mm mb fa fp av ev wi mn tp tc sc nf fd me mp xn mt wh tq ag an ig)), ((q 2), aI g 600 bs)] sz) (vp_Si (fun (r : Int32) => r = tef bs x y)) 0 0 (fun _ => False) := by
  refine tw_met (l := l) (g := g) (y := y_Mod_typeEnd) (cc := b_Mod_typeEnd) (maxL := 6) (ret := (some .int)) (rm := { frames := 3, cells := 0, slots := 0, locals := 69 }) (mc := 0) (ms := 0) (av := [.ref h0, .int (nI x), .int (nI y)]) (ws := [(h0, .inr (10, mob q rf n mm mb fa fp av ev wi mn tp tc sc nf fd me mp xn mt wh tq ag an ig)), ((q 2), aI g 600 bs)]) (sz := sz) (Qc := fun _ => (vp_Si (fun (r : Int32) => r = tef bs x y))) (free := fun _ _ => False) (by decide) (Nat.le_of_ble_eq_true rfl) ?_
  intro p e s m below meth c ls A E hB hK hZ hP hD hS hA hl
  obtain ⟨hx, hb, hml, hr, hown, hts, hlocks, hin⟩ := id E
  have hl : lv_has ls 6 [(0, .ref h0), (1, .int (nI x)), (2, .int (nI y))] := hl
  refine lv_iload_n hx hb d_Mod_typeEnd_0 rfl (lv_at hl 1 rfl) ?_
  refine lv_istore_n hx hb d_Mod_typeEnd_1 rfl hl (by decide) rfl (fun ls hl => ?_)
  have hl : lv_has ls 6 [(3, .int (nI x)), (0, .ref h0), (1, .int (nI x)), (2, .int (nI y))] := hl
  have loop2 : ∀ (kq : Nat) (k : Nat) (ls : Array Slot) , y - k = kq → (hk1 : x ≤ k) → (hk2 : k ≤ y) → (hk0 : skb bs y (y - k) k = skb bs y (y - x) x) → lv_has ls 6 [(3, .int (nI k)), (0, .ref h0), (1, .int (nI x)), (2, .int (nI y))] → W p l e ({ frames := 3, cells := 0, slots := 0, locals := 69 }) s m [.ref h0, .int (nI x), .int (nI y)].toArray below meth c s.heap [] 0 0 (MQ below (vp_Si (fun (r : Int32) => r = tef bs x y)) [.ref h0, .int (nI x), .int (nI y)].toArray s 0 0 (fun _ => False)) (F0 m 2 ls []) := by
    intro kq
    induction kq using Nat.strongRecOn with
    | _ kq ih =>
      intro k ls hk hk1 hk2 hk0 hl 
      refine lv_iload_n hx hb d_Mod_typeEnd_2 rfl (lv_at hl 0 rfl) ?_
      refine lv_iload_n hx hb d_Mod_typeEnd_3 rfl (lv_at hl 3 rfl) ?_
      refine lv_icmp_ge (tgt := 24) hx hb d_Mod_typeEnd_4 (by decide) (fun h4 => ?_) (fun h4 => ?_)
      · have h4 := tn_le h4 (by omega) (by omega)
        have hKk : skb bs y (y - x) x = k := by rw [← hk0]; exact skb_0 h4
        refine lv_iload_n hx hb d_Mod_typeEnd_24 rfl (lv_at hl 0 rfl) ?_
        refine lv_iload_n hx hb d_Mod_typeEnd_25 rfl (lv_at hl 3 rfl) ?_
        refine lv_icmp_ne (tgt := 31) hx hb d_Mod_typeEnd_26 (by decide) (fun h26 => ?_) (fun h26 => ?_)
        · have h26 := tn_neq h26
          have hky : k < y := by omega
          refine lv_aload_n hx hb d_Mod_typeEnd_31 rfl (lv_at hl 1 rfl) ?_
          refine va_get (D := g.1) (ci := 10) (v := .ref (q 2)) (C := R_Mod) (T := F_Mod) (N := 61) hx hb hts in_Mod hown hK hP 0 rfl rfl 2 (by decide) (hts _ wd_1252) (fun _ h9 => h9) rfl d_Mod_typeEnd_32 ?_
          refine lv_iload_n hx hb d_Mod_typeEnd_35 rfl (lv_at hl 0 rfl) ?_
          refine va_iald hx hb hK hP 1 0 rfl rfl (vp_in_nI (by omega) (by decide)) d_Mod_typeEnd_36 ?_
          refine tw_ri (e2 := bs k) (by rw [nI_clamp (by omega)]) ?_
          refine lv_istore hx hb d_Mod_typeEnd_37 hl (by decide) rfl (fun ls hl => ?_)
          have hl : lv_has ls 6 [(4, .int (bs k)), (3, .int (nI k)), (0, .ref h0), (1, .int (nI x)), (2, .int (nI y))] := hl
          refine lv_iload hx hb d_Mod_typeEnd_39 (lv_at hl 0 rfl) ?_
          refine lv_bipush (v := 76) hx hb d_Mod_typeEnd_41 (by decide) ?_
          refine lv_icmp_ne (tgt := 102) hx hb d_Mod_typeEnd_43 (by decide) (fun h43 => ?_) (fun h43 => ?_)
          · refine lv_iload hx hb d_Mod_typeEnd_102 (lv_at hl 0 rfl) ?_
            refine lv_bipush (v := 66) hx hb d_Mod_typeEnd_104 (by decide) ?_
            refine lv_icmp_eq (tgt := 158) hx hb d_Mod_typeEnd_106 (by decide) (fun h106 => ?_) (fun h106 => ?_)
            · refine lv_iload_n hx hb d_Mod_typeEnd_158 rfl (lv_at hl 1 rfl) ?_
              refine lv_iconst (v := 1) hx hb d_Mod_typeEnd_159 (by decide) ?_
              refine lv_iadd hx hb d_Mod_typeEnd_160 ?_
              refine tw_ri (e2 := nI (k + 1)) (nI_add k 1) ?_
              refine lv_goto (tgt := 165) hx hb d_Mod_typeEnd_161 (by decide) ?_
              exact tw_isret E (by unfold tef; rw [hKk]; unfold teK; rw [if_neg h26, if_neg h43]; unfold tel; rw [if_pos h106]) d_Mod_typeEnd_165
            · refine lv_iload hx hb d_Mod_typeEnd_109 (lv_at hl 0 rfl) ?_
              refine lv_bipush (v := 67) hx hb d_Mod_typeEnd_111 (by decide) ?_
              refine lv_icmp_eq (tgt := 158) hx hb d_Mod_typeEnd_113 (by decide) (fun h113 => ?_) (fun h113 => ?_)
              · refine lv_iload_n hx hb d_Mod_typeEnd_158 rfl (lv_at hl 1 rfl) ?_
                refine lv_iconst (v := 1) hx hb d_Mod_typeEnd_159 (by decide) ?_
                refine lv_iadd hx hb d_Mod_typeEnd_160 ?_
                refine tw_ri (e2 := nI (k + 1)) (nI_add k 1) ?_
                refine lv_goto (tgt := 165) hx hb d_Mod_typeEnd_161 (by decide) ?_
                exact tw_isret E (by unfold tef; rw [hKk]; unfold teK; rw [if_neg h26, if_neg h43]; unfold tel; rw [if_neg h106, if_pos h113]) d_Mod_typeEnd_165
              · refine lv_iload hx hb d_Mod_typeEnd_116 (lv_at hl 0 rfl) ?_
                refine lv_bipush (v := 68) hx hb d_Mod_typeEnd_118 (by decide) ?_
                refine lv_icmp_eq (tgt := 158) hx hb d_Mod_typeEnd_120 (by decide) (fun h120 => ?_) (fun h120 => ?_)
                · refine lv_iload_n hx hb d_Mod_typeEnd_158 rfl (lv_at hl 1 rfl) ?_
                  refine lv_iconst (v := 1) hx hb d_Mod_typeEnd_159 (by decide) ?_
                  refine lv_iadd hx hb d_Mod_typeEnd_160 ?_
                  refine tw_ri (e2 := nI (k + 1)) (nI_add k 1) ?_
                  refine lv_goto (tgt := 165) hx hb d_Mod_typeEnd_161 (by decide) ?_
                  exact tw_isret E (by unfold tef; rw [hKk]; unfold teK; rw [if_neg h26, if_neg h43]; unfold tel; rw [if_neg h106, if_neg h113, if_pos h120]) d_Mod_typeEnd_165
                · refine lv_iload hx hb d_Mod_typeEnd_123 (lv_at hl 0 rfl) ?_
                  refine lv_bipush (v := 70) hx hb d_Mod_typeEnd_125 (by decide) ?_
                  refine lv_icmp_eq (tgt := 158) hx hb d_Mod_typeEnd_127 (by decide) (fun h127 => ?_) (fun h127 => ?_)
                  · refine lv_iload_n hx hb d_Mod_typeEnd_158 rfl (lv_at hl 1 rfl) ?_
                    refine lv_iconst (v := 1) hx hb d_Mod_typeEnd_159 (by decide) ?_
                    refine lv_iadd hx hb d_Mod_typeEnd_160 ?_
                    refine tw_ri (e2 := nI (k + 1)) (nI_add k 1) ?_
                    refine lv_goto (tgt := 165) hx hb d_Mod_typeEnd_161 (by decide) ?_
                    exact tw_isret E (by unfold tef; rw [hKk]; unfold teK; rw [if_neg h26, if_neg h43]; unfold tel; rw [if_neg h106, if_neg h113, if_neg h120, if_pos h127]) d_Mod_typeEnd_165
                  · refine lv_iload hx hb d_Mod_typeEnd_130 (lv_at hl 0 rfl) ?_
                    refine lv_bipush (v := 73) hx hb d_Mod_typeEnd_132 (by decide) ?_
                    refine lv_icmp_eq (tgt := 158) hx hb d_Mod_typeEnd_134 (by decide) (fun h134 => ?_) (fun h134 => ?_)
                    · refine lv_iload_n hx hb d_Mod_typeEnd_158 rfl (lv_at hl 1 rfl) ?_
                      refine lv_iconst (v := 1) hx hb d_Mod_typeEnd_159 (by decide) ?_
                      refine lv_iadd hx hb d_Mod_typeEnd_160 ?_
                      refine tw_ri (e2 := nI (k + 1)) (nI_add k 1) ?_
                      refine lv_goto (tgt := 165) hx hb d_Mod_typeEnd_161 (by decide) ?_
                      exact tw_isret E (by unfold tef; rw [hKk]; unfold teK; rw [if_neg h26, if_neg h43]; unfold tel; rw [if_neg h106, if_neg h113, if_neg h120, if_neg h127, if_pos h134]) d_Mod_typeEnd_165
                    · refine lv_iload hx hb d_Mod_typeEnd_137 (lv_at hl 0 rfl) ?_
                      refine lv_bipush (v := 74) hx hb d_Mod_typeEnd_139 (by decide) ?_
                      refine lv_icmp_eq (tgt := 158) hx hb d_Mod_typeEnd_141 (by decide) (fun h141 => ?_) (fun h141 => ?_)
                      · refine lv_iload_n hx hb d_Mod_typeEnd_158 rfl (lv_at hl 1 rfl) ?_
                        refine lv_iconst (v := 1) hx hb d_Mod_typeEnd_159 (by decide) ?_
                        refine lv_iadd hx hb d_Mod_typeEnd_160 ?_
                        refine tw_ri (e2 := nI (k + 1)) (nI_add k 1) ?_
                        refine lv_goto (tgt := 165) hx hb d_Mod_typeEnd_161 (by decide) ?_
                        exact tw_isret E (by unfold tef; rw [hKk]; unfold teK; rw [if_neg h26, if_neg h43]; unfold tel; rw [if_neg h106, if_neg h113, if_neg h120, if_neg h127, if_neg h134, if_pos h141]) d_Mod_typeEnd_165
                      · refine lv_iload hx hb d_Mod_typeEnd_144 (lv_at hl 0 rfl) ?_
                        refine lv_bipush (v := 83) hx hb d_Mod_typeEnd_146 (by decide) ?_
                        refine lv_icmp_eq (tgt := 158) hx hb d_Mod_typeEnd_148 (by decide) (fun h148 => ?_) (fun h148 => ?_)
                        · refine lv_iload_n hx hb d_Mod_typeEnd_158 rfl (lv_at hl 1 rfl) ?_
                          refine lv_iconst (v := 1) hx hb d_Mod_typeEnd_159 (by decide) ?_
                          refine lv_iadd hx hb d_Mod_typeEnd_160 ?_
                          refine tw_ri (e2 := nI (k + 1)) (nI_add k 1) ?_
                          refine lv_goto (tgt := 165) hx hb d_Mod_typeEnd_161 (by decide) ?_
                          exact tw_isret E (by unfold tef; rw [hKk]; unfold teK; rw [if_neg h26, if_neg h43]; unfold tel; rw [if_neg h106, if_neg h113, if_neg h120, if_neg h127, if_neg h134, if_neg h141, if_pos h148]) d_Mod_typeEnd_165
                        · refine lv_iload hx hb d_Mod_typeEnd_151 (lv_at hl 0 rfl) ?_
                          refine lv_bipush (v := 90) hx hb d_Mod_typeEnd_153 (by decide) ?_
                          refine lv_icmp_ne (tgt := 164) hx hb d_Mod_typeEnd_155 (by decide) (fun h155 => ?_) (fun h155 => ?_)
                          · refine lv_iconst (v := (-1)) hx hb d_Mod_typeEnd_164 (by decide) ?_
                            exact tw_isret E (by unfold tef; rw [hKk]; unfold teK; rw [if_neg h26, if_neg h43]; unfold tel; rw [if_neg h106, if_neg h113, if_neg h120, if_neg h127, if_neg h134, if_neg h141, if_neg h148, if_neg h155]) d_Mod_typeEnd_165
                          · refine lv_iload_n hx hb d_Mod_typeEnd_158 rfl (lv_at hl 1 rfl) ?_
                            refine lv_iconst (v := 1) hx hb d_Mod_typeEnd_159 (by decide) ?_
                            refine lv_iadd hx hb d_Mod_typeEnd_160 ?_
                            refine tw_ri (e2 := nI (k + 1)) (nI_add k 1) ?_
                            refine lv_goto (tgt := 165) hx hb d_Mod_typeEnd_161 (by decide) ?_
                            exact tw_isret E (by unfold tef; rw [hKk]; unfold teK; rw [if_neg h26, if_neg h43]; unfold tel; rw [if_neg h106, if_neg h113, if_neg h120, if_neg h127, if_neg h134, if_neg h141, if_neg h148, if_pos h155]) d_Mod_typeEnd_165
          · refine lv_iload_n hx hb d_Mod_typeEnd_46 rfl (lv_at hl 1 rfl) ?_
            refine lv_iconst (v := 1) hx hb d_Mod_typeEnd_47 (by decide) ?_
            refine lv_iadd hx hb d_Mod_typeEnd_48 ?_
            refine tw_ri (e2 := nI (k + 1)) (nI_add k 1) ?_
            refine lv_istore hx hb d_Mod_typeEnd_49 hl (by decide) rfl (fun ls hl => ?_)
            have hl : lv_has ls 6 [(5, .int (nI (k + 1))), (4, .int (bs k)), (3, .int (nI k)), (0, .ref h0), (1, .int (nI x)), (2, .int (nI y))] := hl
            have loop51 : ∀ (kq : Nat) (j : Nat) (ls : Array Slot) , y - j = kq → (hj1 : k + 1 ≤ j) → (hj2 : j ≤ y) → (hj0 : ske bs y (y - j) j = ske bs y (y - (k + 1)) (k + 1)) → lv_has ls 6 [(5, .int (nI j)), (4, .int (bs k)), (3, .int (nI k)), (0, .ref h0), (1, .int (nI x)), (2, .int (nI y))] → W p l e ({ frames := 3, cells := 0, slots := 0, locals := 69 }) s m [.ref h0, .int (nI x), .int (nI y)].toArray below meth c s.heap [] 0 0 (MQ below (vp_Si (fun (r : Int32) => r = tef bs x y)) [.ref h0, .int (nI x), .int (nI y)].toArray s 0 0 (fun _ => False)) (F0 m 51 ls []) := by
              intro kq
              induction kq using Nat.strongRecOn with
              | _ kq ih51 =>
                intro j ls hk51 hj1 hj2 hj0 hl 
                refine lv_iload hx hb d_Mod_typeEnd_51 (lv_at hl 0 rfl) ?_
                refine lv_iload_n hx hb d_Mod_typeEnd_53 rfl (lv_at hl 5 rfl) ?_
                refine lv_icmp_ge (tgt := 75) hx hb d_Mod_typeEnd_54 (by decide) (fun h54 => ?_) (fun h54 => ?_)
                · have h54 := tn_le h54 (by omega) (by omega)
                  have hJ : ske bs y (y - (k + 1)) (k + 1) = j := by rw [← hj0]; exact ske_0 h54
                  refine lv_iload hx hb d_Mod_typeEnd_75 (lv_at hl 0 rfl) ?_
                  refine lv_iload_n hx hb d_Mod_typeEnd_77 rfl (lv_at hl 5 rfl) ?_
                  refine lv_icmp_ge (tgt := 100) hx hb d_Mod_typeEnd_78 (by decide) (fun h78 => ?_) (fun h78 => ?_)
                  · have h78 := tn_le h78 (by omega) (by omega)
                    refine lv_iconst (v := (-1)) hx hb d_Mod_typeEnd_100 (by decide) ?_
                    exact tw_isret E (by unfold tef; rw [hKk]; unfold teK; rw [if_neg h26, if_pos h43, hJ]; unfold teE; rw [if_neg (by omega)]) d_Mod_typeEnd_101
                  · have h78 := tn_nle h78 (by omega) (by omega)
                    refine lv_aload_n hx hb d_Mod_typeEnd_81 rfl (lv_at hl 3 rfl) ?_
                    refine lv_iload_n hx hb d_Mod_typeEnd_82 rfl (lv_at hl 2 rfl) ?_
                    refine lv_iconst (v := 1) hx hb d_Mod_typeEnd_83 (by decide) ?_
                    refine lv_iadd hx hb d_Mod_typeEnd_84 ?_
                    refine tw_ri (e2 := nI (k + 1)) (nI_add k 1) ?_
                    refine lv_iload hx hb d_Mod_typeEnd_85 (lv_at hl 0 rfl) ?_
                    refine tw_si (tw_runV (ws := [(h0, .inr (10, mob q rf n mm mb fa fp av ev wi mn tp tc sc nf fd me mp xn mt wh tq ag an ig)), ((q 2), aI g 600 bs)]) (wc := [(h0, .inr (10, mob q rf n mm mb fa fp av ev wi mn tp tc sc nf fd me mp xn mt wh tq ag an ig)), ((q 2), aI g 600 bs)]) (As := [.int (nI (k + 1)), .int (nI j)]) (rest := []) E hB hK hZ (g_Mod_isClassName l g s.heap.size h0 q rf n mm mb fa fp av ev wi mn tp tc sc nf fd me mp xn mt wh tq ag an ig bs (k + 1) j (by omega) (by omega)) mc_Mod_isClassName mi_Mod_isClassName me_Mod_isClassName wd_1540 hP hD hS hA [0, 1] rfl (by decide) 0 rfl rfl rfl rfl rfl (by decide) rfl hl.1 rfl (Nat.le_of_ble_eq_true rfl) (by decide) d_Mod_typeEnd_87) (fun r1 hr1 => ?_)
                    have hB1 := hr1
                    refine lv_if_eq (tgt := 100) hx hb d_Mod_typeEnd_90 (by decide) (fun h90 => ?_) (fun h90 => ?_)
                    · refine lv_iconst (v := (-1)) hx hb d_Mod_typeEnd_100 (by decide) ?_
                      exact tw_isret E (by unfold tef; rw [hKk]; unfold teK; rw [if_neg h26, if_pos h43, hJ]; unfold teE; rw [if_pos h78, ← hB1.2, if_pos h90]) d_Mod_typeEnd_101
                    · refine lv_iload hx hb d_Mod_typeEnd_93 (lv_at hl 0 rfl) ?_
                      refine lv_iconst (v := 1) hx hb d_Mod_typeEnd_95 (by decide) ?_
                      refine lv_iadd hx hb d_Mod_typeEnd_96 ?_
                      refine tw_ri (e2 := nI (j + 1)) (nI_add j 1) ?_
                      refine lv_goto (tgt := 101) hx hb d_Mod_typeEnd_97 (by decide) ?_
                      exact tw_isret E (by unfold tef; rw [hKk]; unfold teK; rw [if_neg h26, if_pos h43, hJ]; unfold teE; rw [if_pos h78, ← hB1.2, if_neg h90]) d_Mod_typeEnd_101
                · have h54 := tn_nle h54 (by omega) (by omega)
                  refine lv_aload_n hx hb d_Mod_typeEnd_57 rfl (lv_at hl 3 rfl) ?_
                  refine va_get (D := g.1) (ci := 10) (v := .ref (q 2)) (C := R_Mod) (T := F_Mod) (N := 61) hx hb hts in_Mod hown hK hP 0 rfl rfl 2 (by decide) (hts _ wd_1252) (fun _ h9 => h9) rfl d_Mod_typeEnd_58 ?_
                  refine lv_iload hx hb d_Mod_typeEnd_61 (lv_at hl 0 rfl) ?_
                  refine va_iald hx hb hK hP 1 0 rfl rfl (vp_in_nI (by omega) (by decide)) d_Mod_typeEnd_63 ?_
                  refine tw_ri (e2 := bs j) (by rw [nI_clamp (by omega)]) ?_
                  refine lv_bipush (v := 59) hx hb d_Mod_typeEnd_64 (by decide) ?_
                  refine lv_icmp_eq (tgt := 75) hx hb d_Mod_typeEnd_66 (by decide) (fun h66 => ?_) (fun h66 => ?_)
                  · have hJ : ske bs y (y - (k + 1)) (k + 1) = j := by rw [← hj0]; exact ske_1 h66
                    refine lv_iload hx hb d_Mod_typeEnd_75 (lv_at hl 0 rfl) ?_
                    refine lv_iload_n hx hb d_Mod_typeEnd_77 rfl (lv_at hl 5 rfl) ?_
                    refine lv_icmp_ge (tgt := 100) hx hb d_Mod_typeEnd_78 (by decide) (fun h78 => ?_) (fun h78 => ?_)
                    · have h78 := tn_le h78 (by omega) (by omega)
                      refine lv_iconst (v := (-1)) hx hb d_Mod_typeEnd_100 (by decide) ?_
                      exact tw_isret E (by unfold tef; rw [hKk]; unfold teK; rw [if_neg h26, if_pos h43, hJ]; unfold teE; rw [if_neg (by omega)]) d_Mod_typeEnd_101
                    · have h78 := tn_nle h78 (by omega) (by omega)
                      refine lv_aload_n hx hb d_Mod_typeEnd_81 rfl (lv_at hl 3 rfl) ?_
                      refine lv_iload_n hx hb d_Mod_typeEnd_82 rfl (lv_at hl 2 rfl) ?_
                      refine lv_iconst (v := 1) hx hb d_Mod_typeEnd_83 (by decide) ?_
                      refine lv_iadd hx hb d_Mod_typeEnd_84 ?_
                      refine tw_ri (e2 := nI (k + 1)) (nI_add k 1) ?_
                      refine lv_iload hx hb d_Mod_typeEnd_85 (lv_at hl 0 rfl) ?_
                      refine tw_si (tw_runV (ws := [(h0, .inr (10, mob q rf n mm mb fa fp av ev wi mn tp tc sc nf fd me mp xn mt wh tq ag an ig)), ((q 2), aI g 600 bs)]) (wc := [(h0, .inr (10, mob q rf n mm mb fa fp av ev wi mn tp tc sc nf fd me mp xn mt wh tq ag an ig)), ((q 2), aI g 600 bs)]) (As := [.int (nI (k + 1)), .int (nI j)]) (rest := []) E hB hK hZ (g_Mod_isClassName l g s.heap.size h0 q rf n mm mb fa fp av ev wi mn tp tc sc nf fd me mp xn mt wh tq ag an ig bs (k + 1) j (by omega) (by omega)) mc_Mod_isClassName mi_Mod_isClassName me_Mod_isClassName wd_1540 hP hD hS hA [0, 1] rfl (by decide) 0 rfl rfl rfl rfl rfl (by decide) rfl hl.1 rfl (Nat.le_of_ble_eq_true rfl) (by decide) d_Mod_typeEnd_87) (fun r2 hr2 => ?_)
                      have hB2 := hr2
                      refine lv_if_eq (tgt := 100) hx hb d_Mod_typeEnd_90 (by decide) (fun h90 => ?_) (fun h90 => ?_)
                      · refine lv_iconst (v := (-1)) hx hb d_Mod_typeEnd_100 (by decide) ?_
                        exact tw_isret E (by unfold tef; rw [hKk]; unfold teK; rw [if_neg h26, if_pos h43, hJ]; unfold teE; rw [if_pos h78, ← hB2.2, if_pos h90]) d_Mod_typeEnd_101
                      · refine lv_iload hx hb d_Mod_typeEnd_93 (lv_at hl 0 rfl) ?_
                        refine lv_iconst (v := 1) hx hb d_Mod_typeEnd_95 (by decide) ?_
                        refine lv_iadd hx hb d_Mod_typeEnd_96 ?_
                        refine tw_ri (e2 := nI (j + 1)) (nI_add j 1) ?_
                        refine lv_goto (tgt := 101) hx hb d_Mod_typeEnd_97 (by decide) ?_
                        exact tw_isret E (by unfold tef; rw [hKk]; unfold teK; rw [if_neg h26, if_pos h43, hJ]; unfold teE; rw [if_pos h78, ← hB2.2, if_neg h90]) d_Mod_typeEnd_101
                  · refine lv_iinc (k := 0) (v := nI (j + 1)) hx hb d_Mod_typeEnd_69 hl rfl ((nI_succ j).symm) (by decide) rfl (fun ls hl => ?_)
                    have hl : lv_has ls 6 [(5, .int (nI (j + 1))), (4, .int (bs k)), (3, .int (nI k)), (0, .ref h0), (1, .int (nI x)), (2, .int (nI y))] := hl
                    refine lv_goto (tgt := 51) hx hb d_Mod_typeEnd_72 (by decide) ?_
                    exact ih51 _ (by omega) (j + 1) ls rfl (by omega) (by omega) (by rw [← hj0, ske_s h54 h66]) (lv_sub hl [0, 1, 2, 3, 4, 5] rfl)
            exact loop51 _ (k + 1) ls rfl (Nat.le_refl _) (by omega) rfl (hl)
        · have h26 := tn_eq h26 (by omega) (by omega)
          refine lv_iconst (v := (-1)) hx hb d_Mod_typeEnd_29 (by decide) ?_
          exact tw_isret E (by unfold tef; rw [hKk]; unfold teK; rw [if_pos h26]) d_Mod_typeEnd_30
      · have h4 := tn_nle h4 (by omega) (by omega)
        refine lv_aload_n hx hb d_Mod_typeEnd_7 rfl (lv_at hl 1 rfl) ?_
        refine va_get (D := g.1) (ci := 10) (v := .ref (q 2)) (C := R_Mod) (T := F_Mod) (N := 61) hx hb hts in_Mod hown hK hP 0 rfl rfl 2 (by decide) (hts _ wd_1252) (fun _ h9 => h9) rfl d_Mod_typeEnd_8 ?_
        refine lv_iload_n hx hb d_Mod_typeEnd_11 rfl (lv_at hl 0 rfl) ?_
        refine va_iald hx hb hK hP 1 0 rfl rfl (vp_in_nI (by omega) (by decide)) d_Mod_typeEnd_12 ?_
        refine tw_ri (e2 := bs k) (by rw [nI_clamp (by omega)]) ?_
        refine lv_bipush (v := 91) hx hb d_Mod_typeEnd_13 (by decide) ?_
        refine lv_icmp_ne (tgt := 24) hx hb d_Mod_typeEnd_15 (by decide) (fun h15 => ?_) (fun h15 => ?_)
        · have hKk : skb bs y (y - x) x = k := by rw [← hk0]; exact skb_1 h15
          refine lv_iload_n hx hb d_Mod_typeEnd_24 rfl (lv_at hl 0 rfl) ?_
          refine lv_iload_n hx hb d_Mod_typeEnd_25 rfl (lv_at hl 3 rfl) ?_
          refine lv_icmp_ne (tgt := 31) hx hb d_Mod_typeEnd_26 (by decide) (fun h26 => ?_) (fun h26 => ?_)
          · have h26 := tn_neq h26
            have hky : k < y := by omega
            refine lv_aload_n hx hb d_Mod_typeEnd_31 rfl (lv_at hl 1 rfl) ?_
            refine va_get (D := g.1) (ci := 10) (v := .ref (q 2)) (C := R_Mod) (T := F_Mod) (N := 61) hx hb hts in_Mod hown hK hP 0 rfl rfl 2 (by decide) (hts _ wd_1252) (fun _ h9 => h9) rfl d_Mod_typeEnd_32 ?_
            refine lv_iload_n hx hb d_Mod_typeEnd_35 rfl (lv_at hl 0 rfl) ?_
            refine va_iald hx hb hK hP 1 0 rfl rfl (vp_in_nI (by omega) (by decide)) d_Mod_typeEnd_36 ?_
            refine tw_ri (e2 := bs k) (by rw [nI_clamp (by omega)]) ?_
            refine lv_istore hx hb d_Mod_typeEnd_37 hl (by decide) rfl (fun ls hl => ?_)
            have hl : lv_has ls 6 [(4, .int (bs k)), (3, .int (nI k)), (0, .ref h0), (1, .int (nI x)), (2, .int (nI y))] := hl
            refine lv_iload hx hb d_Mod_typeEnd_39 (lv_at hl 0 rfl) ?_
            refine lv_bipush (v := 76) hx hb d_Mod_typeEnd_41 (by decide) ?_
            refine lv_icmp_ne (tgt := 102) hx hb d_Mod_typeEnd_43 (by decide) (fun h43 => ?_) (fun h43 => ?_)
            · refine lv_iload hx hb d_Mod_typeEnd_102 (lv_at hl 0 rfl) ?_
              refine lv_bipush (v := 66) hx hb d_Mod_typeEnd_104 (by decide) ?_
              refine lv_icmp_eq (tgt := 158) hx hb d_Mod_typeEnd_106 (by decide) (fun h106 => ?_) (fun h106 => ?_)
              · refine lv_iload_n hx hb d_Mod_typeEnd_158 rfl (lv_at hl 1 rfl) ?_
                refine lv_iconst (v := 1) hx hb d_Mod_typeEnd_159 (by decide) ?_
                refine lv_iadd hx hb d_Mod_typeEnd_160 ?_
                refine tw_ri (e2 := nI (k + 1)) (nI_add k 1) ?_
                refine lv_goto (tgt := 165) hx hb d_Mod_typeEnd_161 (by decide) ?_
                exact tw_isret E (by unfold tef; rw [hKk]; unfold teK; rw [if_neg h26, if_neg h43]; unfold tel; rw [if_pos h106]) d_Mod_typeEnd_165
              · refine lv_iload hx hb d_Mod_typeEnd_109 (lv_at hl 0 rfl) ?_
                refine lv_bipush (v := 67) hx hb d_Mod_typeEnd_111 (by decide) ?_
                refine lv_icmp_eq (tgt := 158) hx hb d_Mod_typeEnd_113 (by decide) (fun h113 => ?_) (fun h113 => ?_)
                · refine lv_iload_n hx hb d_Mod_typeEnd_158 rfl (lv_at hl 1 rfl) ?_
                  refine lv_iconst (v := 1) hx hb d_Mod_typeEnd_159 (by decide) ?_
                  refine lv_iadd hx hb d_Mod_typeEnd_160 ?_
                  refine tw_ri (e2 := nI (k + 1)) (nI_add k 1) ?_
                  refine lv_goto (tgt := 165) hx hb d_Mod_typeEnd_161 (by decide) ?_
                  exact tw_isret E (by unfold tef; rw [hKk]; unfold teK; rw [if_neg h26, if_neg h43]; unfold tel; rw [if_neg h106, if_pos h113]) d_Mod_typeEnd_165
                · refine lv_iload hx hb d_Mod_typeEnd_116 (lv_at hl 0 rfl) ?_
                  refine lv_bipush (v := 68) hx hb d_Mod_typeEnd_118 (by decide) ?_
                  refine lv_icmp_eq (tgt := 158) hx hb d_Mod_typeEnd_120 (by decide) (fun h120 => ?_) (fun h120 => ?_)
                  · refine lv_iload_n hx hb d_Mod_typeEnd_158 rfl (lv_at hl 1 rfl) ?_
                    refine lv_iconst (v := 1) hx hb d_Mod_typeEnd_159 (by decide) ?_
                    refine lv_iadd hx hb d_Mod_typeEnd_160 ?_
                    refine tw_ri (e2 := nI (k + 1)) (nI_add k 1) ?_
                    refine lv_goto (tgt := 165) hx hb d_Mod_typeEnd_161 (by decide) ?_
                    exact tw_isret E (by unfold tef; rw [hKk]; unfold teK; rw [if_neg h26, if_neg h43]; unfold tel; rw [if_neg h106, if_neg h113, if_pos h120]) d_Mod_typeEnd_165
                  · refine lv_iload hx hb d_Mod_typeEnd_123 (lv_at hl 0 rfl) ?_
                    refine lv_bipush (v := 70) hx hb d_Mod_typeEnd_125 (by decide) ?_
                    refine lv_icmp_eq (tgt := 158) hx hb d_Mod_typeEnd_127 (by decide) (fun h127 => ?_) (fun h127 => ?_)
                    · refine lv_iload_n hx hb d_Mod_typeEnd_158 rfl (lv_at hl 1 rfl) ?_
                      refine lv_iconst (v := 1) hx hb d_Mod_typeEnd_159 (by decide) ?_
                      refine lv_iadd hx hb d_Mod_typeEnd_160 ?_
                      refine tw_ri (e2 := nI (k + 1)) (nI_add k 1) ?_
                      refine lv_goto (tgt := 165) hx hb d_Mod_typeEnd_161 (by decide) ?_
                      exact tw_isret E (by unfold tef; rw [hKk]; unfold teK; rw [if_neg h26, if_neg h43]; unfold tel; rw [if_neg h106, if_neg h113, if_neg h120, if_pos h127]) d_Mod_typeEnd_165
                    · refine lv_iload hx hb d_Mod_typeEnd_130 (lv_at hl 0 rfl) ?_
                      refine lv_bipush (v := 73) hx hb d_Mod_typeEnd_132 (by decide) ?_
                      refine lv_icmp_eq (tgt := 158) hx hb d_Mod_typeEnd_134 (by decide) (fun h134 => ?_) (fun h134 => ?_)
                      · refine lv_iload_n hx hb d_Mod_typeEnd_158 rfl (lv_at hl 1 rfl) ?_
                        refine lv_iconst (v := 1) hx hb d_Mod_typeEnd_159 (by decide) ?_
                        refine lv_iadd hx hb d_Mod_typeEnd_160 ?_
                        refine tw_ri (e2 := nI (k + 1)) (nI_add k 1) ?_
                        refine lv_goto (tgt := 165) hx hb d_Mod_typeEnd_161 (by decide) ?_
                        exact tw_isret E (by unfold tef; rw [hKk]; unfold teK; rw [if_neg h26, if_neg h43]; unfold tel; rw [if_neg h106, if_neg h113, if_neg h120, if_neg h127, if_pos h134]) d_Mod_typeEnd_165
                      · refine lv_iload hx hb d_Mod_typeEnd_137 (lv_at hl 0 rfl) ?_
                        refine lv_bipush (v := 74) hx hb d_Mod_typeEnd_139 (by decide) ?_
                        refine lv_icmp_eq (tgt := 158) hx hb d_Mod_typeEnd_141 (by decide) (fun h141 => ?_) (fun h141 => ?_)
                        · refine lv_iload_n hx hb d_Mod_typeEnd_158 rfl (lv_at hl 1 rfl) ?_
                          refine lv_iconst (v := 1) hx hb d_Mod_typeEnd_159 (by decide) ?_
                          refine lv_iadd hx hb d_Mod_typeEnd_160 ?_
                          refine tw_ri (e2 := nI (k + 1)) (nI_add k 1) ?_
                          refine lv_goto (tgt := 165) hx hb d_Mod_typeEnd_161 (by decide) ?_
                          exact tw_isret E (by unfold tef; rw [hKk]; unfold teK; rw [if_neg h26, if_neg h43]; unfold tel; rw [if_neg h106, if_neg h113, if_neg h120, if_neg h127, if_neg h134, if_pos h141]) d_Mod_typeEnd_165
                        · refine lv_iload hx hb d_Mod_typeEnd_144 (lv_at hl 0 rfl) ?_
                          refine lv_bipush (v := 83) hx hb d_Mod_typeEnd_146 (by decide) ?_
                          refine lv_icmp_eq (tgt := 158) hx hb d_Mod_typeEnd_148 (by decide) (fun h148 => ?_) (fun h148 => ?_)
                          · refine lv_iload_n hx hb d_Mod_typeEnd_158 rfl (lv_at hl 1 rfl) ?_
                            refine lv_iconst (v := 1) hx hb d_Mod_typeEnd_159 (by decide) ?_
                            refine lv_iadd hx hb d_Mod_typeEnd_160 ?_
                            refine tw_ri (e2 := nI (k + 1)) (nI_add k 1) ?_
                            refine lv_goto (tgt := 165) hx hb d_Mod_typeEnd_161 (by decide) ?_
                            exact tw_isret E (by unfold tef; rw [hKk]; unfold teK; rw [if_neg h26, if_neg h43]; unfold tel; rw [if_neg h106, if_neg h113, if_neg h120, if_neg h127, if_neg h134, if_neg h141, if_pos h148]) d_Mod_typeEnd_165
                          · refine lv_iload hx hb d_Mod_typeEnd_151 (lv_at hl 0 rfl) ?_
                            refine lv_bipush (v := 90) hx hb d_Mod_typeEnd_153 (by decide) ?_
                            refine lv_icmp_ne (tgt := 164) hx hb d_Mod_typeEnd_155 (by decide) (fun h155 => ?_) (fun h155 => ?_)
                            · refine lv_iconst (v := (-1)) hx hb d_Mod_typeEnd_164 (by decide) ?_
                              exact tw_isret E (by unfold tef; rw [hKk]; unfold teK; rw [if_neg h26, if_neg h43]; unfold tel; rw [if_neg h106, if_neg h113, if_neg h120, if_neg h127, if_neg h134, if_neg h141, if_neg h148, if_neg h155]) d_Mod_typeEnd_165
                            · refine lv_iload_n hx hb d_Mod_typeEnd_158 rfl (lv_at hl 1 rfl) ?_
                              refine lv_iconst (v := 1) hx hb d_Mod_typeEnd_159 (by decide) ?_
                              refine lv_iadd hx hb d_Mod_typeEnd_160 ?_
                              refine tw_ri (e2 := nI (k + 1)) (nI_add k 1) ?_
                              refine lv_goto (tgt := 165) hx hb d_Mod_typeEnd_161 (by decide) ?_
                              exact tw_isret E (by unfold tef; rw [hKk]; unfold teK; rw [if_neg h26, if_neg h43]; unfold tel; rw [if_neg h106, if_neg h113, if_neg h120, if_neg h127, if_neg h134, if_neg h141, if_neg h148, if_pos h155]) d_Mod_typeEnd_165
            · refine lv_iload_n hx hb d_Mod_typeEnd_46 rfl (lv_at hl 1 rfl) ?_
              refine lv_iconst (v := 1) hx hb d_Mod_typeEnd_47 (by decide) ?_
              refine lv_iadd hx hb d_Mod_typeEnd_48 ?_
              refine tw_ri (e2 := nI (k + 1)) (nI_add k 1) ?_
              refine lv_istore hx hb d_Mod_typeEnd_49 hl (by decide) rfl (fun ls hl => ?_)
              have hl : lv_has ls 6 [(5, .int (nI (k + 1))), (4, .int (bs k)), (3, .int (nI k)), (0, .ref h0), (1, .int (nI x)), (2, .int (nI y))] := hl
              have loop51 : ∀ (kq : Nat) (j : Nat) (ls : Array Slot) , y - j = kq → (hj1 : k + 1 ≤ j) → (hj2 : j ≤ y) → (hj0 : ske bs y (y - j) j = ske bs y (y - (k + 1)) (k + 1)) → lv_has ls 6 [(5, .int (nI j)), (4, .int (bs k)), (3, .int (nI k)), (0, .ref h0), (1, .int (nI x)), (2, .int (nI y))] → W p l e ({ frames := 3, cells := 0, slots := 0, locals := 69 }) s m [.ref h0, .int (nI x), .int (nI y)].toArray below meth c s.heap [] 0 0 (MQ below (vp_Si (fun (r : Int32) => r = tef bs x y)) [.ref h0, .int (nI x), .int (nI y)].toArray s 0 0 (fun _ => False)) (F0 m 51 ls []) := by
                intro kq
                induction kq using Nat.strongRecOn with
                | _ kq ih51 =>
                  intro j ls hk51 hj1 hj2 hj0 hl 
                  refine lv_iload hx hb d_Mod_typeEnd_51 (lv_at hl 0 rfl) ?_
                  refine lv_iload_n hx hb d_Mod_typeEnd_53 rfl (lv_at hl 5 rfl) ?_
                  refine lv_icmp_ge (tgt := 75) hx hb d_Mod_typeEnd_54 (by decide) (fun h54 => ?_) (fun h54 => ?_)
                  · have h54 := tn_le h54 (by omega) (by omega)
                    have hJ : ske bs y (y - (k + 1)) (k + 1) = j := by rw [← hj0]; exact ske_0 h54
                    refine lv_iload hx hb d_Mod_typeEnd_75 (lv_at hl 0 rfl) ?_
                    refine lv_iload_n hx hb d_Mod_typeEnd_77 rfl (lv_at hl 5 rfl) ?_
                    refine lv_icmp_ge (tgt := 100) hx hb d_Mod_typeEnd_78 (by decide) (fun h78 => ?_) (fun h78 => ?_)
                    · have h78 := tn_le h78 (by omega) (by omega)
                      refine lv_iconst (v := (-1)) hx hb d_Mod_typeEnd_100 (by decide) ?_
                      exact tw_isret E (by unfold tef; rw [hKk]; unfold teK; rw [if_neg h26, if_pos h43, hJ]; unfold teE; rw [if_neg (by omega)]) d_Mod_typeEnd_101
                    · have h78 := tn_nle h78 (by omega) (by omega)
                      refine lv_aload_n hx hb d_Mod_typeEnd_81 rfl (lv_at hl 3 rfl) ?_
                      refine lv_iload_n hx hb d_Mod_typeEnd_82 rfl (lv_at hl 2 rfl) ?_
                      refine lv_iconst (v := 1) hx hb d_Mod_typeEnd_83 (by decide) ?_
                      refine lv_iadd hx hb d_Mod_typeEnd_84 ?_
                      refine tw_ri (e2 := nI (k + 1)) (nI_add k 1) ?_
                      refine lv_iload hx hb d_Mod_typeEnd_85 (lv_at hl 0 rfl) ?_
                      refine tw_si (tw_runV (ws := [(h0, .inr (10, mob q rf n mm mb fa fp av ev wi mn tp tc sc nf fd me mp xn mt wh tq ag an ig)), ((q 2), aI g 600 bs)]) (wc := [(h0, .inr (10, mob q rf n mm mb fa fp av ev wi mn tp tc sc nf fd me mp xn mt wh tq ag an ig)), ((q 2), aI g 600 bs)]) (As := [.int (nI (k + 1)), .int (nI j)]) (rest := []) E hB hK hZ (g_Mod_isClassName l g s.heap.size h0 q rf n mm mb fa fp av ev wi mn tp tc sc nf fd me mp xn mt wh tq ag an ig bs (k + 1) j (by omega) (by omega)) mc_Mod_isClassName mi_Mod_isClassName me_Mod_isClassName wd_1540 hP hD hS hA [0, 1] rfl (by decide) 0 rfl rfl rfl rfl rfl (by decide) rfl hl.1 rfl (Nat.le_of_ble_eq_true rfl) (by decide) d_Mod_typeEnd_87) (fun r3 hr3 => ?_)
                      have hB3 := hr3
                      refine lv_if_eq (tgt := 100) hx hb d_Mod_typeEnd_90 (by decide) (fun h90 => ?_) (fun h90 => ?_)
                      · refine lv_iconst (v := (-1)) hx hb d_Mod_typeEnd_100 (by decide) ?_
                        exact tw_isret E (by unfold tef; rw [hKk]; unfold teK; rw [if_neg h26, if_pos h43, hJ]; unfold teE; rw [if_pos h78, ← hB3.2, if_pos h90]) d_Mod_typeEnd_101
                      · refine lv_iload hx hb d_Mod_typeEnd_93 (lv_at hl 0 rfl) ?_
                        refine lv_iconst (v := 1) hx hb d_Mod_typeEnd_95 (by decide) ?_
                        refine lv_iadd hx hb d_Mod_typeEnd_96 ?_
                        refine tw_ri (e2 := nI (j + 1)) (nI_add j 1) ?_
                        refine lv_goto (tgt := 101) hx hb d_Mod_typeEnd_97 (by decide) ?_
                        exact tw_isret E (by unfold tef; rw [hKk]; unfold teK; rw [if_neg h26, if_pos h43, hJ]; unfold teE; rw [if_pos h78, ← hB3.2, if_neg h90]) d_Mod_typeEnd_101
                  · have h54 := tn_nle h54 (by omega) (by omega)
                    refine lv_aload_n hx hb d_Mod_typeEnd_57 rfl (lv_at hl 3 rfl) ?_
                    refine va_get (D := g.1) (ci := 10) (v := .ref (q 2)) (C := R_Mod) (T := F_Mod) (N := 61) hx hb hts in_Mod hown hK hP 0 rfl rfl 2 (by decide) (hts _ wd_1252) (fun _ h9 => h9) rfl d_Mod_typeEnd_58 ?_
                    refine lv_iload hx hb d_Mod_typeEnd_61 (lv_at hl 0 rfl) ?_
                    refine va_iald hx hb hK hP 1 0 rfl rfl (vp_in_nI (by omega) (by decide)) d_Mod_typeEnd_63 ?_
                    refine tw_ri (e2 := bs j) (by rw [nI_clamp (by omega)]) ?_
                    refine lv_bipush (v := 59) hx hb d_Mod_typeEnd_64 (by decide) ?_
                    refine lv_icmp_eq (tgt := 75) hx hb d_Mod_typeEnd_66 (by decide) (fun h66 => ?_) (fun h66 => ?_)
                    · have hJ : ske bs y (y - (k + 1)) (k + 1) = j := by rw [← hj0]; exact ske_1 h66
                      refine lv_iload hx hb d_Mod_typeEnd_75 (lv_at hl 0 rfl) ?_
                      refine lv_iload_n hx hb d_Mod_typeEnd_77 rfl (lv_at hl 5 rfl) ?_
                      refine lv_icmp_ge (tgt := 100) hx hb d_Mod_typeEnd_78 (by decide) (fun h78 => ?_) (fun h78 => ?_)
                      · have h78 := tn_le h78 (by omega) (by omega)
                        refine lv_iconst (v := (-1)) hx hb d_Mod_typeEnd_100 (by decide) ?_
                        exact tw_isret E (by unfold tef; rw [hKk]; unfold teK; rw [if_neg h26, if_pos h43, hJ]; unfold teE; rw [if_neg (by omega)]) d_Mod_typeEnd_101
                      · have h78 := tn_nle h78 (by omega) (by omega)
                        refine lv_aload_n hx hb d_Mod_typeEnd_81 rfl (lv_at hl 3 rfl) ?_
                        refine lv_iload_n hx hb d_Mod_typeEnd_82 rfl (lv_at hl 2 rfl) ?_
                        refine lv_iconst (v := 1) hx hb d_Mod_typeEnd_83 (by decide) ?_
                        refine lv_iadd hx hb d_Mod_typeEnd_84 ?_
                        refine tw_ri (e2 := nI (k + 1)) (nI_add k 1) ?_
                        refine lv_iload hx hb d_Mod_typeEnd_85 (lv_at hl 0 rfl) ?_
                        refine tw_si (tw_runV (ws := [(h0, .inr (10, mob q rf n mm mb fa fp av ev wi mn tp tc sc nf fd me mp xn mt wh tq ag an ig)), ((q 2), aI g 600 bs)]) (wc := [(h0, .inr (10, mob q rf n mm mb fa fp av ev wi mn tp tc sc nf fd me mp xn mt wh tq ag an ig)), ((q 2), aI g 600 bs)]) (As := [.int (nI (k + 1)), .int (nI j)]) (rest := []) E hB hK hZ (g_Mod_isClassName l g s.heap.size h0 q rf n mm mb fa fp av ev wi mn tp tc sc nf fd me mp xn mt wh tq ag an ig bs (k + 1) j (by omega) (by omega)) mc_Mod_isClassName mi_Mod_isClassName me_Mod_isClassName wd_1540 hP hD hS hA [0, 1] rfl (by decide) 0 rfl rfl rfl rfl rfl (by decide) rfl hl.1 rfl (Nat.le_of_ble_eq_true rfl) (by decide) d_Mod_typeEnd_87) (fun r4 hr4 => ?_)
                        have hB4 := hr4
                        refine lv_if_eq (tgt := 100) hx hb d_Mod_typeEnd_90 (by decide) (fun h90 => ?_) (fun h90 => ?_)
                        · refine lv_iconst (v := (-1)) hx hb d_Mod_typeEnd_100 (by decide) ?_
                          exact tw_isret E (by unfold tef; rw [hKk]; unfold teK; rw [if_neg h26, if_pos h43, hJ]; unfold teE; rw [if_pos h78, ← hB4.2, if_pos h90]) d_Mod_typeEnd_101
                        · refine lv_iload hx hb d_Mod_typeEnd_93 (lv_at hl 0 rfl) ?_
                          refine lv_iconst (v := 1) hx hb d_Mod_typeEnd_95 (by decide) ?_
                          refine lv_iadd hx hb d_Mod_typeEnd_96 ?_
                          refine tw_ri (e2 := nI (j + 1)) (nI_add j 1) ?_
                          refine lv_goto (tgt := 101) hx hb d_Mod_typeEnd_97 (by decide) ?_
                          exact tw_isret E (by unfold tef; rw [hKk]; unfold teK; rw [if_neg h26, if_pos h43, hJ]; unfold teE; rw [if_pos h78, ← hB4.2, if_neg h90]) d_Mod_typeEnd_101
                    · refine lv_iinc (k := 0) (v := nI (j + 1)) hx hb d_Mod_typeEnd_69 hl rfl ((nI_succ j).symm) (by decide) rfl (fun ls hl => ?_)
                      have hl : lv_has ls 6 [(5, .int (nI (j + 1))), (4, .int (bs k)), (3, .int (nI k)), (0, .ref h0), (1, .int (nI x)), (2, .int (nI y))] := hl
                      refine lv_goto (tgt := 51) hx hb d_Mod_typeEnd_72 (by decide) ?_
                      exact ih51 _ (by omega) (j + 1) ls rfl (by omega) (by omega) (by rw [← hj0, ske_s h54 h66]) (lv_sub hl [0, 1, 2, 3, 4, 5] rfl)
              exact loop51 _ (k + 1) ls rfl (Nat.le_refl _) (by omega) rfl (hl)
          · have h26 := tn_eq h26 (by omega) (by omega)
            refine lv_iconst (v := (-1)) hx hb d_Mod_typeEnd_29 (by decide) ?_
            exact tw_isret E (by unfold tef; rw [hKk]; unfold teK; rw [if_pos h26]) d_Mod_typeEnd_30
        · refine lv_iinc (k := 0) (v := nI (k + 1)) hx hb d_Mod_typeEnd_18 hl rfl ((nI_succ k).symm) (by decide) rfl (fun ls hl => ?_)
          have hl : lv_has ls 6 [(3, .int (nI (k + 1))), (0, .ref h0), (1, .int (nI x)), (2, .int (nI y))] := hl
          refine lv_goto (tgt := 2) hx hb d_Mod_typeEnd_21 (by decide) ?_
          exact ih _ (by omega) (k + 1) ls rfl (by omega) (by omega) (by rw [← hk0, skb_s h4 h15]) (lv_sub hl [0, 1, 2, 3] rfl)
  exact loop2 _ x ls rfl (Nat.le_refl _) hxy rfl (hl)
set_option maxHeartbeats 4000000 in
set_option maxRecDepth 100000 in
theorem g_Mod_isType (l : Launch) (g : tw_G) (sz : Nat) (h0 : Nat) (q : Nat → Nat) (rf : Int32) (n : Nat) (mm : Int32) (mb : Int32) (fa : Int32) (fp : Int32) (av : Nat) (ev : Nat) (wi : Int32) (mn : Nat) (tp : Int32) (tc : Int32) (sc : Int32) (nf : Nat) (fd : Nat) (me : Nat) (mp : Int32) (xn : Nat) (mt : Nat) (wh : Nat) (tq : Nat) (ag : Nat) (an : Int32) (ig : Int32) (bs : Nat → Int32) (x : Nat) (y : Nat) (hxy : x ≤ y) (hy6 : y ≤ 600) : Met l y_Mod_isType [.code y_Mod_isType b_Mod_isType 3 (some .boolean)] ({ frames := 4, cells := 0, slots := 0, locals := 94 }) (tw_P g [.ref h0, .int (nI x), .int (nI y)] [(h0, .inr (10, mob q rf n mm mb fa fp av ev wi mn tp tc sc nf fd me mp xn mt wh tq ag an ig)), ((q 2), aI g 600 bs)] sz) (vp_Si (fun (r : Int32) => (r = 0 ∨ r = 1) ∧ (r = 1 → tef bs x y = nI y))) 0 0 (fun _ => False) := by
  refine tw_met (l := l) (g := g) (y := y_Mod_isType) (cc := b_Mod_isType) (maxL := 3) (ret := (some .boolean)) (rm := { frames := 4, cells := 0, slots := 0, locals := 94 }) (mc := 0) (ms := 0) (av := [.ref h0, .int (nI x), .int (nI y)]) (ws := [(h0, .inr (10, mob q rf n mm mb fa fp av ev wi mn tp tc sc nf fd me mp xn mt wh tq ag an ig)), ((q 2), aI g 600 bs)]) (sz := sz) (Qc := fun _ => (vp_Si (fun (r : Int32) => (r = 0 ∨ r = 1) ∧ (r = 1 → tef bs x y = nI y)))) (free := fun _ _ => False) (by decide) (Nat.le_of_ble_eq_true rfl) ?_
  intro p e s m below meth c ls A E hB hK hZ hP hD hS hA hl
  obtain ⟨hx, hb, hml, hr, hown, hts, hlocks, hin⟩ := id E
  have hl : lv_has ls 3 [(0, .ref h0), (1, .int (nI x)), (2, .int (nI y))] := hl
  refine lv_aload_n hx hb d_Mod_isType_0 rfl (lv_at hl 0 rfl) ?_
  refine lv_iload_n hx hb d_Mod_isType_1 rfl (lv_at hl 1 rfl) ?_
  refine lv_iload_n hx hb d_Mod_isType_2 rfl (lv_at hl 2 rfl) ?_
  refine tw_si (tw_runV (ws := [(h0, .inr (10, mob q rf n mm mb fa fp av ev wi mn tp tc sc nf fd me mp xn mt wh tq ag an ig)), ((q 2), aI g 600 bs)]) (wc := [(h0, .inr (10, mob q rf n mm mb fa fp av ev wi mn tp tc sc nf fd me mp xn mt wh tq ag an ig)), ((q 2), aI g 600 bs)]) (As := [.int (nI x), .int (nI y)]) (rest := []) E hB hK hZ (g_Mod_typeEnd l g s.heap.size h0 q rf n mm mb fa fp av ev wi mn tp tc sc nf fd me mp xn mt wh tq ag an ig bs x y (by omega) (by omega)) mc_Mod_typeEnd mi_Mod_typeEnd me_Mod_typeEnd wd_1559 hP hD hS hA [0, 1] rfl (by decide) 0 rfl rfl rfl rfl rfl (by decide) rfl hl.1 rfl (Nat.le_of_ble_eq_true rfl) (by decide) d_Mod_isType_3) (fun r1 hr1 => ?_)
  have hB1 := hr1
  refine lv_iload_n hx hb d_Mod_isType_6 rfl (lv_at hl 2 rfl) ?_
  refine lv_icmp_ne (tgt := 14) hx hb d_Mod_isType_7 (by decide) (fun h7 => ?_) (fun h7 => ?_)
  · refine lv_iconst (v := 0) hx hb d_Mod_isType_14 (by decide) ?_
    exact tw_zsret E (by decide) (⟨Or.inl rfl, fun h => absurd h (by decide)⟩) d_Mod_isType_15
  · refine lv_iconst (v := 1) hx hb d_Mod_isType_10 (by decide) ?_
    refine lv_goto (tgt := 15) hx hb d_Mod_isType_11 (by decide) ?_
    exact tw_zsret E (by decide) (⟨Or.inr rfl, fun _ => hB1.symm.trans h7⟩) d_Mod_isType_15
set_option maxHeartbeats 4000000 in
set_option maxRecDepth 100000 in
theorem g_Mod_isMethodType (l : Launch) (g : tw_G) (sz : Nat) (h0 : Nat) (q : Nat → Nat) (rf : Int32) (n : Nat) (mm : Int32) (mb : Int32) (fa : Int32) (fp : Int32) (av : Nat) (ev : Nat) (wi : Int32) (mn : Nat) (tp : Int32) (tc : Int32) (sc : Int32) (nf : Nat) (fd : Nat) (me : Nat) (mp : Int32) (xn : Nat) (mt : Nat) (wh : Nat) (tq : Nat) (ag : Nat) (an : Int32) (ig : Int32) (bs : Nat → Int32) (x : Nat) (y : Nat) (hxy : x ≤ y) (hy6 : y ≤ 600) : Met l y_Mod_isMethodType [.code y_Mod_isMethodType b_Mod_isMethodType 4 (some .boolean)] ({ frames := 5, cells := 0, slots := 0, locals := 116 }) (tw_P g [.ref h0, .int (nI x), .int (nI y)] [(h0, .inr (10, mob q rf n mm mb fa fp av ev wi mn tp tc sc nf fd me mp xn mt wh tq ag an ig)), ((q 2), aI g 600 bs)] sz) (vp_Si (fun (r : Int32) => (r = 0 ∨ r = 1) ∧ (r = 1 → MTY bs x y))) 0 0 (fun _ => False) := by
  refine tw_met (l := l) (g := g) (y := y_Mod_isMethodType) (cc := b_Mod_isMethodType) (maxL := 4) (ret := (some .boolean)) (rm := { frames := 5, cells := 0, slots := 0, locals := 116 }) (mc := 0) (ms := 0) (av := [.ref h0, .int (nI x), .int (nI y)]) (ws := [(h0, .inr (10, mob q rf n mm mb fa fp av ev wi mn tp tc sc nf fd me mp xn mt wh tq ag an ig)), ((q 2), aI g 600 bs)]) (sz := sz) (Qc := fun _ => (vp_Si (fun (r : Int32) => (r = 0 ∨ r = 1) ∧ (r = 1 → MTY bs x y)))) (free := fun _ _ => False) (by decide) (Nat.le_of_ble_eq_true rfl) ?_
  intro p e s m below meth c ls A E hB hK hZ hP hD hS hA hl
  obtain ⟨hx, hb, hml, hr, hown, hts, hlocks, hin⟩ := id E
  have hl : lv_has ls 4 [(0, .ref h0), (1, .int (nI x)), (2, .int (nI y))] := hl
  refine lv_iload_n hx hb d_Mod_isMethodType_0 rfl (lv_at hl 1 rfl) ?_
  refine lv_iload_n hx hb d_Mod_isMethodType_1 rfl (lv_at hl 2 rfl) ?_
  refine lv_icmp_eq (tgt := 16) hx hb d_Mod_isMethodType_2 (by decide) (fun h2 => ?_) (fun h2 => ?_)
  · refine lv_iconst (v := 0) hx hb d_Mod_isMethodType_16 (by decide) ?_
    exact tw_zsret E (by decide) (⟨Or.inl rfl, fun h => absurd h (by decide)⟩) d_Mod_isMethodType_17
  · have h2 := tn_neq h2
    refine lv_aload_n hx hb d_Mod_isMethodType_5 rfl (lv_at hl 0 rfl) ?_
    refine va_get (D := g.1) (ci := 10) (v := .ref (q 2)) (C := R_Mod) (T := F_Mod) (N := 61) hx hb hts in_Mod hown hK hP 0 rfl rfl 2 (by decide) (hts _ wd_1252) (fun _ h9 => h9) rfl d_Mod_isMethodType_6 ?_
    refine lv_iload_n hx hb d_Mod_isMethodType_9 rfl (lv_at hl 1 rfl) ?_
    refine va_iald hx hb hK hP 1 0 rfl rfl (vp_in_nI (by omega) (by decide)) d_Mod_isMethodType_10 ?_
    refine tw_ri (e2 := bs x) (by rw [nI_clamp (by omega)]) ?_
    refine lv_bipush (v := 40) hx hb d_Mod_isMethodType_11 (by decide) ?_
    refine lv_icmp_eq (tgt := 18) hx hb d_Mod_isMethodType_13 (by decide) (fun h13 => ?_) (fun h13 => ?_)
    · refine lv_iload_n hx hb d_Mod_isMethodType_18 rfl (lv_at hl 1 rfl) ?_
      refine lv_iconst (v := 1) hx hb d_Mod_isMethodType_19 (by decide) ?_
      refine lv_iadd hx hb d_Mod_isMethodType_20 ?_
      refine tw_ri (e2 := nI (x + 1)) (nI_add x 1) ?_
      refine lv_istore_n hx hb d_Mod_isMethodType_21 rfl hl (by decide) rfl (fun ls hl => ?_)
      have hl : lv_has ls 4 [(3, .int (nI (x + 1))), (0, .ref h0), (1, .int (nI x)), (2, .int (nI y))] := hl
      have loop22 : ∀ (kq : Nat) (vI : Int32) (ls : Array Slot) , msr vI y = kq → (hv : vI = -1 ∨ ∃ k, vI = nI k ∧ x + 1 ≤ k ∧ k ≤ y ∧ (MTX bs y k → MTX bs y (x + 1))) → lv_has ls 4 [(3, .int vI), (0, .ref h0), (1, .int (nI x)), (2, .int (nI y))] → W p l e ({ frames := 5, cells := 0, slots := 0, locals := 116 }) s m [.ref h0, .int (nI x), .int (nI y)].toArray below meth c s.heap [] 0 0 (MQ below (vp_Si (fun (r : Int32) => (r = 0 ∨ r = 1) ∧ (r = 1 → MTY bs x y))) [.ref h0, .int (nI x), .int (nI y)].toArray s 0 0 (fun _ => False)) (F0 m 22 ls []) := by
        intro kq
        induction kq using Nat.strongRecOn with
        | _ kq ih =>
          intro vI ls hk hv hl 
          refine lv_iload_n hx hb d_Mod_isMethodType_22 rfl (lv_at hl 0 rfl) ?_
          refine lv_if_lt (tgt := 52) hx hb d_Mod_isMethodType_23 (by decide) (fun h23 => ?_) (fun h23 => ?_)
          · refine lv_iload_n hx hb d_Mod_isMethodType_52 rfl (lv_at hl 0 rfl) ?_
            refine lv_if_lt (tgt := 61) hx hb d_Mod_isMethodType_53 (by decide) (fun h53 => ?_) (fun h53 => ?_)
            · refine lv_iconst (v := 0) hx hb d_Mod_isMethodType_61 (by decide) ?_
              exact tw_zsret E (by decide) (⟨Or.inl rfl, fun h => absurd h (by decide)⟩) d_Mod_isMethodType_62
            · exact absurd h23 h53
          · obtain ⟨k, rfl, hk1, hk2, hk3⟩ := hv.resolve_left (fun e9 => h23 (by rw [e9]; decide))
            refine lv_iload_n hx hb d_Mod_isMethodType_26 rfl (lv_at hl 0 rfl) ?_
            refine lv_iload_n hx hb d_Mod_isMethodType_27 rfl (lv_at hl 3 rfl) ?_
            refine lv_icmp_ge (tgt := 52) hx hb d_Mod_isMethodType_28 (by decide) (fun h28 => ?_) (fun h28 => ?_)
            · have h28 := tn_le h28 (by omega) (by omega)
              refine lv_iload_n hx hb d_Mod_isMethodType_52 rfl (lv_at hl 0 rfl) ?_
              refine lv_if_lt (tgt := 61) hx hb d_Mod_isMethodType_53 (by decide) (fun h53 => ?_) (fun h53 => ?_)
              · exact absurd h53 h23
              · refine lv_iload_n hx hb d_Mod_isMethodType_56 rfl (lv_at hl 0 rfl) ?_
                refine lv_iload_n hx hb d_Mod_isMethodType_57 rfl (lv_at hl 3 rfl) ?_
                refine lv_icmp_lt (tgt := 63) hx hb d_Mod_isMethodType_58 (by decide) (fun h58 => ?_) (fun h58 => ?_)
                · exact absurd (tn_lt h58 (by omega) (by omega)) (by omega)
                · refine lv_iconst (v := 0) hx hb d_Mod_isMethodType_61 (by decide) ?_
                  exact tw_zsret E (by decide) (⟨Or.inl rfl, fun h => absurd h (by decide)⟩) d_Mod_isMethodType_62
            · have h28 := tn_nle h28 (by omega) (by omega)
              refine lv_aload_n hx hb d_Mod_isMethodType_31 rfl (lv_at hl 1 rfl) ?_
              refine va_get (D := g.1) (ci := 10) (v := .ref (q 2)) (C := R_Mod) (T := F_Mod) (N := 61) hx hb hts in_Mod hown hK hP 0 rfl rfl 2 (by decide) (hts _ wd_1252) (fun _ h9 => h9) rfl d_Mod_isMethodType_32 ?_
              refine lv_iload_n hx hb d_Mod_isMethodType_35 rfl (lv_at hl 0 rfl) ?_
              refine va_iald hx hb hK hP 1 0 rfl rfl (vp_in_nI (by omega) (by decide)) d_Mod_isMethodType_36 ?_
              refine tw_ri (e2 := bs k) (by rw [nI_clamp (by omega)]) ?_
              refine lv_bipush (v := 41) hx hb d_Mod_isMethodType_37 (by decide) ?_
              refine lv_icmp_eq (tgt := 52) hx hb d_Mod_isMethodType_39 (by decide) (fun h39 => ?_) (fun h39 => ?_)
              · refine lv_iload_n hx hb d_Mod_isMethodType_52 rfl (lv_at hl 0 rfl) ?_
                refine lv_if_lt (tgt := 61) hx hb d_Mod_isMethodType_53 (by decide) (fun h53 => ?_) (fun h53 => ?_)
                · exact absurd h53 h23
                · refine lv_iload_n hx hb d_Mod_isMethodType_56 rfl (lv_at hl 0 rfl) ?_
                  refine lv_iload_n hx hb d_Mod_isMethodType_57 rfl (lv_at hl 3 rfl) ?_
                  refine lv_icmp_lt (tgt := 63) hx hb d_Mod_isMethodType_58 (by decide) (fun h58 => ?_) (fun h58 => ?_)
                  · refine lv_aload_n hx hb d_Mod_isMethodType_63 rfl (lv_at hl 1 rfl) ?_
                    refine lv_iload_n hx hb d_Mod_isMethodType_64 rfl (lv_at hl 0 rfl) ?_
                    refine lv_iconst (v := 1) hx hb d_Mod_isMethodType_65 (by decide) ?_
                    refine lv_iadd hx hb d_Mod_isMethodType_66 ?_
                    refine tw_ri (e2 := nI (k + 1)) (nI_add k 1) ?_
                    refine lv_iload_n hx hb d_Mod_isMethodType_67 rfl (lv_at hl 3 rfl) ?_
                    refine tw_si (tw_runV (ws := [(h0, .inr (10, mob q rf n mm mb fa fp av ev wi mn tp tc sc nf fd me mp xn mt wh tq ag an ig)), ((q 2), aI g 600 bs)]) (wc := [(h0, .inr (10, mob q rf n mm mb fa fp av ev wi mn tp tc sc nf fd me mp xn mt wh tq ag an ig)), ((q 2), aI g 600 bs)]) (As := [.int (nI (k + 1)), .int (nI y)]) (rest := []) E hB hK hZ (g_Mod_isType l g s.heap.size h0 q rf n mm mb fa fp av ev wi mn tp tc sc nf fd me mp xn mt wh tq ag an ig bs (k + 1) y (by omega) (by omega)) mc_Mod_isType mi_Mod_isType me_Mod_isType wd_1555 hP hD hS hA [0, 1] rfl (by decide) 0 rfl rfl rfl rfl rfl (by decide) rfl hl.1 rfl (Nat.le_of_ble_eq_true rfl) (by decide) d_Mod_isMethodType_68) (fun r1 hr1 => ?_)
                    have hB1 := hr1
                    refine lv_if_ne (tgt := 94) hx hb d_Mod_isMethodType_71 (by decide) (fun h71 => ?_) (fun h71 => ?_)
                    · have hT71 := hB1.2 (hB1.1.resolve_left h71)
                      refine lv_iconst (v := 1) hx hb d_Mod_isMethodType_94 (by decide) ?_
                      refine lv_goto (tgt := 99) hx hb d_Mod_isMethodType_95 (by decide) ?_
                      exact tw_zsret E (by decide) (⟨Or.inr rfl, fun _ => ⟨by omega, hk3 ⟨0, h28, h39, tef_lt (by omega) hT71⟩⟩⟩) d_Mod_isMethodType_99
                    · refine lv_iload_n hx hb d_Mod_isMethodType_74 rfl (lv_at hl 0 rfl) ?_
                      refine lv_iconst (v := 2) hx hb d_Mod_isMethodType_75 (by decide) ?_
                      refine lv_iadd hx hb d_Mod_isMethodType_76 ?_
                      refine tw_ri (e2 := nI (k + 2)) (nI_add k 2) ?_
                      refine lv_iload_n hx hb d_Mod_isMethodType_77 rfl (lv_at hl 3 rfl) ?_
                      refine lv_icmp_ne (tgt := 98) hx hb d_Mod_isMethodType_78 (by decide) (fun h78 => ?_) (fun h78 => ?_)
                      · refine lv_iconst (v := 0) hx hb d_Mod_isMethodType_98 (by decide) ?_
                        exact tw_zsret E (by decide) (⟨Or.inl rfl, fun h => absurd h (by decide)⟩) d_Mod_isMethodType_99
                      · have h78 := tn_eq h78 (by omega) (by omega)
                        refine lv_aload_n hx hb d_Mod_isMethodType_81 rfl (lv_at hl 1 rfl) ?_
                        refine va_get (D := g.1) (ci := 10) (v := .ref (q 2)) (C := R_Mod) (T := F_Mod) (N := 61) hx hb hts in_Mod hown hK hP 0 rfl rfl 2 (by decide) (hts _ wd_1252) (fun _ h9 => h9) rfl d_Mod_isMethodType_82 ?_
                        refine lv_iload_n hx hb d_Mod_isMethodType_85 rfl (lv_at hl 0 rfl) ?_
                        refine lv_iconst (v := 1) hx hb d_Mod_isMethodType_86 (by decide) ?_
                        refine lv_iadd hx hb d_Mod_isMethodType_87 ?_
                        refine tw_ri (e2 := nI (k + 1)) (nI_add k 1) ?_
                        refine va_iald hx hb hK hP 1 0 rfl rfl (vp_in_nI (by omega) (by decide)) d_Mod_isMethodType_88 ?_
                        obtain ⟨x2, ex2⟩ : ∃ z : Int32, bs ((nI (k + 1)).toNatClampNeg) = z := ⟨_, rfl⟩
                        refine tw_ri (e2 := x2) ex2 ?_
                        refine lv_bipush (v := 86) hx hb d_Mod_isMethodType_89 (by decide) ?_
                        refine lv_icmp_ne (tgt := 98) hx hb d_Mod_isMethodType_91 (by decide) (fun h91 => ?_) (fun h91 => ?_)
                        · refine lv_iconst (v := 0) hx hb d_Mod_isMethodType_98 (by decide) ?_
                          exact tw_zsret E (by decide) (⟨Or.inl rfl, fun h => absurd h (by decide)⟩) d_Mod_isMethodType_99
                        · refine lv_iconst (v := 1) hx hb d_Mod_isMethodType_94 (by decide) ?_
                          refine lv_goto (tgt := 99) hx hb d_Mod_isMethodType_95 (by decide) ?_
                          exact tw_zsret E (by decide) (⟨Or.inr rfl, fun _ => ⟨by omega, hk3 ⟨0, h28, h39, (by omega)⟩⟩⟩) d_Mod_isMethodType_99
                  · exact absurd ((nI_ltI (by omega) (by omega)).mpr h28) h58
              · refine lv_aload_n hx hb d_Mod_isMethodType_42 rfl (lv_at hl 1 rfl) ?_
                refine lv_iload_n hx hb d_Mod_isMethodType_43 rfl (lv_at hl 0 rfl) ?_
                refine lv_iload_n hx hb d_Mod_isMethodType_44 rfl (lv_at hl 3 rfl) ?_
                refine tw_si (tw_runV (ws := [(h0, .inr (10, mob q rf n mm mb fa fp av ev wi mn tp tc sc nf fd me mp xn mt wh tq ag an ig)), ((q 2), aI g 600 bs)]) (wc := [(h0, .inr (10, mob q rf n mm mb fa fp av ev wi mn tp tc sc nf fd me mp xn mt wh tq ag an ig)), ((q 2), aI g 600 bs)]) (As := [.int (nI k), .int (nI y)]) (rest := []) E hB hK hZ (g_Mod_typeEnd l g s.heap.size h0 q rf n mm mb fa fp av ev wi mn tp tc sc nf fd me mp xn mt wh tq ag an ig bs k y (by omega) (by omega)) mc_Mod_typeEnd mi_Mod_typeEnd me_Mod_typeEnd wd_1559 hP hD hS hA [0, 1] rfl (by decide) 0 rfl rfl rfl rfl rfl (by decide) rfl hl.1 rfl (Nat.le_of_ble_eq_true rfl) (by decide) d_Mod_isMethodType_45) (fun r3 hr3 => ?_)
                have hB3 := hr3
                refine lv_istore_n hx hb d_Mod_isMethodType_48 rfl hl (by decide) rfl (fun ls hl => ?_)
                have hl : lv_has ls 4 [(3, .int r3), (0, .ref h0), (1, .int (nI x)), (2, .int (nI y))] := hl
                refine lv_goto (tgt := 22) hx hb d_Mod_isMethodType_49 (by decide) ?_
                exact ih _ (hk ▸ mt_dec hB3 (by omega) hy6 h28) r3 ls rfl (mt_back hB3 hk1 h28 h39 hk3) (lv_sub hl [0, 1, 2, 3] rfl)
      exact loop22 _ (nI (x + 1)) ls rfl (Or.inr ⟨x + 1, rfl, Nat.le_refl _, by omega, fun h => h⟩) (hl)
    · refine lv_iconst (v := 0) hx hb d_Mod_isMethodType_16 (by decide) ?_
      exact tw_zsret E (by decide) (⟨Or.inl rfl, fun h => absurd h (by decide)⟩) d_Mod_isMethodType_17
