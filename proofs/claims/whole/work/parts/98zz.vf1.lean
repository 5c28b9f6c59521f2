def itg (x : Int32) : Int32 := if x = 96 then 1 else if x = 100 then 1 else if x = 104 then 1 else if x = 108 then 1 else if x = 112 then 1 else if x = 120 then 1 else if x = 122 then 1 else if x = 124 then 1 else if x = 126 then 1 else if x = 128 then 1 else if x = 130 then 1 else 0
def lgs (x : Int32) : Int32 := if x = 97 then 1 else if x = 101 then 1 else if x = 105 then 1 else if x = 109 then 1 else if x = 113 then 1 else if x = 127 then 1 else if x = 129 then 1 else if x = 131 then 1 else 0
def fof (x : Int32) : Int32 := if x ≤ 10 then 0 else if ¬ is_in x 26 33 = 0 then 0 else if ¬ is_in x 42 45 = 0 then 0 else if ¬ is_in x 59 66 = 0 then 0 else if ¬ is_in x 75 78 = 0 then 0 else if x = 16 then 1 else if x = 18 then 1 else if x = 21 then 1 else if x = 22 then 1 else if x = 25 then 1 else if x = 54 then 1 else if x = 55 then 1 else if x = 58 then 1 else if x = 17 then 2 else if x = 20 then 2 else if x = 132 then 2 else if ¬ is_in x 153 167 = 0 then 2 else if x = 198 then 2 else if x = 199 then 2 else if ¬ is_in x 178 184 = 0 then 2 else if x = 187 then 2 else if x = 192 then 2 else if x = 193 then 2 else if x = 87 then 0 else if x = 88 then 0 else if x = 89 then 0 else if x = 92 then 0 else if x = 95 then 0 else if ¬ itg x = 0 then 0 else if ¬ lgs x = 0 then 0 else if x = 121 then 0 else if x = 123 then 0 else if x = 125 then 0 else if x = 116 then 0 else if x = 117 then 0 else if x = 133 then 0 else if x = 136 then 0 else if ¬ is_in x 145 148 = 0 then 0 else if x = 172 then 0 else if x = 173 then 0 else if x = 176 then 0 else if x = 177 then 0 else if x = 190 then 0 else if x = 191 then 0 else -1
set_option maxHeartbeats 4000000 in
set_option maxRecDepth 100000 in
theorem g_Mod_isIntegers (l : Launch) (g : tw_G) (sz : Nat) (x : Int32) : Met l y_Mod_isIntegers [.code y_Mod_isIntegers b_Mod_isIntegers 1 (some .boolean)] ({ frames := 0, cells := 0, slots := 0, locals := 0 }) (tw_P g [.int x] [] sz) (vp_Si (fun (r : Int32) => (r = 0 ∨ r = 1) ∧ r = itg x)) 0 0 (fun _ => False) := by
  refine tw_met (l := l) (g := g) (y := y_Mod_isIntegers) (cc := b_Mod_isIntegers) (maxL := 1) (ret := (some .boolean)) (rm := { frames := 0, cells := 0, slots := 0, locals := 0 }) (mc := 0) (ms := 0) (av := [.int x]) (ws := []) (sz := sz) (Qc := fun _ => (vp_Si (fun (r : Int32) => (r = 0 ∨ r = 1) ∧ r = itg x))) (free := fun _ _ => False) (by decide) (Nat.le_of_ble_eq_true rfl) ?_
  intro p e s m below meth c ls A E hB hK hZ hP hD hS hA hl
  obtain ⟨hx, hb, hml, hr, hown, hts, hlocks, hin⟩ := id E
  have hl : lv_has ls 1 [(0, .int x)] := hl
  refine lv_iload_n hx hb d_Mod_isIntegers_0 rfl (lv_at hl 0 rfl) ?_
  refine lv_bipush (v := 96) hx hb d_Mod_isIntegers_1 (by decide) ?_
  refine lv_icmp_eq (tgt := 68) hx hb d_Mod_isIntegers_3 (by decide) (fun h3 => ?_) (fun h3 => ?_)
  · refine lv_iconst (v := 1) hx hb d_Mod_isIntegers_68 (by decide) ?_
    refine lv_goto (tgt := 73) hx hb d_Mod_isIntegers_69 (by decide) ?_
    exact tw_zsret E (by decide) (⟨(Or.inr rfl), (by unfold itg; rw [if_pos h3])⟩) d_Mod_isIntegers_73
  · refine lv_iload_n hx hb d_Mod_isIntegers_6 rfl (lv_at hl 0 rfl) ?_
    refine lv_bipush (v := 100) hx hb d_Mod_isIntegers_7 (by decide) ?_
    refine lv_icmp_eq (tgt := 68) hx hb d_Mod_isIntegers_9 (by decide) (fun h9 => ?_) (fun h9 => ?_)
    · refine lv_iconst (v := 1) hx hb d_Mod_isIntegers_68 (by decide) ?_
      refine lv_goto (tgt := 73) hx hb d_Mod_isIntegers_69 (by decide) ?_
      exact tw_zsret E (by decide) (⟨(Or.inr rfl), (by unfold itg; rw [if_neg h3, if_pos h9])⟩) d_Mod_isIntegers_73
    · refine lv_iload_n hx hb d_Mod_isIntegers_12 rfl (lv_at hl 0 rfl) ?_
      refine lv_bipush (v := 104) hx hb d_Mod_isIntegers_13 (by decide) ?_
      refine lv_icmp_eq (tgt := 68) hx hb d_Mod_isIntegers_15 (by decide) (fun h15 => ?_) (fun h15 => ?_)
      · refine lv_iconst (v := 1) hx hb d_Mod_isIntegers_68 (by decide) ?_
        refine lv_goto (tgt := 73) hx hb d_Mod_isIntegers_69 (by decide) ?_
        exact tw_zsret E (by decide) (⟨(Or.inr rfl), (by unfold itg; rw [if_neg h3, if_neg h9, if_pos h15])⟩) d_Mod_isIntegers_73
      · refine lv_iload_n hx hb d_Mod_isIntegers_18 rfl (lv_at hl 0 rfl) ?_
        refine lv_bipush (v := 108) hx hb d_Mod_isIntegers_19 (by decide) ?_
        refine lv_icmp_eq (tgt := 68) hx hb d_Mod_isIntegers_21 (by decide) (fun h21 => ?_) (fun h21 => ?_)
        · refine lv_iconst (v := 1) hx hb d_Mod_isIntegers_68 (by decide) ?_
          refine lv_goto (tgt := 73) hx hb d_Mod_isIntegers_69 (by decide) ?_
          exact tw_zsret E (by decide) (⟨(Or.inr rfl), (by unfold itg; rw [if_neg h3, if_neg h9, if_neg h15, if_pos h21])⟩) d_Mod_isIntegers_73
        · refine lv_iload_n hx hb d_Mod_isIntegers_24 rfl (lv_at hl 0 rfl) ?_
          refine lv_bipush (v := 112) hx hb d_Mod_isIntegers_25 (by decide) ?_
          refine lv_icmp_eq (tgt := 68) hx hb d_Mod_isIntegers_27 (by decide) (fun h27 => ?_) (fun h27 => ?_)
          · refine lv_iconst (v := 1) hx hb d_Mod_isIntegers_68 (by decide) ?_
            refine lv_goto (tgt := 73) hx hb d_Mod_isIntegers_69 (by decide) ?_
            exact tw_zsret E (by decide) (⟨(Or.inr rfl), (by unfold itg; rw [if_neg h3, if_neg h9, if_neg h15, if_neg h21, if_pos h27])⟩) d_Mod_isIntegers_73
          · refine lv_iload_n hx hb d_Mod_isIntegers_30 rfl (lv_at hl 0 rfl) ?_
            refine lv_bipush (v := 120) hx hb d_Mod_isIntegers_31 (by decide) ?_
            refine lv_icmp_eq (tgt := 68) hx hb d_Mod_isIntegers_33 (by decide) (fun h33 => ?_) (fun h33 => ?_)
            · refine lv_iconst (v := 1) hx hb d_Mod_isIntegers_68 (by decide) ?_
              refine lv_goto (tgt := 73) hx hb d_Mod_isIntegers_69 (by decide) ?_
              exact tw_zsret E (by decide) (⟨(Or.inr rfl), (by unfold itg; rw [if_neg h3, if_neg h9, if_neg h15, if_neg h21, if_neg h27, if_pos h33])⟩) d_Mod_isIntegers_73
            · refine lv_iload_n hx hb d_Mod_isIntegers_36 rfl (lv_at hl 0 rfl) ?_
              refine lv_bipush (v := 122) hx hb d_Mod_isIntegers_37 (by decide) ?_
              refine lv_icmp_eq (tgt := 68) hx hb d_Mod_isIntegers_39 (by decide) (fun h39 => ?_) (fun h39 => ?_)
              · refine lv_iconst (v := 1) hx hb d_Mod_isIntegers_68 (by decide) ?_
                refine lv_goto (tgt := 73) hx hb d_Mod_isIntegers_69 (by decide) ?_
                exact tw_zsret E (by decide) (⟨(Or.inr rfl), (by unfold itg; rw [if_neg h3, if_neg h9, if_neg h15, if_neg h21, if_neg h27, if_neg h33, if_pos h39])⟩) d_Mod_isIntegers_73
              · refine lv_iload_n hx hb d_Mod_isIntegers_42 rfl (lv_at hl 0 rfl) ?_
                refine lv_bipush (v := 124) hx hb d_Mod_isIntegers_43 (by decide) ?_
                refine lv_icmp_eq (tgt := 68) hx hb d_Mod_isIntegers_45 (by decide) (fun h45 => ?_) (fun h45 => ?_)
                · refine lv_iconst (v := 1) hx hb d_Mod_isIntegers_68 (by decide) ?_
                  refine lv_goto (tgt := 73) hx hb d_Mod_isIntegers_69 (by decide) ?_
                  exact tw_zsret E (by decide) (⟨(Or.inr rfl), (by unfold itg; rw [if_neg h3, if_neg h9, if_neg h15, if_neg h21, if_neg h27, if_neg h33, if_neg h39, if_pos h45])⟩) d_Mod_isIntegers_73
                · refine lv_iload_n hx hb d_Mod_isIntegers_48 rfl (lv_at hl 0 rfl) ?_
                  refine lv_bipush (v := 126) hx hb d_Mod_isIntegers_49 (by decide) ?_
                  refine lv_icmp_eq (tgt := 68) hx hb d_Mod_isIntegers_51 (by decide) (fun h51 => ?_) (fun h51 => ?_)
                  · refine lv_iconst (v := 1) hx hb d_Mod_isIntegers_68 (by decide) ?_
                    refine lv_goto (tgt := 73) hx hb d_Mod_isIntegers_69 (by decide) ?_
                    exact tw_zsret E (by decide) (⟨(Or.inr rfl), (by unfold itg; rw [if_neg h3, if_neg h9, if_neg h15, if_neg h21, if_neg h27, if_neg h33, if_neg h39, if_neg h45, if_pos h51])⟩) d_Mod_isIntegers_73
                  · refine lv_iload_n hx hb d_Mod_isIntegers_54 rfl (lv_at hl 0 rfl) ?_
                    refine lv_sipush (v := 128) hx hb d_Mod_isIntegers_55 (by decide) ?_
                    refine lv_icmp_eq (tgt := 68) hx hb d_Mod_isIntegers_58 (by decide) (fun h58 => ?_) (fun h58 => ?_)
                    · refine lv_iconst (v := 1) hx hb d_Mod_isIntegers_68 (by decide) ?_
                      refine lv_goto (tgt := 73) hx hb d_Mod_isIntegers_69 (by decide) ?_
                      exact tw_zsret E (by decide) (⟨(Or.inr rfl), (by unfold itg; rw [if_neg h3, if_neg h9, if_neg h15, if_neg h21, if_neg h27, if_neg h33, if_neg h39, if_neg h45, if_neg h51, if_pos h58])⟩) d_Mod_isIntegers_73
                    · refine lv_iload_n hx hb d_Mod_isIntegers_61 rfl (lv_at hl 0 rfl) ?_
                      refine lv_sipush (v := 130) hx hb d_Mod_isIntegers_62 (by decide) ?_
                      refine lv_icmp_ne (tgt := 72) hx hb d_Mod_isIntegers_65 (by decide) (fun h65 => ?_) (fun h65 => ?_)
                      · refine lv_iconst (v := 0) hx hb d_Mod_isIntegers_72 (by decide) ?_
                        exact tw_zsret E (by decide) (⟨(Or.inl rfl), (by unfold itg; rw [if_neg h3, if_neg h9, if_neg h15, if_neg h21, if_neg h27, if_neg h33, if_neg h39, if_neg h45, if_neg h51, if_neg h58, if_neg h65])⟩) d_Mod_isIntegers_73
                      · refine lv_iconst (v := 1) hx hb d_Mod_isIntegers_68 (by decide) ?_
                        refine lv_goto (tgt := 73) hx hb d_Mod_isIntegers_69 (by decide) ?_
                        exact tw_zsret E (by decide) (⟨(Or.inr rfl), (by unfold itg; rw [if_neg h3, if_neg h9, if_neg h15, if_neg h21, if_neg h27, if_neg h33, if_neg h39, if_neg h45, if_neg h51, if_neg h58, if_pos h65])⟩) d_Mod_isIntegers_73
set_option maxHeartbeats 4000000 in
set_option maxRecDepth 100000 in
theorem g_Mod_isLongs (l : Launch) (g : tw_G) (sz : Nat) (x : Int32) : Met l y_Mod_isLongs [.code y_Mod_isLongs b_Mod_isLongs 1 (some .boolean)] ({ frames := 0, cells := 0, slots := 0, locals := 0 }) (tw_P g [.int x] [] sz) (vp_Si (fun (r : Int32) => (r = 0 ∨ r = 1) ∧ r = lgs x)) 0 0 (fun _ => False) := by
  refine tw_met (l := l) (g := g) (y := y_Mod_isLongs) (cc := b_Mod_isLongs) (maxL := 1) (ret := (some .boolean)) (rm := { frames := 0, cells := 0, slots := 0, locals := 0 }) (mc := 0) (ms := 0) (av := [.int x]) (ws := []) (sz := sz) (Qc := fun _ => (vp_Si (fun (r : Int32) => (r = 0 ∨ r = 1) ∧ r = lgs x))) (free := fun _ _ => False) (by decide) (Nat.le_of_ble_eq_true rfl) ?_
  intro p e s m below meth c ls A E hB hK hZ hP hD hS hA hl
  obtain ⟨hx, hb, hml, hr, hown, hts, hlocks, hin⟩ := id E
  have hl : lv_has ls 1 [(0, .int x)] := hl
  refine lv_iload_n hx hb d_Mod_isLongs_0 rfl (lv_at hl 0 rfl) ?_
  refine lv_bipush (v := 97) hx hb d_Mod_isLongs_1 (by decide) ?_
  refine lv_icmp_eq (tgt := 50) hx hb d_Mod_isLongs_3 (by decide) (fun h3 => ?_) (fun h3 => ?_)
  · refine lv_iconst (v := 1) hx hb d_Mod_isLongs_50 (by decide) ?_
    refine lv_goto (tgt := 55) hx hb d_Mod_isLongs_51 (by decide) ?_
    exact tw_zsret E (by decide) (⟨(Or.inr rfl), (by unfold lgs; rw [if_pos h3])⟩) d_Mod_isLongs_55
  · refine lv_iload_n hx hb d_Mod_isLongs_6 rfl (lv_at hl 0 rfl) ?_
    refine lv_bipush (v := 101) hx hb d_Mod_isLongs_7 (by decide) ?_
    refine lv_icmp_eq (tgt := 50) hx hb d_Mod_isLongs_9 (by decide) (fun h9 => ?_) (fun h9 => ?_)
    · refine lv_iconst (v := 1) hx hb d_Mod_isLongs_50 (by decide) ?_
      refine lv_goto (tgt := 55) hx hb d_Mod_isLongs_51 (by decide) ?_
      exact tw_zsret E (by decide) (⟨(Or.inr rfl), (by unfold lgs; rw [if_neg h3, if_pos h9])⟩) d_Mod_isLongs_55
    · refine lv_iload_n hx hb d_Mod_isLongs_12 rfl (lv_at hl 0 rfl) ?_
      refine lv_bipush (v := 105) hx hb d_Mod_isLongs_13 (by decide) ?_
      refine lv_icmp_eq (tgt := 50) hx hb d_Mod_isLongs_15 (by decide) (fun h15 => ?_) (fun h15 => ?_)
      · refine lv_iconst (v := 1) hx hb d_Mod_isLongs_50 (by decide) ?_
        refine lv_goto (tgt := 55) hx hb d_Mod_isLongs_51 (by decide) ?_
        exact tw_zsret E (by decide) (⟨(Or.inr rfl), (by unfold lgs; rw [if_neg h3, if_neg h9, if_pos h15])⟩) d_Mod_isLongs_55
      · refine lv_iload_n hx hb d_Mod_isLongs_18 rfl (lv_at hl 0 rfl) ?_
        refine lv_bipush (v := 109) hx hb d_Mod_isLongs_19 (by decide) ?_
        refine lv_icmp_eq (tgt := 50) hx hb d_Mod_isLongs_21 (by decide) (fun h21 => ?_) (fun h21 => ?_)
        · refine lv_iconst (v := 1) hx hb d_Mod_isLongs_50 (by decide) ?_
          refine lv_goto (tgt := 55) hx hb d_Mod_isLongs_51 (by decide) ?_
          exact tw_zsret E (by decide) (⟨(Or.inr rfl), (by unfold lgs; rw [if_neg h3, if_neg h9, if_neg h15, if_pos h21])⟩) d_Mod_isLongs_55
        · refine lv_iload_n hx hb d_Mod_isLongs_24 rfl (lv_at hl 0 rfl) ?_
          refine lv_bipush (v := 113) hx hb d_Mod_isLongs_25 (by decide) ?_
          refine lv_icmp_eq (tgt := 50) hx hb d_Mod_isLongs_27 (by decide) (fun h27 => ?_) (fun h27 => ?_)
          · refine lv_iconst (v := 1) hx hb d_Mod_isLongs_50 (by decide) ?_
            refine lv_goto (tgt := 55) hx hb d_Mod_isLongs_51 (by decide) ?_
            exact tw_zsret E (by decide) (⟨(Or.inr rfl), (by unfold lgs; rw [if_neg h3, if_neg h9, if_neg h15, if_neg h21, if_pos h27])⟩) d_Mod_isLongs_55
          · refine lv_iload_n hx hb d_Mod_isLongs_30 rfl (lv_at hl 0 rfl) ?_
            refine lv_bipush (v := 127) hx hb d_Mod_isLongs_31 (by decide) ?_
            refine lv_icmp_eq (tgt := 50) hx hb d_Mod_isLongs_33 (by decide) (fun h33 => ?_) (fun h33 => ?_)
            · refine lv_iconst (v := 1) hx hb d_Mod_isLongs_50 (by decide) ?_
              refine lv_goto (tgt := 55) hx hb d_Mod_isLongs_51 (by decide) ?_
              exact tw_zsret E (by decide) (⟨(Or.inr rfl), (by unfold lgs; rw [if_neg h3, if_neg h9, if_neg h15, if_neg h21, if_neg h27, if_pos h33])⟩) d_Mod_isLongs_55
            · refine lv_iload_n hx hb d_Mod_isLongs_36 rfl (lv_at hl 0 rfl) ?_
              refine lv_sipush (v := 129) hx hb d_Mod_isLongs_37 (by decide) ?_
              refine lv_icmp_eq (tgt := 50) hx hb d_Mod_isLongs_40 (by decide) (fun h40 => ?_) (fun h40 => ?_)
              · refine lv_iconst (v := 1) hx hb d_Mod_isLongs_50 (by decide) ?_
                refine lv_goto (tgt := 55) hx hb d_Mod_isLongs_51 (by decide) ?_
                exact tw_zsret E (by decide) (⟨(Or.inr rfl), (by unfold lgs; rw [if_neg h3, if_neg h9, if_neg h15, if_neg h21, if_neg h27, if_neg h33, if_pos h40])⟩) d_Mod_isLongs_55
              · refine lv_iload_n hx hb d_Mod_isLongs_43 rfl (lv_at hl 0 rfl) ?_
                refine lv_sipush (v := 131) hx hb d_Mod_isLongs_44 (by decide) ?_
                refine lv_icmp_ne (tgt := 54) hx hb d_Mod_isLongs_47 (by decide) (fun h47 => ?_) (fun h47 => ?_)
                · refine lv_iconst (v := 0) hx hb d_Mod_isLongs_54 (by decide) ?_
                  exact tw_zsret E (by decide) (⟨(Or.inl rfl), (by unfold lgs; rw [if_neg h3, if_neg h9, if_neg h15, if_neg h21, if_neg h27, if_neg h33, if_neg h40, if_neg h47])⟩) d_Mod_isLongs_55
                · refine lv_iconst (v := 1) hx hb d_Mod_isLongs_50 (by decide) ?_
                  refine lv_goto (tgt := 55) hx hb d_Mod_isLongs_51 (by decide) ?_
                  exact tw_zsret E (by decide) (⟨(Or.inr rfl), (by unfold lgs; rw [if_neg h3, if_neg h9, if_neg h15, if_neg h21, if_neg h27, if_neg h33, if_neg h40, if_pos h47])⟩) d_Mod_isLongs_55
set_option maxHeartbeats 4000000 in
set_option maxRecDepth 100000 in
theorem g_Mod_follows (l : Launch) (g : tw_G) (sz : Nat) (x : Int32) : Met l y_Mod_follows [.code y_Mod_follows b_Mod_follows 2 (some .int)] ({ frames := 1, cells := 0, slots := 0, locals := 22 }) (tw_P g [.int x] [] sz) (vp_Si (fun (r : Int32) => (r = -1 ∨ r = 0 ∨ r = 1 ∨ r = 2) ∧ r = fof x)) 0 0 (fun _ => False) := by
  refine tw_met (l := l) (g := g) (y := y_Mod_follows) (cc := b_Mod_follows) (maxL := 2) (ret := (some .int)) (rm := { frames := 1, cells := 0, slots := 0, locals := 22 }) (mc := 0) (ms := 0) (av := [.int x]) (ws := []) (sz := sz) (Qc := fun _ => (vp_Si (fun (r : Int32) => (r = -1 ∨ r = 0 ∨ r = 1 ∨ r = 2) ∧ r = fof x))) (free := fun _ _ => False) (by decide) (Nat.le_of_ble_eq_true rfl) ?_
  intro p e s m below meth c ls A E hB hK hZ hP hD hS hA hl
  obtain ⟨hx, hb, hml, hr, hown, hts, hlocks, hin⟩ := id E
  have hl : lv_has ls 2 [(0, .int x)] := hl
  refine lv_iload_n hx hb d_Mod_follows_0 rfl (lv_at hl 0 rfl) ?_
  refine lv_bipush (v := 10) hx hb d_Mod_follows_1 (by decide) ?_
  refine lv_icmp_le (tgt := 50) hx hb d_Mod_follows_3 (by decide) (fun h3 => ?_) (fun h3 => ?_)
  · refine lv_iconst (v := 0) hx hb d_Mod_follows_50 (by decide) ?_
    exact tw_isret E (⟨Or.inr (Or.inl rfl), (by unfold fof; rw [if_pos h3])⟩) d_Mod_follows_51
  · refine lv_iload_n hx hb d_Mod_follows_6 rfl (lv_at hl 0 rfl) ?_
    refine lv_bipush (v := 26) hx hb d_Mod_follows_7 (by decide) ?_
    refine lv_bipush (v := 33) hx hb d_Mod_follows_9 (by decide) ?_
    refine tw_si (tw_runS (ws := []) (wc := []) (As := [.int x, .int 26, .int 33]) (rest := []) E hB hK hZ (c_Mod_isIn l g s.heap.size x 26 33) mc_Mod_isIn ms_Mod_isIn wd_1443 hP hD hS hA [] rfl (by decide) rfl rfl (by decide) rfl hl.1 rfl (Nat.le_of_ble_eq_true rfl) (by decide) d_Mod_follows_11) (fun r1 hr1 => ?_)
    obtain rfl : r1 = is_in x 26 33 := hr1
    refine lv_if_ne (tgt := 50) hx hb d_Mod_follows_14 (by decide) (fun h14 => ?_) (fun h14 => ?_)
    · refine lv_iconst (v := 0) hx hb d_Mod_follows_50 (by decide) ?_
      exact tw_isret E (⟨Or.inr (Or.inl rfl), (by unfold fof; rw [if_neg h3, if_pos h14])⟩) d_Mod_follows_51
    · refine lv_iload_n hx hb d_Mod_follows_17 rfl (lv_at hl 0 rfl) ?_
      refine lv_bipush (v := 42) hx hb d_Mod_follows_18 (by decide) ?_
      refine lv_bipush (v := 45) hx hb d_Mod_follows_20 (by decide) ?_
      refine tw_si (tw_runS (ws := []) (wc := []) (As := [.int x, .int 42, .int 45]) (rest := []) E hB hK hZ (c_Mod_isIn l g s.heap.size x 42 45) mc_Mod_isIn ms_Mod_isIn wd_1443 hP hD hS hA [] rfl (by decide) rfl rfl (by decide) rfl hl.1 rfl (Nat.le_of_ble_eq_true rfl) (by decide) d_Mod_follows_22) (fun r2 hr2 => ?_)
      obtain rfl : r2 = is_in x 42 45 := hr2
      refine lv_if_ne (tgt := 50) hx hb d_Mod_follows_25 (by decide) (fun h25 => ?_) (fun h25 => ?_)
      · refine lv_iconst (v := 0) hx hb d_Mod_follows_50 (by decide) ?_
        exact tw_isret E (⟨Or.inr (Or.inl rfl), (by unfold fof; rw [if_neg h3, if_neg (fun q => q h14), if_pos h25])⟩) d_Mod_follows_51
      · refine lv_iload_n hx hb d_Mod_follows_28 rfl (lv_at hl 0 rfl) ?_
        refine lv_bipush (v := 59) hx hb d_Mod_follows_29 (by decide) ?_
        refine lv_bipush (v := 66) hx hb d_Mod_follows_31 (by decide) ?_
        refine tw_si (tw_runS (ws := []) (wc := []) (As := [.int x, .int 59, .int 66]) (rest := []) E hB hK hZ (c_Mod_isIn l g s.heap.size x 59 66) mc_Mod_isIn ms_Mod_isIn wd_1443 hP hD hS hA [] rfl (by decide) rfl rfl (by decide) rfl hl.1 rfl (Nat.le_of_ble_eq_true rfl) (by decide) d_Mod_follows_33) (fun r3 hr3 => ?_)
        obtain rfl : r3 = is_in x 59 66 := hr3
        refine lv_if_ne (tgt := 50) hx hb d_Mod_follows_36 (by decide) (fun h36 => ?_) (fun h36 => ?_)
        · refine lv_iconst (v := 0) hx hb d_Mod_follows_50 (by decide) ?_
          exact tw_isret E (⟨Or.inr (Or.inl rfl), (by unfold fof; rw [if_neg h3, if_neg (fun q => q h14), if_neg (fun q => q h25), if_pos h36])⟩) d_Mod_follows_51
        · refine lv_iload_n hx hb d_Mod_follows_39 rfl (lv_at hl 0 rfl) ?_
          refine lv_bipush (v := 75) hx hb d_Mod_follows_40 (by decide) ?_
          refine lv_bipush (v := 78) hx hb d_Mod_follows_42 (by decide) ?_
          refine tw_si (tw_runS (ws := []) (wc := []) (As := [.int x, .int 75, .int 78]) (rest := []) E hB hK hZ (c_Mod_isIn l g s.heap.size x 75 78) mc_Mod_isIn ms_Mod_isIn wd_1443 hP hD hS hA [] rfl (by decide) rfl rfl (by decide) rfl hl.1 rfl (Nat.le_of_ble_eq_true rfl) (by decide) d_Mod_follows_44) (fun r4 hr4 => ?_)
          obtain rfl : r4 = is_in x 75 78 := hr4
          refine lv_if_eq (tgt := 52) hx hb d_Mod_follows_47 (by decide) (fun h47 => ?_) (fun h47 => ?_)
          · refine lv_iload_n hx hb d_Mod_follows_52 rfl (lv_at hl 0 rfl) ?_
            refine lv_bipush (v := 16) hx hb d_Mod_follows_53 (by decide) ?_
            refine lv_icmp_eq (tgt := 100) hx hb d_Mod_follows_55 (by decide) (fun h55 => ?_) (fun h55 => ?_)
            · refine lv_iconst (v := 1) hx hb d_Mod_follows_100 (by decide) ?_
              exact tw_isret E (⟨Or.inr (Or.inr (Or.inl rfl)), (by unfold fof; rw [if_neg h3, if_neg (fun q => q h14), if_neg (fun q => q h25), if_neg (fun q => q h36), if_neg (fun q => q h47), if_pos h55])⟩) d_Mod_follows_101
            · refine lv_iload_n hx hb d_Mod_follows_58 rfl (lv_at hl 0 rfl) ?_
              refine lv_bipush (v := 18) hx hb d_Mod_follows_59 (by decide) ?_
              refine lv_icmp_eq (tgt := 100) hx hb d_Mod_follows_61 (by decide) (fun h61 => ?_) (fun h61 => ?_)
              · refine lv_iconst (v := 1) hx hb d_Mod_follows_100 (by decide) ?_
                exact tw_isret E (⟨Or.inr (Or.inr (Or.inl rfl)), (by unfold fof; rw [if_neg h3, if_neg (fun q => q h14), if_neg (fun q => q h25), if_neg (fun q => q h36), if_neg (fun q => q h47), if_neg h55, if_pos h61])⟩) d_Mod_follows_101
              · refine lv_iload_n hx hb d_Mod_follows_64 rfl (lv_at hl 0 rfl) ?_
                refine lv_bipush (v := 21) hx hb d_Mod_follows_65 (by decide) ?_
                refine lv_icmp_eq (tgt := 100) hx hb d_Mod_follows_67 (by decide) (fun h67 => ?_) (fun h67 => ?_)
                · refine lv_iconst (v := 1) hx hb d_Mod_follows_100 (by decide) ?_
                  exact tw_isret E (⟨Or.inr (Or.inr (Or.inl rfl)), (by unfold fof; rw [if_neg h3, if_neg (fun q => q h14), if_neg (fun q => q h25), if_neg (fun q => q h36), if_neg (fun q => q h47), if_neg h55, if_neg h61, if_pos h67])⟩) d_Mod_follows_101
                · refine lv_iload_n hx hb d_Mod_follows_70 rfl (lv_at hl 0 rfl) ?_
                  refine lv_bipush (v := 22) hx hb d_Mod_follows_71 (by decide) ?_
                  refine lv_icmp_eq (tgt := 100) hx hb d_Mod_follows_73 (by decide) (fun h73 => ?_) (fun h73 => ?_)
                  · refine lv_iconst (v := 1) hx hb d_Mod_follows_100 (by decide) ?_
                    exact tw_isret E (⟨Or.inr (Or.inr (Or.inl rfl)), (by unfold fof; rw [if_neg h3, if_neg (fun q => q h14), if_neg (fun q => q h25), if_neg (fun q => q h36), if_neg (fun q => q h47), if_neg h55, if_neg h61, if_neg h67, if_pos h73])⟩) d_Mod_follows_101
                  · refine lv_iload_n hx hb d_Mod_follows_76 rfl (lv_at hl 0 rfl) ?_
                    refine lv_bipush (v := 25) hx hb d_Mod_follows_77 (by decide) ?_
                    refine lv_icmp_eq (tgt := 100) hx hb d_Mod_follows_79 (by decide) (fun h79 => ?_) (fun h79 => ?_)
                    · refine lv_iconst (v := 1) hx hb d_Mod_follows_100 (by decide) ?_
                      exact tw_isret E (⟨Or.inr (Or.inr (Or.inl rfl)), (by unfold fof; rw [if_neg h3, if_neg (fun q => q h14), if_neg (fun q => q h25), if_neg (fun q => q h36), if_neg (fun q => q h47), if_neg h55, if_neg h61, if_neg h67, if_neg h73, if_pos h79])⟩) d_Mod_follows_101
                    · refine lv_iload_n hx hb d_Mod_follows_82 rfl (lv_at hl 0 rfl) ?_
                      refine lv_bipush (v := 54) hx hb d_Mod_follows_83 (by decide) ?_
                      refine lv_icmp_eq (tgt := 100) hx hb d_Mod_follows_85 (by decide) (fun h85 => ?_) (fun h85 => ?_)
                      · refine lv_iconst (v := 1) hx hb d_Mod_follows_100 (by decide) ?_
                        exact tw_isret E (⟨Or.inr (Or.inr (Or.inl rfl)), (by unfold fof; rw [if_neg h3, if_neg (fun q => q h14), if_neg (fun q => q h25), if_neg (fun q => q h36), if_neg (fun q => q h47), if_neg h55, if_neg h61, if_neg h67, if_neg h73, if_neg h79, if_pos h85])⟩) d_Mod_follows_101
                      · refine lv_iload_n hx hb d_Mod_follows_88 rfl (lv_at hl 0 rfl) ?_
                        refine lv_bipush (v := 55) hx hb d_Mod_follows_89 (by decide) ?_
                        refine lv_icmp_eq (tgt := 100) hx hb d_Mod_follows_91 (by decide) (fun h91 => ?_) (fun h91 => ?_)
                        · refine lv_iconst (v := 1) hx hb d_Mod_follows_100 (by decide) ?_
                          exact tw_isret E (⟨Or.inr (Or.inr (Or.inl rfl)), (by unfold fof; rw [if_neg h3, if_neg (fun q => q h14), if_neg (fun q => q h25), if_neg (fun q => q h36), if_neg (fun q => q h47), if_neg h55, if_neg h61, if_neg h67, if_neg h73, if_neg h79, if_neg h85, if_pos h91])⟩) d_Mod_follows_101
                        · refine lv_iload_n hx hb d_Mod_follows_94 rfl (lv_at hl 0 rfl) ?_
                          refine lv_bipush (v := 58) hx hb d_Mod_follows_95 (by decide) ?_
                          refine lv_icmp_ne (tgt := 102) hx hb d_Mod_follows_97 (by decide) (fun h97 => ?_) (fun h97 => ?_)
                          · refine lv_iload_n hx hb d_Mod_follows_102 rfl (lv_at hl 0 rfl) ?_
                            refine lv_bipush (v := 17) hx hb d_Mod_follows_103 (by decide) ?_
                            refine lv_icmp_eq (tgt := 182) hx hb d_Mod_follows_105 (by decide) (fun h105 => ?_) (fun h105 => ?_)
                            · refine lv_iconst (v := 2) hx hb d_Mod_follows_182 (by decide) ?_
                              exact tw_isret E (⟨Or.inr (Or.inr (Or.inr rfl)), (by unfold fof; rw [if_neg h3, if_neg (fun q => q h14), if_neg (fun q => q h25), if_neg (fun q => q h36), if_neg (fun q => q h47), if_neg h55, if_neg h61, if_neg h67, if_neg h73, if_neg h79, if_neg h85, if_neg h91, if_neg h97, if_pos h105])⟩) d_Mod_follows_183
                            · refine lv_iload_n hx hb d_Mod_follows_108 rfl (lv_at hl 0 rfl) ?_
                              refine lv_bipush (v := 20) hx hb d_Mod_follows_109 (by decide) ?_
                              refine lv_icmp_eq (tgt := 182) hx hb d_Mod_follows_111 (by decide) (fun h111 => ?_) (fun h111 => ?_)
                              · refine lv_iconst (v := 2) hx hb d_Mod_follows_182 (by decide) ?_
                                exact tw_isret E (⟨Or.inr (Or.inr (Or.inr rfl)), (by unfold fof; rw [if_neg h3, if_neg (fun q => q h14), if_neg (fun q => q h25), if_neg (fun q => q h36), if_neg (fun q => q h47), if_neg h55, if_neg h61, if_neg h67, if_neg h73, if_neg h79, if_neg h85, if_neg h91, if_neg h97, if_neg h105, if_pos h111])⟩) d_Mod_follows_183
                              · refine lv_iload_n hx hb d_Mod_follows_114 rfl (lv_at hl 0 rfl) ?_
                                refine lv_sipush (v := 132) hx hb d_Mod_follows_115 (by decide) ?_
                                refine lv_icmp_eq (tgt := 182) hx hb d_Mod_follows_118 (by decide) (fun h118 => ?_) (fun h118 => ?_)
                                · refine lv_iconst (v := 2) hx hb d_Mod_follows_182 (by decide) ?_
                                  exact tw_isret E (⟨Or.inr (Or.inr (Or.inr rfl)), (by unfold fof; rw [if_neg h3, if_neg (fun q => q h14), if_neg (fun q => q h25), if_neg (fun q => q h36), if_neg (fun q => q h47), if_neg h55, if_neg h61, if_neg h67, if_neg h73, if_neg h79, if_neg h85, if_neg h91, if_neg h97, if_neg h105, if_neg h111, if_pos h118])⟩) d_Mod_follows_183
                                · refine lv_iload_n hx hb d_Mod_follows_121 rfl (lv_at hl 0 rfl) ?_
                                  refine lv_sipush (v := 153) hx hb d_Mod_follows_122 (by decide) ?_
                                  refine lv_sipush (v := 167) hx hb d_Mod_follows_125 (by decide) ?_
                                  refine tw_si (tw_runS (ws := []) (wc := []) (As := [.int x, .int 153, .int 167]) (rest := []) E hB hK hZ (c_Mod_isIn l g s.heap.size x 153 167) mc_Mod_isIn ms_Mod_isIn wd_1443 hP hD hS hA [] rfl (by decide) rfl rfl (by decide) rfl hl.1 rfl (Nat.le_of_ble_eq_true rfl) (by decide) d_Mod_follows_128) (fun r5 hr5 => ?_)
                                  obtain rfl : r5 = is_in x 153 167 := hr5
                                  refine lv_if_ne (tgt := 182) hx hb d_Mod_follows_131 (by decide) (fun h131 => ?_) (fun h131 => ?_)
                                  · refine lv_iconst (v := 2) hx hb d_Mod_follows_182 (by decide) ?_
                                    exact tw_isret E (⟨Or.inr (Or.inr (Or.inr rfl)), (by unfold fof; rw [if_neg h3, if_neg (fun q => q h14), if_neg (fun q => q h25), if_neg (fun q => q h36), if_neg (fun q => q h47), if_neg h55, if_neg h61, if_neg h67, if_neg h73, if_neg h79, if_neg h85, if_neg h91, if_neg h97, if_neg h105, if_neg h111, if_neg h118, if_pos h131])⟩) d_Mod_follows_183
                                  · refine lv_iload_n hx hb d_Mod_follows_134 rfl (lv_at hl 0 rfl) ?_
                                    refine lv_sipush (v := 198) hx hb d_Mod_follows_135 (by decide) ?_
                                    refine lv_icmp_eq (tgt := 182) hx hb d_Mod_follows_138 (by decide) (fun h138 => ?_) (fun h138 => ?_)
                                    · refine lv_iconst (v := 2) hx hb d_Mod_follows_182 (by decide) ?_
                                      exact tw_isret E (⟨Or.inr (Or.inr (Or.inr rfl)), (by unfold fof; rw [if_neg h3, if_neg (fun q => q h14), if_neg (fun q => q h25), if_neg (fun q => q h36), if_neg (fun q => q h47), if_neg h55, if_neg h61, if_neg h67, if_neg h73, if_neg h79, if_neg h85, if_neg h91, if_neg h97, if_neg h105, if_neg h111, if_neg h118, if_neg (fun q => q h131), if_pos h138])⟩) d_Mod_follows_183
                                    · refine lv_iload_n hx hb d_Mod_follows_141 rfl (lv_at hl 0 rfl) ?_
                                      refine lv_sipush (v := 199) hx hb d_Mod_follows_142 (by decide) ?_
                                      refine lv_icmp_eq (tgt := 182) hx hb d_Mod_follows_145 (by decide) (fun h145 => ?_) (fun h145 => ?_)
                                      · refine lv_iconst (v := 2) hx hb d_Mod_follows_182 (by decide) ?_
                                        exact tw_isret E (⟨Or.inr (Or.inr (Or.inr rfl)), (by unfold fof; rw [if_neg h3, if_neg (fun q => q h14), if_neg (fun q => q h25), if_neg (fun q => q h36), if_neg (fun q => q h47), if_neg h55, if_neg h61, if_neg h67, if_neg h73, if_neg h79, if_neg h85, if_neg h91, if_neg h97, if_neg h105, if_neg h111, if_neg h118, if_neg (fun q => q h131), if_neg h138, if_pos h145])⟩) d_Mod_follows_183
                                      · refine lv_iload_n hx hb d_Mod_follows_148 rfl (lv_at hl 0 rfl) ?_
                                        refine lv_sipush (v := 178) hx hb d_Mod_follows_149 (by decide) ?_
                                        refine lv_sipush (v := 184) hx hb d_Mod_follows_152 (by decide) ?_
                                        refine tw_si (tw_runS (ws := []) (wc := []) (As := [.int x, .int 178, .int 184]) (rest := []) E hB hK hZ (c_Mod_isIn l g s.heap.size x 178 184) mc_Mod_isIn ms_Mod_isIn wd_1443 hP hD hS hA [] rfl (by decide) rfl rfl (by decide) rfl hl.1 rfl (Nat.le_of_ble_eq_true rfl) (by decide) d_Mod_follows_155) (fun r6 hr6 => ?_)
                                        obtain rfl : r6 = is_in x 178 184 := hr6
                                        refine lv_if_ne (tgt := 182) hx hb d_Mod_follows_158 (by decide) (fun h158 => ?_) (fun h158 => ?_)
                                        · refine lv_iconst (v := 2) hx hb d_Mod_follows_182 (by decide) ?_
                                          exact tw_isret E (⟨Or.inr (Or.inr (Or.inr rfl)), (by unfold fof; rw [if_neg h3, if_neg (fun q => q h14), if_neg (fun q => q h25), if_neg (fun q => q h36), if_neg (fun q => q h47), if_neg h55, if_neg h61, if_neg h67, if_neg h73, if_neg h79, if_neg h85, if_neg h91, if_neg h97, if_neg h105, if_neg h111, if_neg h118, if_neg (fun q => q h131), if_neg h138, if_neg h145, if_pos h158])⟩) d_Mod_follows_183
                                        · refine lv_iload_n hx hb d_Mod_follows_161 rfl (lv_at hl 0 rfl) ?_
                                          refine lv_sipush (v := 187) hx hb d_Mod_follows_162 (by decide) ?_
                                          refine lv_icmp_eq (tgt := 182) hx hb d_Mod_follows_165 (by decide) (fun h165 => ?_) (fun h165 => ?_)
                                          · refine lv_iconst (v := 2) hx hb d_Mod_follows_182 (by decide) ?_
                                            exact tw_isret E (⟨Or.inr (Or.inr (Or.inr rfl)), (by unfold fof; rw [if_neg h3, if_neg (fun q => q h14), if_neg (fun q => q h25), if_neg (fun q => q h36), if_neg (fun q => q h47), if_neg h55, if_neg h61, if_neg h67, if_neg h73, if_neg h79, if_neg h85, if_neg h91, if_neg h97, if_neg h105, if_neg h111, if_neg h118, if_neg (fun q => q h131), if_neg h138, if_neg h145, if_neg (fun q => q h158), if_pos h165])⟩) d_Mod_follows_183
                                          · refine lv_iload_n hx hb d_Mod_follows_168 rfl (lv_at hl 0 rfl) ?_
                                            refine lv_sipush (v := 192) hx hb d_Mod_follows_169 (by decide) ?_
                                            refine lv_icmp_eq (tgt := 182) hx hb d_Mod_follows_172 (by decide) (fun h172 => ?_) (fun h172 => ?_)
                                            · refine lv_iconst (v := 2) hx hb d_Mod_follows_182 (by decide) ?_
                                              exact tw_isret E (⟨Or.inr (Or.inr (Or.inr rfl)), (by unfold fof; rw [if_neg h3, if_neg (fun q => q h14), if_neg (fun q => q h25), if_neg (fun q => q h36), if_neg (fun q => q h47), if_neg h55, if_neg h61, if_neg h67, if_neg h73, if_neg h79, if_neg h85, if_neg h91, if_neg h97, if_neg h105, if_neg h111, if_neg h118, if_neg (fun q => q h131), if_neg h138, if_neg h145, if_neg (fun q => q h158), if_neg h165, if_pos h172])⟩) d_Mod_follows_183
                                            · refine lv_iload_n hx hb d_Mod_follows_175 rfl (lv_at hl 0 rfl) ?_
                                              refine lv_sipush (v := 193) hx hb d_Mod_follows_176 (by decide) ?_
                                              refine lv_icmp_ne (tgt := 184) hx hb d_Mod_follows_179 (by decide) (fun h179 => ?_) (fun h179 => ?_)
                                              · refine lv_iload_n hx hb d_Mod_follows_184 rfl (lv_at hl 0 rfl) ?_
                                                refine lv_bipush (v := 87) hx hb d_Mod_follows_185 (by decide) ?_
                                                refine lv_icmp_eq (tgt := 327) hx hb d_Mod_follows_187 (by decide) (fun h187 => ?_) (fun h187 => ?_)
                                                · refine lv_iconst (v := 1) hx hb d_Mod_follows_327 (by decide) ?_
                                                  refine lv_goto (tgt := 332) hx hb d_Mod_follows_328 (by decide) ?_
                                                  refine lv_istore_n hx hb d_Mod_follows_332 rfl hl (by decide) rfl (fun ls hl => ?_)
                                                  have hl : lv_has ls 2 [(1, .int 1), (0, .int x)] := hl
                                                  refine lv_iload_n hx hb d_Mod_follows_333 rfl (lv_at hl 0 rfl) ?_
                                                  refine lv_if_eq (tgt := 341) hx hb d_Mod_follows_334 (by decide) (fun h334 => ?_) (fun h334 => ?_)
                                                  · first | exact absurd h334 (by decide) | exact absurd (by decide) h334
                                                  · refine lv_iconst (v := 0) hx hb d_Mod_follows_337 (by decide) ?_
                                                    refine lv_goto (tgt := 342) hx hb d_Mod_follows_338 (by decide) ?_
                                                    exact tw_isret E (⟨Or.inr (Or.inl rfl), (by unfold fof; rw [if_neg h3, if_neg (fun q => q h14), if_neg (fun q => q h25), if_neg (fun q => q h36), if_neg (fun q => q h47), if_neg h55, if_neg h61, if_neg h67, if_neg h73, if_neg h79, if_neg h85, if_neg h91, if_neg h97, if_neg h105, if_neg h111, if_neg h118, if_neg (fun q => q h131), if_neg h138, if_neg h145, if_neg (fun q => q h158), if_neg h165, if_neg h172, if_neg h179, if_pos h187])⟩) d_Mod_follows_342
                                                · refine lv_iload_n hx hb d_Mod_follows_190 rfl (lv_at hl 0 rfl) ?_
                                                  refine lv_bipush (v := 88) hx hb d_Mod_follows_191 (by decide) ?_
                                                  refine lv_icmp_eq (tgt := 327) hx hb d_Mod_follows_193 (by decide) (fun h193 => ?_) (fun h193 => ?_)
                                                  · refine lv_iconst (v := 1) hx hb d_Mod_follows_327 (by decide) ?_
                                                    refine lv_goto (tgt := 332) hx hb d_Mod_follows_328 (by decide) ?_
                                                    refine lv_istore_n hx hb d_Mod_follows_332 rfl hl (by decide) rfl (fun ls hl => ?_)
                                                    have hl : lv_has ls 2 [(1, .int 1), (0, .int x)] := hl
                                                    refine lv_iload_n hx hb d_Mod_follows_333 rfl (lv_at hl 0 rfl) ?_
                                                    refine lv_if_eq (tgt := 341) hx hb d_Mod_follows_334 (by decide) (fun h334 => ?_) (fun h334 => ?_)
                                                    · first | exact absurd h334 (by decide) | exact absurd (by decide) h334
                                                    · refine lv_iconst (v := 0) hx hb d_Mod_follows_337 (by decide) ?_
                                                      refine lv_goto (tgt := 342) hx hb d_Mod_follows_338 (by decide) ?_
                                                      exact tw_isret E (⟨Or.inr (Or.inl rfl), (by unfold fof; rw [if_neg h3, if_neg (fun q => q h14), if_neg (fun q => q h25), if_neg (fun q => q h36), if_neg (fun q => q h47), if_neg h55, if_neg h61, if_neg h67, if_neg h73, if_neg h79, if_neg h85, if_neg h91, if_neg h97, if_neg h105, if_neg h111, if_neg h118, if_neg (fun q => q h131), if_neg h138, if_neg h145, if_neg (fun q => q h158), if_neg h165, if_neg h172, if_neg h179, if_neg h187, if_pos h193])⟩) d_Mod_follows_342
                                                  · refine lv_iload_n hx hb d_Mod_follows_196 rfl (lv_at hl 0 rfl) ?_
                                                    refine lv_bipush (v := 89) hx hb d_Mod_follows_197 (by decide) ?_
                                                    refine lv_icmp_eq (tgt := 327) hx hb d_Mod_follows_199 (by decide) (fun h199 => ?_) (fun h199 => ?_)
                                                    · refine lv_iconst (v := 1) hx hb d_Mod_follows_327 (by decide) ?_
                                                      refine lv_goto (tgt := 332) hx hb d_Mod_follows_328 (by decide) ?_
                                                      refine lv_istore_n hx hb d_Mod_follows_332 rfl hl (by decide) rfl (fun ls hl => ?_)
                                                      have hl : lv_has ls 2 [(1, .int 1), (0, .int x)] := hl
                                                      refine lv_iload_n hx hb d_Mod_follows_333 rfl (lv_at hl 0 rfl) ?_
                                                      refine lv_if_eq (tgt := 341) hx hb d_Mod_follows_334 (by decide) (fun h334 => ?_) (fun h334 => ?_)
                                                      · first | exact absurd h334 (by decide) | exact absurd (by decide) h334
                                                      · refine lv_iconst (v := 0) hx hb d_Mod_follows_337 (by decide) ?_
                                                        refine lv_goto (tgt := 342) hx hb d_Mod_follows_338 (by decide) ?_
                                                        exact tw_isret E (⟨Or.inr (Or.inl rfl), (by unfold fof; rw [if_neg h3, if_neg (fun q => q h14), if_neg (fun q => q h25), if_neg (fun q => q h36), if_neg (fun q => q h47), if_neg h55, if_neg h61, if_neg h67, if_neg h73, if_neg h79, if_neg h85, if_neg h91, if_neg h97, if_neg h105, if_neg h111, if_neg h118, if_neg (fun q => q h131), if_neg h138, if_neg h145, if_neg (fun q => q h158), if_neg h165, if_neg h172, if_neg h179, if_neg h187, if_neg h193, if_pos h199])⟩) d_Mod_follows_342
                                                    · refine lv_iload_n hx hb d_Mod_follows_202 rfl (lv_at hl 0 rfl) ?_
                                                      refine lv_bipush (v := 92) hx hb d_Mod_follows_203 (by decide) ?_
                                                      refine lv_icmp_eq (tgt := 327) hx hb d_Mod_follows_205 (by decide) (fun h205 => ?_) (fun h205 => ?_)
                                                      · refine lv_iconst (v := 1) hx hb d_Mod_follows_327 (by decide) ?_
                                                        refine lv_goto (tgt := 332) hx hb d_Mod_follows_328 (by decide) ?_
                                                        refine lv_istore_n hx hb d_Mod_follows_332 rfl hl (by decide) rfl (fun ls hl => ?_)
                                                        have hl : lv_has ls 2 [(1, .int 1), (0, .int x)] := hl
                                                        refine lv_iload_n hx hb d_Mod_follows_333 rfl (lv_at hl 0 rfl) ?_
                                                        refine lv_if_eq (tgt := 341) hx hb d_Mod_follows_334 (by decide) (fun h334 => ?_) (fun h334 => ?_)
                                                        · first | exact absurd h334 (by decide) | exact absurd (by decide) h334
                                                        · refine lv_iconst (v := 0) hx hb d_Mod_follows_337 (by decide) ?_
                                                          refine lv_goto (tgt := 342) hx hb d_Mod_follows_338 (by decide) ?_
                                                          exact tw_isret E (⟨Or.inr (Or.inl rfl), (by unfold fof; rw [if_neg h3, if_neg (fun q => q h14), if_neg (fun q => q h25), if_neg (fun q => q h36), if_neg (fun q => q h47), if_neg h55, if_neg h61, if_neg h67, if_neg h73, if_neg h79, if_neg h85, if_neg h91, if_neg h97, if_neg h105, if_neg h111, if_neg h118, if_neg (fun q => q h131), if_neg h138, if_neg h145, if_neg (fun q => q h158), if_neg h165, if_neg h172, if_neg h179, if_neg h187, if_neg h193, if_neg h199, if_pos h205])⟩) d_Mod_follows_342
                                                      · refine lv_iload_n hx hb d_Mod_follows_208 rfl (lv_at hl 0 rfl) ?_
                                                        refine lv_bipush (v := 95) hx hb d_Mod_follows_209 (by decide) ?_
                                                        refine lv_icmp_eq (tgt := 327) hx hb d_Mod_follows_211 (by decide) (fun h211 => ?_) (fun h211 => ?_)
                                                        · refine lv_iconst (v := 1) hx hb d_Mod_follows_327 (by decide) ?_
                                                          refine lv_goto (tgt := 332) hx hb d_Mod_follows_328 (by decide) ?_
                                                          refine lv_istore_n hx hb d_Mod_follows_332 rfl hl (by decide) rfl (fun ls hl => ?_)
                                                          have hl : lv_has ls 2 [(1, .int 1), (0, .int x)] := hl
                                                          refine lv_iload_n hx hb d_Mod_follows_333 rfl (lv_at hl 0 rfl) ?_
                                                          refine lv_if_eq (tgt := 341) hx hb d_Mod_follows_334 (by decide) (fun h334 => ?_) (fun h334 => ?_)
                                                          · first | exact absurd h334 (by decide) | exact absurd (by decide) h334
                                                          · refine lv_iconst (v := 0) hx hb d_Mod_follows_337 (by decide) ?_
                                                            refine lv_goto (tgt := 342) hx hb d_Mod_follows_338 (by decide) ?_
                                                            exact tw_isret E (⟨Or.inr (Or.inl rfl), (by unfold fof; rw [if_neg h3, if_neg (fun q => q h14), if_neg (fun q => q h25), if_neg (fun q => q h36), if_neg (fun q => q h47), if_neg h55, if_neg h61, if_neg h67, if_neg h73, if_neg h79, if_neg h85, if_neg h91, if_neg h97, if_neg h105, if_neg h111, if_neg h118, if_neg (fun q => q h131), if_neg h138, if_neg h145, if_neg (fun q => q h158), if_neg h165, if_neg h172, if_neg h179, if_neg h187, if_neg h193, if_neg h199, if_neg h205, if_pos h211])⟩) d_Mod_follows_342
                                                        · refine lv_iload_n hx hb d_Mod_follows_214 rfl (lv_at hl 0 rfl) ?_
                                                          refine tw_si (tw_runS (ws := []) (wc := []) (As := [.int x]) (rest := []) E hB hK hZ (g_Mod_isIntegers l g s.heap.size x) mc_Mod_isIntegers ms_Mod_isIntegers wd_1606 hP hD hS hA [] rfl (by decide) rfl rfl (by decide) rfl hl.1 rfl (Nat.le_of_ble_eq_true rfl) (by decide) d_Mod_follows_215) (fun r7 hr7 => ?_)
                                                          have hB7 := hr7
                                                          refine lv_if_ne (tgt := 327) hx hb d_Mod_follows_218 (by decide) (fun h218 => ?_) (fun h218 => ?_)
                                                          · refine lv_iconst (v := 1) hx hb d_Mod_follows_327 (by decide) ?_
                                                            refine lv_goto (tgt := 332) hx hb d_Mod_follows_328 (by decide) ?_
                                                            refine lv_istore_n hx hb d_Mod_follows_332 rfl hl (by decide) rfl (fun ls hl => ?_)
                                                            have hl : lv_has ls 2 [(1, .int 1), (0, .int x)] := hl
                                                            refine lv_iload_n hx hb d_Mod_follows_333 rfl (lv_at hl 0 rfl) ?_
                                                            refine lv_if_eq (tgt := 341) hx hb d_Mod_follows_334 (by decide) (fun h334 => ?_) (fun h334 => ?_)
                                                            · first | exact absurd h334 (by decide) | exact absurd (by decide) h334
                                                            · refine lv_iconst (v := 0) hx hb d_Mod_follows_337 (by decide) ?_
                                                              refine lv_goto (tgt := 342) hx hb d_Mod_follows_338 (by decide) ?_
                                                              exact tw_isret E (⟨Or.inr (Or.inl rfl), (by unfold fof; rw [if_neg h3, if_neg (fun q => q h14), if_neg (fun q => q h25), if_neg (fun q => q h36), if_neg (fun q => q h47), if_neg h55, if_neg h61, if_neg h67, if_neg h73, if_neg h79, if_neg h85, if_neg h91, if_neg h97, if_neg h105, if_neg h111, if_neg h118, if_neg (fun q => q h131), if_neg h138, if_neg h145, if_neg (fun q => q h158), if_neg h165, if_neg h172, if_neg h179, if_neg h187, if_neg h193, if_neg h199, if_neg h205, if_neg h211, if_pos (hB7.2 ▸ h218)])⟩) d_Mod_follows_342
                                                          · refine lv_iload_n hx hb d_Mod_follows_221 rfl (lv_at hl 0 rfl) ?_
                                                            refine tw_si (tw_runS (ws := []) (wc := []) (As := [.int x]) (rest := []) E hB hK hZ (g_Mod_isLongs l g s.heap.size x) mc_Mod_isLongs ms_Mod_isLongs wd_1609 hP hD hS hA [] rfl (by decide) rfl rfl (by decide) rfl hl.1 rfl (Nat.le_of_ble_eq_true rfl) (by decide) d_Mod_follows_222) (fun r8 hr8 => ?_)
                                                            have hB8 := hr8
                                                            refine lv_if_ne (tgt := 327) hx hb d_Mod_follows_225 (by decide) (fun h225 => ?_) (fun h225 => ?_)
                                                            · refine lv_iconst (v := 1) hx hb d_Mod_follows_327 (by decide) ?_
                                                              refine lv_goto (tgt := 332) hx hb d_Mod_follows_328 (by decide) ?_
                                                              refine lv_istore_n hx hb d_Mod_follows_332 rfl hl (by decide) rfl (fun ls hl => ?_)
                                                              have hl : lv_has ls 2 [(1, .int 1), (0, .int x)] := hl
                                                              refine lv_iload_n hx hb d_Mod_follows_333 rfl (lv_at hl 0 rfl) ?_
                                                              refine lv_if_eq (tgt := 341) hx hb d_Mod_follows_334 (by decide) (fun h334 => ?_) (fun h334 => ?_)
                                                              · first | exact absurd h334 (by decide) | exact absurd (by decide) h334
                                                              · refine lv_iconst (v := 0) hx hb d_Mod_follows_337 (by decide) ?_
                                                                refine lv_goto (tgt := 342) hx hb d_Mod_follows_338 (by decide) ?_
                                                                exact tw_isret E (⟨Or.inr (Or.inl rfl), (by unfold fof; rw [if_neg h3, if_neg (fun q => q h14), if_neg (fun q => q h25), if_neg (fun q => q h36), if_neg (fun q => q h47), if_neg h55, if_neg h61, if_neg h67, if_neg h73, if_neg h79, if_neg h85, if_neg h91, if_neg h97, if_neg h105, if_neg h111, if_neg h118, if_neg (fun q => q h131), if_neg h138, if_neg h145, if_neg (fun q => q h158), if_neg h165, if_neg h172, if_neg h179, if_neg h187, if_neg h193, if_neg h199, if_neg h205, if_neg h211, if_neg (fun q => q (hB7.2 ▸ h218)), if_pos (hB8.2 ▸ h225)])⟩) d_Mod_follows_342
                                                            · refine lv_iload_n hx hb d_Mod_follows_228 rfl (lv_at hl 0 rfl) ?_
                                                              refine lv_bipush (v := 121) hx hb d_Mod_follows_229 (by decide) ?_
                                                              refine lv_icmp_eq (tgt := 327) hx hb d_Mod_follows_231 (by decide) (fun h231 => ?_) (fun h231 => ?_)
                                                              · refine lv_iconst (v := 1) hx hb d_Mod_follows_327 (by decide) ?_
                                                                refine lv_goto (tgt := 332) hx hb d_Mod_follows_328 (by decide) ?_
                                                                refine lv_istore_n hx hb d_Mod_follows_332 rfl hl (by decide) rfl (fun ls hl => ?_)
                                                                have hl : lv_has ls 2 [(1, .int 1), (0, .int x)] := hl
                                                                refine lv_iload_n hx hb d_Mod_follows_333 rfl (lv_at hl 0 rfl) ?_
                                                                refine lv_if_eq (tgt := 341) hx hb d_Mod_follows_334 (by decide) (fun h334 => ?_) (fun h334 => ?_)
                                                                · first | exact absurd h334 (by decide) | exact absurd (by decide) h334
                                                                · refine lv_iconst (v := 0) hx hb d_Mod_follows_337 (by decide) ?_
                                                                  refine lv_goto (tgt := 342) hx hb d_Mod_follows_338 (by decide) ?_
                                                                  exact tw_isret E (⟨Or.inr (Or.inl rfl), (by unfold fof; rw [if_neg h3, if_neg (fun q => q h14), if_neg (fun q => q h25), if_neg (fun q => q h36), if_neg (fun q => q h47), if_neg h55, if_neg h61, if_neg h67, if_neg h73, if_neg h79, if_neg h85, if_neg h91, if_neg h97, if_neg h105, if_neg h111, if_neg h118, if_neg (fun q => q h131), if_neg h138, if_neg h145, if_neg (fun q => q h158), if_neg h165, if_neg h172, if_neg h179, if_neg h187, if_neg h193, if_neg h199, if_neg h205, if_neg h211, if_neg (fun q => q (hB7.2 ▸ h218)), if_neg (fun q => q (hB8.2 ▸ h225)), if_pos h231])⟩) d_Mod_follows_342
                                                              · refine lv_iload_n hx hb d_Mod_follows_234 rfl (lv_at hl 0 rfl) ?_
                                                                refine lv_bipush (v := 123) hx hb d_Mod_follows_235 (by decide) ?_
                                                                refine lv_icmp_eq (tgt := 327) hx hb d_Mod_follows_237 (by decide) (fun h237 => ?_) (fun h237 => ?_)
                                                                · refine lv_iconst (v := 1) hx hb d_Mod_follows_327 (by decide) ?_
                                                                  refine lv_goto (tgt := 332) hx hb d_Mod_follows_328 (by decide) ?_
                                                                  refine lv_istore_n hx hb d_Mod_follows_332 rfl hl (by decide) rfl (fun ls hl => ?_)
                                                                  have hl : lv_has ls 2 [(1, .int 1), (0, .int x)] := hl
                                                                  refine lv_iload_n hx hb d_Mod_follows_333 rfl (lv_at hl 0 rfl) ?_
                                                                  refine lv_if_eq (tgt := 341) hx hb d_Mod_follows_334 (by decide) (fun h334 => ?_) (fun h334 => ?_)
                                                                  · first | exact absurd h334 (by decide) | exact absurd (by decide) h334
                                                                  · refine lv_iconst (v := 0) hx hb d_Mod_follows_337 (by decide) ?_
                                                                    refine lv_goto (tgt := 342) hx hb d_Mod_follows_338 (by decide) ?_
                                                                    exact tw_isret E (⟨Or.inr (Or.inl rfl), (by unfold fof; rw [if_neg h3, if_neg (fun q => q h14), if_neg (fun q => q h25), if_neg (fun q => q h36), if_neg (fun q => q h47), if_neg h55, if_neg h61, if_neg h67, if_neg h73, if_neg h79, if_neg h85, if_neg h91, if_neg h97, if_neg h105, if_neg h111, if_neg h118, if_neg (fun q => q h131), if_neg h138, if_neg h145, if_neg (fun q => q h158), if_neg h165, if_neg h172, if_neg h179, if_neg h187, if_neg h193, if_neg h199, if_neg h205, if_neg h211, if_neg (fun q => q (hB7.2 ▸ h218)), if_neg (fun q => q (hB8.2 ▸ h225)), if_neg h231, if_pos h237])⟩) d_Mod_follows_342
                                                                · refine lv_iload_n hx hb d_Mod_follows_240 rfl (lv_at hl 0 rfl) ?_
                                                                  refine lv_bipush (v := 125) hx hb d_Mod_follows_241 (by decide) ?_
                                                                  refine lv_icmp_eq (tgt := 327) hx hb d_Mod_follows_243 (by decide) (fun h243 => ?_) (fun h243 => ?_)
                                                                  · refine lv_iconst (v := 1) hx hb d_Mod_follows_327 (by decide) ?_
                                                                    refine lv_goto (tgt := 332) hx hb d_Mod_follows_328 (by decide) ?_
                                                                    refine lv_istore_n hx hb d_Mod_follows_332 rfl hl (by decide) rfl (fun ls hl => ?_)
                                                                    have hl : lv_has ls 2 [(1, .int 1), (0, .int x)] := hl
                                                                    refine lv_iload_n hx hb d_Mod_follows_333 rfl (lv_at hl 0 rfl) ?_
                                                                    refine lv_if_eq (tgt := 341) hx hb d_Mod_follows_334 (by decide) (fun h334 => ?_) (fun h334 => ?_)
                                                                    · first | exact absurd h334 (by decide) | exact absurd (by decide) h334
                                                                    · refine lv_iconst (v := 0) hx hb d_Mod_follows_337 (by decide) ?_
                                                                      refine lv_goto (tgt := 342) hx hb d_Mod_follows_338 (by decide) ?_
                                                                      exact tw_isret E (⟨Or.inr (Or.inl rfl), (by unfold fof; rw [if_neg h3, if_neg (fun q => q h14), if_neg (fun q => q h25), if_neg (fun q => q h36), if_neg (fun q => q h47), if_neg h55, if_neg h61, if_neg h67, if_neg h73, if_neg h79, if_neg h85, if_neg h91, if_neg h97, if_neg h105, if_neg h111, if_neg h118, if_neg (fun q => q h131), if_neg h138, if_neg h145, if_neg (fun q => q h158), if_neg h165, if_neg h172, if_neg h179, if_neg h187, if_neg h193, if_neg h199, if_neg h205, if_neg h211, if_neg (fun q => q (hB7.2 ▸ h218)), if_neg (fun q => q (hB8.2 ▸ h225)), if_neg h231, if_neg h237, if_pos h243])⟩) d_Mod_follows_342
                                                                  · refine lv_iload_n hx hb d_Mod_follows_246 rfl (lv_at hl 0 rfl) ?_
                                                                    refine lv_bipush (v := 116) hx hb d_Mod_follows_247 (by decide) ?_
                                                                    refine lv_icmp_eq (tgt := 327) hx hb d_Mod_follows_249 (by decide) (fun h249 => ?_) (fun h249 => ?_)
                                                                    · refine lv_iconst (v := 1) hx hb d_Mod_follows_327 (by decide) ?_
                                                                      refine lv_goto (tgt := 332) hx hb d_Mod_follows_328 (by decide) ?_
                                                                      refine lv_istore_n hx hb d_Mod_follows_332 rfl hl (by decide) rfl (fun ls hl => ?_)
                                                                      have hl : lv_has ls 2 [(1, .int 1), (0, .int x)] := hl
                                                                      refine lv_iload_n hx hb d_Mod_follows_333 rfl (lv_at hl 0 rfl) ?_
                                                                      refine lv_if_eq (tgt := 341) hx hb d_Mod_follows_334 (by decide) (fun h334 => ?_) (fun h334 => ?_)
                                                                      · first | exact absurd h334 (by decide) | exact absurd (by decide) h334
                                                                      · refine lv_iconst (v := 0) hx hb d_Mod_follows_337 (by decide) ?_
                                                                        refine lv_goto (tgt := 342) hx hb d_Mod_follows_338 (by decide) ?_
                                                                        exact tw_isret E (⟨Or.inr (Or.inl rfl), (by unfold fof; rw [if_neg h3, if_neg (fun q => q h14), if_neg (fun q => q h25), if_neg (fun q => q h36), if_neg (fun q => q h47), if_neg h55, if_neg h61, if_neg h67, if_neg h73, if_neg h79, if_neg h85, if_neg h91, if_neg h97, if_neg h105, if_neg h111, if_neg h118, if_neg (fun q => q h131), if_neg h138, if_neg h145, if_neg (fun q => q h158), if_neg h165, if_neg h172, if_neg h179, if_neg h187, if_neg h193, if_neg h199, if_neg h205, if_neg h211, if_neg (fun q => q (hB7.2 ▸ h218)), if_neg (fun q => q (hB8.2 ▸ h225)), if_neg h231, if_neg h237, if_neg h243, if_pos h249])⟩) d_Mod_follows_342
                                                                    · refine lv_iload_n hx hb d_Mod_follows_252 rfl (lv_at hl 0 rfl) ?_
                                                                      refine lv_bipush (v := 117) hx hb d_Mod_follows_253 (by decide) ?_
                                                                      refine lv_icmp_eq (tgt := 327) hx hb d_Mod_follows_255 (by decide) (fun h255 => ?_) (fun h255 => ?_)
                                                                      · refine lv_iconst (v := 1) hx hb d_Mod_follows_327 (by decide) ?_
                                                                        refine lv_goto (tgt := 332) hx hb d_Mod_follows_328 (by decide) ?_
                                                                        refine lv_istore_n hx hb d_Mod_follows_332 rfl hl (by decide) rfl (fun ls hl => ?_)
                                                                        have hl : lv_has ls 2 [(1, .int 1), (0, .int x)] := hl
                                                                        refine lv_iload_n hx hb d_Mod_follows_333 rfl (lv_at hl 0 rfl) ?_
                                                                        refine lv_if_eq (tgt := 341) hx hb d_Mod_follows_334 (by decide) (fun h334 => ?_) (fun h334 => ?_)
                                                                        · first | exact absurd h334 (by decide) | exact absurd (by decide) h334
                                                                        · refine lv_iconst (v := 0) hx hb d_Mod_follows_337 (by decide) ?_
                                                                          refine lv_goto (tgt := 342) hx hb d_Mod_follows_338 (by decide) ?_
                                                                          exact tw_isret E (⟨Or.inr (Or.inl rfl), (by unfold fof; rw [if_neg h3, if_neg (fun q => q h14), if_neg (fun q => q h25), if_neg (fun q => q h36), if_neg (fun q => q h47), if_neg h55, if_neg h61, if_neg h67, if_neg h73, if_neg h79, if_neg h85, if_neg h91, if_neg h97, if_neg h105, if_neg h111, if_neg h118, if_neg (fun q => q h131), if_neg h138, if_neg h145, if_neg (fun q => q h158), if_neg h165, if_neg h172, if_neg h179, if_neg h187, if_neg h193, if_neg h199, if_neg h205, if_neg h211, if_neg (fun q => q (hB7.2 ▸ h218)), if_neg (fun q => q (hB8.2 ▸ h225)), if_neg h231, if_neg h237, if_neg h243, if_neg h249, if_pos h255])⟩) d_Mod_follows_342
                                                                      · refine lv_iload_n hx hb d_Mod_follows_258 rfl (lv_at hl 0 rfl) ?_
                                                                        refine lv_sipush (v := 133) hx hb d_Mod_follows_259 (by decide) ?_
                                                                        refine lv_icmp_eq (tgt := 327) hx hb d_Mod_follows_262 (by decide) (fun h262 => ?_) (fun h262 => ?_)
                                                                        · refine lv_iconst (v := 1) hx hb d_Mod_follows_327 (by decide) ?_
                                                                          refine lv_goto (tgt := 332) hx hb d_Mod_follows_328 (by decide) ?_
                                                                          refine lv_istore_n hx hb d_Mod_follows_332 rfl hl (by decide) rfl (fun ls hl => ?_)
                                                                          have hl : lv_has ls 2 [(1, .int 1), (0, .int x)] := hl
                                                                          refine lv_iload_n hx hb d_Mod_follows_333 rfl (lv_at hl 0 rfl) ?_
                                                                          refine lv_if_eq (tgt := 341) hx hb d_Mod_follows_334 (by decide) (fun h334 => ?_) (fun h334 => ?_)
                                                                          · first | exact absurd h334 (by decide) | exact absurd (by decide) h334
                                                                          · refine lv_iconst (v := 0) hx hb d_Mod_follows_337 (by decide) ?_
                                                                            refine lv_goto (tgt := 342) hx hb d_Mod_follows_338 (by decide) ?_
                                                                            exact tw_isret E (⟨Or.inr (Or.inl rfl), (by unfold fof; rw [if_neg h3, if_neg (fun q => q h14), if_neg (fun q => q h25), if_neg (fun q => q h36), if_neg (fun q => q h47), if_neg h55, if_neg h61, if_neg h67, if_neg h73, if_neg h79, if_neg h85, if_neg h91, if_neg h97, if_neg h105, if_neg h111, if_neg h118, if_neg (fun q => q h131), if_neg h138, if_neg h145, if_neg (fun q => q h158), if_neg h165, if_neg h172, if_neg h179, if_neg h187, if_neg h193, if_neg h199, if_neg h205, if_neg h211, if_neg (fun q => q (hB7.2 ▸ h218)), if_neg (fun q => q (hB8.2 ▸ h225)), if_neg h231, if_neg h237, if_neg h243, if_neg h249, if_neg h255, if_pos h262])⟩) d_Mod_follows_342
                                                                        · refine lv_iload_n hx hb d_Mod_follows_265 rfl (lv_at hl 0 rfl) ?_
                                                                          refine lv_sipush (v := 136) hx hb d_Mod_follows_266 (by decide) ?_
                                                                          refine lv_icmp_eq (tgt := 327) hx hb d_Mod_follows_269 (by decide) (fun h269 => ?_) (fun h269 => ?_)
                                                                          · refine lv_iconst (v := 1) hx hb d_Mod_follows_327 (by decide) ?_
                                                                            refine lv_goto (tgt := 332) hx hb d_Mod_follows_328 (by decide) ?_
                                                                            refine lv_istore_n hx hb d_Mod_follows_332 rfl hl (by decide) rfl (fun ls hl => ?_)
                                                                            have hl : lv_has ls 2 [(1, .int 1), (0, .int x)] := hl
                                                                            refine lv_iload_n hx hb d_Mod_follows_333 rfl (lv_at hl 0 rfl) ?_
                                                                            refine lv_if_eq (tgt := 341) hx hb d_Mod_follows_334 (by decide) (fun h334 => ?_) (fun h334 => ?_)
                                                                            · first | exact absurd h334 (by decide) | exact absurd (by decide) h334
                                                                            · refine lv_iconst (v := 0) hx hb d_Mod_follows_337 (by decide) ?_
                                                                              refine lv_goto (tgt := 342) hx hb d_Mod_follows_338 (by decide) ?_
                                                                              exact tw_isret E (⟨Or.inr (Or.inl rfl), (by unfold fof; rw [if_neg h3, if_neg (fun q => q h14), if_neg (fun q => q h25), if_neg (fun q => q h36), if_neg (fun q => q h47), if_neg h55, if_neg h61, if_neg h67, if_neg h73, if_neg h79, if_neg h85, if_neg h91, if_neg h97, if_neg h105, if_neg h111, if_neg h118, if_neg (fun q => q h131), if_neg h138, if_neg h145, if_neg (fun q => q h158), if_neg h165, if_neg h172, if_neg h179, if_neg h187, if_neg h193, if_neg h199, if_neg h205, if_neg h211, if_neg (fun q => q (hB7.2 ▸ h218)), if_neg (fun q => q (hB8.2 ▸ h225)), if_neg h231, if_neg h237, if_neg h243, if_neg h249, if_neg h255, if_neg h262, if_pos h269])⟩) d_Mod_follows_342
                                                                          · refine lv_iload_n hx hb d_Mod_follows_272 rfl (lv_at hl 0 rfl) ?_
                                                                            refine lv_sipush (v := 145) hx hb d_Mod_follows_273 (by decide) ?_
                                                                            refine lv_sipush (v := 148) hx hb d_Mod_follows_276 (by decide) ?_
                                                                            refine tw_si (tw_runS (ws := []) (wc := []) (As := [.int x, .int 145, .int 148]) (rest := []) E hB hK hZ (c_Mod_isIn l g s.heap.size x 145 148) mc_Mod_isIn ms_Mod_isIn wd_1443 hP hD hS hA [] rfl (by decide) rfl rfl (by decide) rfl hl.1 rfl (Nat.le_of_ble_eq_true rfl) (by decide) d_Mod_follows_279) (fun r9 hr9 => ?_)
                                                                            obtain rfl : r9 = is_in x 145 148 := hr9
                                                                            refine lv_if_ne (tgt := 327) hx hb d_Mod_follows_282 (by decide) (fun h282 => ?_) (fun h282 => ?_)
                                                                            · refine lv_iconst (v := 1) hx hb d_Mod_follows_327 (by decide) ?_
                                                                              refine lv_goto (tgt := 332) hx hb d_Mod_follows_328 (by decide) ?_
                                                                              refine lv_istore_n hx hb d_Mod_follows_332 rfl hl (by decide) rfl (fun ls hl => ?_)
                                                                              have hl : lv_has ls 2 [(1, .int 1), (0, .int x)] := hl
                                                                              refine lv_iload_n hx hb d_Mod_follows_333 rfl (lv_at hl 0 rfl) ?_
                                                                              refine lv_if_eq (tgt := 341) hx hb d_Mod_follows_334 (by decide) (fun h334 => ?_) (fun h334 => ?_)
                                                                              · first | exact absurd h334 (by decide) | exact absurd (by decide) h334
                                                                              · refine lv_iconst (v := 0) hx hb d_Mod_follows_337 (by decide) ?_
                                                                                refine lv_goto (tgt := 342) hx hb d_Mod_follows_338 (by decide) ?_
                                                                                exact tw_isret E (⟨Or.inr (Or.inl rfl), (by unfold fof; rw [if_neg h3, if_neg (fun q => q h14), if_neg (fun q => q h25), if_neg (fun q => q h36), if_neg (fun q => q h47), if_neg h55, if_neg h61, if_neg h67, if_neg h73, if_neg h79, if_neg h85, if_neg h91, if_neg h97, if_neg h105, if_neg h111, if_neg h118, if_neg (fun q => q h131), if_neg h138, if_neg h145, if_neg (fun q => q h158), if_neg h165, if_neg h172, if_neg h179, if_neg h187, if_neg h193, if_neg h199, if_neg h205, if_neg h211, if_neg (fun q => q (hB7.2 ▸ h218)), if_neg (fun q => q (hB8.2 ▸ h225)), if_neg h231, if_neg h237, if_neg h243, if_neg h249, if_neg h255, if_neg h262, if_neg h269, if_pos h282])⟩) d_Mod_follows_342
                                                                            · refine lv_iload_n hx hb d_Mod_follows_285 rfl (lv_at hl 0 rfl) ?_
                                                                              refine lv_sipush (v := 172) hx hb d_Mod_follows_286 (by decide) ?_
                                                                              refine lv_icmp_eq (tgt := 327) hx hb d_Mod_follows_289 (by decide) (fun h289 => ?_) (fun h289 => ?_)
                                                                              · refine lv_iconst (v := 1) hx hb d_Mod_follows_327 (by decide) ?_
                                                                                refine lv_goto (tgt := 332) hx hb d_Mod_follows_328 (by decide) ?_
                                                                                refine lv_istore_n hx hb d_Mod_follows_332 rfl hl (by decide) rfl (fun ls hl => ?_)
                                                                                have hl : lv_has ls 2 [(1, .int 1), (0, .int x)] := hl
                                                                                refine lv_iload_n hx hb d_Mod_follows_333 rfl (lv_at hl 0 rfl) ?_
                                                                                refine lv_if_eq (tgt := 341) hx hb d_Mod_follows_334 (by decide) (fun h334 => ?_) (fun h334 => ?_)
                                                                                · first | exact absurd h334 (by decide) | exact absurd (by decide) h334
                                                                                · refine lv_iconst (v := 0) hx hb d_Mod_follows_337 (by decide) ?_
                                                                                  refine lv_goto (tgt := 342) hx hb d_Mod_follows_338 (by decide) ?_
                                                                                  exact tw_isret E (⟨Or.inr (Or.inl rfl), (by unfold fof; rw [if_neg h3, if_neg (fun q => q h14), if_neg (fun q => q h25), if_neg (fun q => q h36), if_neg (fun q => q h47), if_neg h55, if_neg h61, if_neg h67, if_neg h73, if_neg h79, if_neg h85, if_neg h91, if_neg h97, if_neg h105, if_neg h111, if_neg h118, if_neg (fun q => q h131), if_neg h138, if_neg h145, if_neg (fun q => q h158), if_neg h165, if_neg h172, if_neg h179, if_neg h187, if_neg h193, if_neg h199, if_neg h205, if_neg h211, if_neg (fun q => q (hB7.2 ▸ h218)), if_neg (fun q => q (hB8.2 ▸ h225)), if_neg h231, if_neg h237, if_neg h243, if_neg h249, if_neg h255, if_neg h262, if_neg h269, if_neg (fun q => q h282), if_pos h289])⟩) d_Mod_follows_342
                                                                              · refine lv_iload_n hx hb d_Mod_follows_292 rfl (lv_at hl 0 rfl) ?_
                                                                                refine lv_sipush (v := 173) hx hb d_Mod_follows_293 (by decide) ?_
                                                                                refine lv_icmp_eq (tgt := 327) hx hb d_Mod_follows_296 (by decide) (fun h296 => ?_) (fun h296 => ?_)
                                                                                · refine lv_iconst (v := 1) hx hb d_Mod_follows_327 (by decide) ?_
                                                                                  refine lv_goto (tgt := 332) hx hb d_Mod_follows_328 (by decide) ?_
                                                                                  refine lv_istore_n hx hb d_Mod_follows_332 rfl hl (by decide) rfl (fun ls hl => ?_)
                                                                                  have hl : lv_has ls 2 [(1, .int 1), (0, .int x)] := hl
                                                                                  refine lv_iload_n hx hb d_Mod_follows_333 rfl (lv_at hl 0 rfl) ?_
                                                                                  refine lv_if_eq (tgt := 341) hx hb d_Mod_follows_334 (by decide) (fun h334 => ?_) (fun h334 => ?_)
                                                                                  · first | exact absurd h334 (by decide) | exact absurd (by decide) h334
                                                                                  · refine lv_iconst (v := 0) hx hb d_Mod_follows_337 (by decide) ?_
                                                                                    refine lv_goto (tgt := 342) hx hb d_Mod_follows_338 (by decide) ?_
                                                                                    exact tw_isret E (⟨Or.inr (Or.inl rfl), (by unfold fof; rw [if_neg h3, if_neg (fun q => q h14), if_neg (fun q => q h25), if_neg (fun q => q h36), if_neg (fun q => q h47), if_neg h55, if_neg h61, if_neg h67, if_neg h73, if_neg h79, if_neg h85, if_neg h91, if_neg h97, if_neg h105, if_neg h111, if_neg h118, if_neg (fun q => q h131), if_neg h138, if_neg h145, if_neg (fun q => q h158), if_neg h165, if_neg h172, if_neg h179, if_neg h187, if_neg h193, if_neg h199, if_neg h205, if_neg h211, if_neg (fun q => q (hB7.2 ▸ h218)), if_neg (fun q => q (hB8.2 ▸ h225)), if_neg h231, if_neg h237, if_neg h243, if_neg h249, if_neg h255, if_neg h262, if_neg h269, if_neg (fun q => q h282), if_neg h289, if_pos h296])⟩) d_Mod_follows_342
                                                                                · refine lv_iload_n hx hb d_Mod_follows_299 rfl (lv_at hl 0 rfl) ?_
                                                                                  refine lv_sipush (v := 176) hx hb d_Mod_follows_300 (by decide) ?_
                                                                                  refine lv_icmp_eq (tgt := 327) hx hb d_Mod_follows_303 (by decide) (fun h303 => ?_) (fun h303 => ?_)
                                                                                  · refine lv_iconst (v := 1) hx hb d_Mod_follows_327 (by decide) ?_
                                                                                    refine lv_goto (tgt := 332) hx hb d_Mod_follows_328 (by decide) ?_
                                                                                    refine lv_istore_n hx hb d_Mod_follows_332 rfl hl (by decide) rfl (fun ls hl => ?_)
                                                                                    have hl : lv_has ls 2 [(1, .int 1), (0, .int x)] := hl
                                                                                    refine lv_iload_n hx hb d_Mod_follows_333 rfl (lv_at hl 0 rfl) ?_
                                                                                    refine lv_if_eq (tgt := 341) hx hb d_Mod_follows_334 (by decide) (fun h334 => ?_) (fun h334 => ?_)
                                                                                    · first | exact absurd h334 (by decide) | exact absurd (by decide) h334
                                                                                    · refine lv_iconst (v := 0) hx hb d_Mod_follows_337 (by decide) ?_
                                                                                      refine lv_goto (tgt := 342) hx hb d_Mod_follows_338 (by decide) ?_
                                                                                      exact tw_isret E (⟨Or.inr (Or.inl rfl), (by unfold fof; rw [if_neg h3, if_neg (fun q => q h14), if_neg (fun q => q h25), if_neg (fun q => q h36), if_neg (fun q => q h47), if_neg h55, if_neg h61, if_neg h67, if_neg h73, if_neg h79, if_neg h85, if_neg h91, if_neg h97, if_neg h105, if_neg h111, if_neg h118, if_neg (fun q => q h131), if_neg h138, if_neg h145, if_neg (fun q => q h158), if_neg h165, if_neg h172, if_neg h179, if_neg h187, if_neg h193, if_neg h199, if_neg h205, if_neg h211, if_neg (fun q => q (hB7.2 ▸ h218)), if_neg (fun q => q (hB8.2 ▸ h225)), if_neg h231, if_neg h237, if_neg h243, if_neg h249, if_neg h255, if_neg h262, if_neg h269, if_neg (fun q => q h282), if_neg h289, if_neg h296, if_pos h303])⟩) d_Mod_follows_342
                                                                                  · refine lv_iload_n hx hb d_Mod_follows_306 rfl (lv_at hl 0 rfl) ?_
                                                                                    refine lv_sipush (v := 177) hx hb d_Mod_follows_307 (by decide) ?_
                                                                                    refine lv_icmp_eq (tgt := 327) hx hb d_Mod_follows_310 (by decide) (fun h310 => ?_) (fun h310 => ?_)
                                                                                    · refine lv_iconst (v := 1) hx hb d_Mod_follows_327 (by decide) ?_
                                                                                      refine lv_goto (tgt := 332) hx hb d_Mod_follows_328 (by decide) ?_
                                                                                      refine lv_istore_n hx hb d_Mod_follows_332 rfl hl (by decide) rfl (fun ls hl => ?_)
                                                                                      have hl : lv_has ls 2 [(1, .int 1), (0, .int x)] := hl
                                                                                      refine lv_iload_n hx hb d_Mod_follows_333 rfl (lv_at hl 0 rfl) ?_
                                                                                      refine lv_if_eq (tgt := 341) hx hb d_Mod_follows_334 (by decide) (fun h334 => ?_) (fun h334 => ?_)
                                                                                      · first | exact absurd h334 (by decide) | exact absurd (by decide) h334
                                                                                      · refine lv_iconst (v := 0) hx hb d_Mod_follows_337 (by decide) ?_
                                                                                        refine lv_goto (tgt := 342) hx hb d_Mod_follows_338 (by decide) ?_
                                                                                        exact tw_isret E (⟨Or.inr (Or.inl rfl), (by unfold fof; rw [if_neg h3, if_neg (fun q => q h14), if_neg (fun q => q h25), if_neg (fun q => q h36), if_neg (fun q => q h47), if_neg h55, if_neg h61, if_neg h67, if_neg h73, if_neg h79, if_neg h85, if_neg h91, if_neg h97, if_neg h105, if_neg h111, if_neg h118, if_neg (fun q => q h131), if_neg h138, if_neg h145, if_neg (fun q => q h158), if_neg h165, if_neg h172, if_neg h179, if_neg h187, if_neg h193, if_neg h199, if_neg h205, if_neg h211, if_neg (fun q => q (hB7.2 ▸ h218)), if_neg (fun q => q (hB8.2 ▸ h225)), if_neg h231, if_neg h237, if_neg h243, if_neg h249, if_neg h255, if_neg h262, if_neg h269, if_neg (fun q => q h282), if_neg h289, if_neg h296, if_neg h303, if_pos h310])⟩) d_Mod_follows_342
                                                                                    · refine lv_iload_n hx hb d_Mod_follows_313 rfl (lv_at hl 0 rfl) ?_
                                                                                      refine lv_sipush (v := 190) hx hb d_Mod_follows_314 (by decide) ?_
                                                                                      refine lv_icmp_eq (tgt := 327) hx hb d_Mod_follows_317 (by decide) (fun h317 => ?_) (fun h317 => ?_)
                                                                                      · refine lv_iconst (v := 1) hx hb d_Mod_follows_327 (by decide) ?_
                                                                                        refine lv_goto (tgt := 332) hx hb d_Mod_follows_328 (by decide) ?_
                                                                                        refine lv_istore_n hx hb d_Mod_follows_332 rfl hl (by decide) rfl (fun ls hl => ?_)
                                                                                        have hl : lv_has ls 2 [(1, .int 1), (0, .int x)] := hl
                                                                                        refine lv_iload_n hx hb d_Mod_follows_333 rfl (lv_at hl 0 rfl) ?_
                                                                                        refine lv_if_eq (tgt := 341) hx hb d_Mod_follows_334 (by decide) (fun h334 => ?_) (fun h334 => ?_)
                                                                                        · first | exact absurd h334 (by decide) | exact absurd (by decide) h334
                                                                                        · refine lv_iconst (v := 0) hx hb d_Mod_follows_337 (by decide) ?_
                                                                                          refine lv_goto (tgt := 342) hx hb d_Mod_follows_338 (by decide) ?_
                                                                                          exact tw_isret E (⟨Or.inr (Or.inl rfl), (by unfold fof; rw [if_neg h3, if_neg (fun q => q h14), if_neg (fun q => q h25), if_neg (fun q => q h36), if_neg (fun q => q h47), if_neg h55, if_neg h61, if_neg h67, if_neg h73, if_neg h79, if_neg h85, if_neg h91, if_neg h97, if_neg h105, if_neg h111, if_neg h118, if_neg (fun q => q h131), if_neg h138, if_neg h145, if_neg (fun q => q h158), if_neg h165, if_neg h172, if_neg h179, if_neg h187, if_neg h193, if_neg h199, if_neg h205, if_neg h211, if_neg (fun q => q (hB7.2 ▸ h218)), if_neg (fun q => q (hB8.2 ▸ h225)), if_neg h231, if_neg h237, if_neg h243, if_neg h249, if_neg h255, if_neg h262, if_neg h269, if_neg (fun q => q h282), if_neg h289, if_neg h296, if_neg h303, if_neg h310, if_pos h317])⟩) d_Mod_follows_342
                                                                                      · refine lv_iload_n hx hb d_Mod_follows_320 rfl (lv_at hl 0 rfl) ?_
                                                                                        refine lv_sipush (v := 191) hx hb d_Mod_follows_321 (by decide) ?_
                                                                                        refine lv_icmp_ne (tgt := 331) hx hb d_Mod_follows_324 (by decide) (fun h324 => ?_) (fun h324 => ?_)
                                                                                        · refine lv_iconst (v := 0) hx hb d_Mod_follows_331 (by decide) ?_
                                                                                          refine lv_istore_n hx hb d_Mod_follows_332 rfl hl (by decide) rfl (fun ls hl => ?_)
                                                                                          have hl : lv_has ls 2 [(1, .int 0), (0, .int x)] := hl
                                                                                          refine lv_iload_n hx hb d_Mod_follows_333 rfl (lv_at hl 0 rfl) ?_
                                                                                          refine lv_if_eq (tgt := 341) hx hb d_Mod_follows_334 (by decide) (fun h334 => ?_) (fun h334 => ?_)
                                                                                          · refine lv_iconst (v := (-1)) hx hb d_Mod_follows_341 (by decide) ?_
                                                                                            exact tw_isret E (⟨Or.inl rfl, (by unfold fof; rw [if_neg h3, if_neg (fun q => q h14), if_neg (fun q => q h25), if_neg (fun q => q h36), if_neg (fun q => q h47), if_neg h55, if_neg h61, if_neg h67, if_neg h73, if_neg h79, if_neg h85, if_neg h91, if_neg h97, if_neg h105, if_neg h111, if_neg h118, if_neg (fun q => q h131), if_neg h138, if_neg h145, if_neg (fun q => q h158), if_neg h165, if_neg h172, if_neg h179, if_neg h187, if_neg h193, if_neg h199, if_neg h205, if_neg h211, if_neg (fun q => q (hB7.2 ▸ h218)), if_neg (fun q => q (hB8.2 ▸ h225)), if_neg h231, if_neg h237, if_neg h243, if_neg h249, if_neg h255, if_neg h262, if_neg h269, if_neg (fun q => q h282), if_neg h289, if_neg h296, if_neg h303, if_neg h310, if_neg h317, if_neg h324])⟩) d_Mod_follows_342
                                                                                          · first | exact absurd h334 (by decide) | exact absurd (by decide) h334
                                                                                        · refine lv_iconst (v := 1) hx hb d_Mod_follows_327 (by decide) ?_
                                                                                          refine lv_goto (tgt := 332) hx hb d_Mod_follows_328 (by decide) ?_
                                                                                          refine lv_istore_n hx hb d_Mod_follows_332 rfl hl (by decide) rfl (fun ls hl => ?_)
                                                                                          have hl : lv_has ls 2 [(1, .int 1), (0, .int x)] := hl
                                                                                          refine lv_iload_n hx hb d_Mod_follows_333 rfl (lv_at hl 0 rfl) ?_
                                                                                          refine lv_if_eq (tgt := 341) hx hb d_Mod_follows_334 (by decide) (fun h334 => ?_) (fun h334 => ?_)
                                                                                          · first | exact absurd h334 (by decide) | exact absurd (by decide) h334
                                                                                          · refine lv_iconst (v := 0) hx hb d_Mod_follows_337 (by decide) ?_
                                                                                            refine lv_goto (tgt := 342) hx hb d_Mod_follows_338 (by decide) ?_
                                                                                            exact tw_isret E (⟨Or.inr (Or.inl rfl), (by unfold fof; rw [if_neg h3, if_neg (fun q => q h14), if_neg (fun q => q h25), if_neg (fun q => q h36), if_neg (fun q => q h47), if_neg h55, if_neg h61, if_neg h67, if_neg h73, if_neg h79, if_neg h85, if_neg h91, if_neg h97, if_neg h105, if_neg h111, if_neg h118, if_neg (fun q => q h131), if_neg h138, if_neg h145, if_neg (fun q => q h158), if_neg h165, if_neg h172, if_neg h179, if_neg h187, if_neg h193, if_neg h199, if_neg h205, if_neg h211, if_neg (fun q => q (hB7.2 ▸ h218)), if_neg (fun q => q (hB8.2 ▸ h225)), if_neg h231, if_neg h237, if_neg h243, if_neg h249, if_neg h255, if_neg h262, if_neg h269, if_neg (fun q => q h282), if_neg h289, if_neg h296, if_neg h303, if_neg h310, if_neg h317, if_pos h324])⟩) d_Mod_follows_342
                                              · refine lv_iconst (v := 2) hx hb d_Mod_follows_182 (by decide) ?_
                                                exact tw_isret E (⟨Or.inr (Or.inr (Or.inr rfl)), (by unfold fof; rw [if_neg h3, if_neg (fun q => q h14), if_neg (fun q => q h25), if_neg (fun q => q h36), if_neg (fun q => q h47), if_neg h55, if_neg h61, if_neg h67, if_neg h73, if_neg h79, if_neg h85, if_neg h91, if_neg h97, if_neg h105, if_neg h111, if_neg h118, if_neg (fun q => q h131), if_neg h138, if_neg h145, if_neg (fun q => q h158), if_neg h165, if_neg h172, if_pos h179])⟩) d_Mod_follows_183
                          · refine lv_iconst (v := 1) hx hb d_Mod_follows_100 (by decide) ?_
                            exact tw_isret E (⟨Or.inr (Or.inr (Or.inl rfl)), (by unfold fof; rw [if_neg h3, if_neg (fun q => q h14), if_neg (fun q => q h25), if_neg (fun q => q h36), if_neg (fun q => q h47), if_neg h55, if_neg h61, if_neg h67, if_neg h73, if_neg h79, if_neg h85, if_neg h91, if_pos h97])⟩) d_Mod_follows_101
          · refine lv_iconst (v := 0) hx hb d_Mod_follows_50 (by decide) ?_
            exact tw_isret E (⟨Or.inr (Or.inl rfl), (by unfold fof; rw [if_neg h3, if_neg (fun q => q h14), if_neg (fun q => q h25), if_neg (fun q => q h36), if_pos h47])⟩) d_Mod_follows_51
