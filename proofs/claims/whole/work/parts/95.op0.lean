set_option maxHeartbeats 4000000 in
set_option maxRecDepth 100000 in
theorem e_Opcodes_isWithin (l : Launch) (g : tw_G) (sz : Nat) (a b d : Int32) : Met l y_Opcodes_isWithin [.code y_Opcodes_isWithin b_Opcodes_isWithin 3 (some .boolean)] ({ frames := 0, cells := 0, slots := 0, locals := 0 }) (tw_P g [.int a, .int b, .int d] [] sz) (vp_Si (fun r => r = if b ≤ a ∧ a ≤ d then 1 else 0)) 0 0 (fun _ => False) := by
  refine tw_met (l := l) (g := g) (y := y_Opcodes_isWithin) (cc := b_Opcodes_isWithin) (maxL := 3) (ret := (some .boolean)) (rm := { frames := 0, cells := 0, slots := 0, locals := 0 }) (mc := 0) (ms := 0) (av := [.int a, .int b, .int d]) (ws := []) (sz := sz) (Qc := fun _ => (vp_Si (fun r => r = if b ≤ a ∧ a ≤ d then 1 else 0))) (free := fun _ _ => False) (by decide) (Nat.le_of_ble_eq_true rfl) ?_
  intro p e s m below meth c ls A E hB hK hZ hP hD hS hA hl
  obtain ⟨hx, hb, hml, hr, hown, hts, hlocks, hin⟩ := id E
  have hl : lv_has ls 3 [(0, .int a), (1, .int b), (2, .int d)] := hl
  refine lv_iload_n hx hb d_Opcodes_isWithin_0 rfl (lv_at hl 0 rfl) ?_
  refine lv_iload_n hx hb d_Opcodes_isWithin_1 rfl (lv_at hl 1 rfl) ?_
  refine lv_icmp_lt (tgt := 14) hx hb d_Opcodes_isWithin_2 (by decide) (fun h2 => ?_) (fun h2 => ?_)
  · refine lv_iconst (v := 0) hx hb d_Opcodes_isWithin_14 (by decide) ?_
    exact tw_zsret E (by decide) ((if_neg (fun q => by first | exact absurd q.1 (Int32.not_le.mpr h2) | exact absurd q.2 (Int32.not_le.mpr h7) | exact absurd q.2 h7)).symm) d_Opcodes_isWithin_15
  · refine lv_iload_n hx hb d_Opcodes_isWithin_5 rfl (lv_at hl 0 rfl) ?_
    refine lv_iload_n hx hb d_Opcodes_isWithin_6 rfl (lv_at hl 2 rfl) ?_
    refine lv_icmp_gt (tgt := 14) hx hb d_Opcodes_isWithin_7 (by decide) (fun h7 => ?_) (fun h7 => ?_)
    · refine lv_iconst (v := 0) hx hb d_Opcodes_isWithin_14 (by decide) ?_
      exact tw_zsret E (by decide) ((if_neg (fun q => by first | exact absurd q.1 (Int32.not_le.mpr h2) | exact absurd q.2 (Int32.not_le.mpr h7) | exact absurd q.2 h7)).symm) d_Opcodes_isWithin_15
    · refine lv_iconst (v := 1) hx hb d_Opcodes_isWithin_10 (by decide) ?_
      refine lv_goto (tgt := 15) hx hb d_Opcodes_isWithin_11 (by decide) ?_
      exact tw_zsret E (by decide) ((if_pos ⟨Int32.not_lt.mp h2, by first | exact Int32.not_lt.mp h7 | exact h7⟩).symm) d_Opcodes_isWithin_15
set_option maxHeartbeats 4000000 in
set_option maxRecDepth 100000 in
theorem z_Opcodes_isAlone (l : Launch) (g : tw_G) (sz : Nat)  : Met l y_Opcodes_isAlone [.code y_Opcodes_isAlone b_Opcodes_isAlone 1 (some .boolean)] ({ frames := 1, cells := 0, slots := 0, locals := 22 }) (tw_P g [.int 0] [] sz) (vp_Si (fun r => r = 1)) 0 0 (fun _ => False) := by
  refine tw_met (l := l) (g := g) (y := y_Opcodes_isAlone) (cc := b_Opcodes_isAlone) (maxL := 1) (ret := (some .boolean)) (rm := { frames := 1, cells := 0, slots := 0, locals := 22 }) (mc := 0) (ms := 0) (av := [.int 0]) (ws := []) (sz := sz) (Qc := fun _ => (vp_Si (fun r => r = 1))) (free := fun _ _ => False) (by decide) (Nat.le_of_ble_eq_true rfl) ?_
  intro p e s m below meth c ls A E hB hK hZ hP hD hS hA hl
  obtain ⟨hx, hb, hml, hr, hown, hts, hlocks, hin⟩ := id E
  have hl : lv_has ls 1 [(0, .int 0)] := hl
  refine lv_iload_n hx hb d_Opcodes_isAlone_0 rfl (lv_at hl 0 rfl) ?_
  refine lv_lookup (tgt := 94) (off := 93) hx hb d_Opcodes_isAlone_1 (by decide) (by decide) (by decide) ?_
  refine lv_iload_n hx hb d_Opcodes_isAlone_94 rfl (lv_at hl 0 rfl) ?_
  refine lv_iconst (v := 0) hx hb d_Opcodes_isAlone_95 (by decide) ?_
  refine lv_bipush (v := 10) hx hb d_Opcodes_isAlone_96 (by decide) ?_
  refine tw_si (tw_runS (ws := []) (wc := []) (As := [.int 0, .int 0, .int 10]) (rest := []) E hB hK hZ (e_Opcodes_isWithin l g s.heap.size 0 0 10) mc_Opcodes_isWithin ms_Opcodes_isWithin wd_719 hP hD hS hA [] rfl (by decide) rfl rfl (by decide) rfl hl.1 rfl (Nat.le_of_ble_eq_true rfl) (by decide) d_Opcodes_isAlone_98) (fun r1 hr1 => ?_)
  obtain rfl : r1 = 1 := hr1.trans (by decide)
  refine lv_if_ne (tgt := 179) hx hb d_Opcodes_isAlone_101 (by decide) (fun h101 => ?_) (fun h101 => ?_)
  · refine lv_iconst (v := 1) hx hb d_Opcodes_isAlone_179 (by decide) ?_
    refine lv_goto (tgt := 184) hx hb d_Opcodes_isAlone_180 (by decide) ?_
    exact tw_zsret E (by decide) rfl d_Opcodes_isAlone_184
  · first | exact absurd h101 (by decide) | exact absurd (by decide) h101
set_option maxHeartbeats 4000000 in
set_option maxRecDepth 100000 in
theorem z_Opcodes_lengthOf (l : Launch) (g : tw_G) (sz : Nat)  : Met l y_Opcodes_lengthOf [.code y_Opcodes_lengthOf b_Opcodes_lengthOf 1 (some .int)] ({ frames := 2, cells := 0, slots := 0, locals := 42 }) (tw_P g [.int 0] [] sz) (vp_Si (fun r => r = 1)) 0 0 (fun _ => False) := by
  refine tw_met (l := l) (g := g) (y := y_Opcodes_lengthOf) (cc := b_Opcodes_lengthOf) (maxL := 1) (ret := (some .int)) (rm := { frames := 2, cells := 0, slots := 0, locals := 42 }) (mc := 0) (ms := 0) (av := [.int 0]) (ws := []) (sz := sz) (Qc := fun _ => (vp_Si (fun r => r = 1))) (free := fun _ _ => False) (by decide) (Nat.le_of_ble_eq_true rfl) ?_
  intro p e s m below meth c ls A E hB hK hZ hP hD hS hA hl
  obtain ⟨hx, hb, hml, hr, hown, hts, hlocks, hin⟩ := id E
  have hl : lv_has ls 1 [(0, .int 0)] := hl
  refine lv_iload_n hx hb d_Opcodes_lengthOf_0 rfl (lv_at hl 0 rfl) ?_
  refine lv_lookup (tgt := 144) (off := 143) hx hb d_Opcodes_lengthOf_1 (by decide) (by decide) (by decide) ?_
  refine lv_iload_n hx hb d_Opcodes_lengthOf_144 rfl (lv_at hl 0 rfl) ?_
  refine lv_sipush (v := 153) hx hb d_Opcodes_lengthOf_145 (by decide) ?_
  refine lv_sipush (v := 167) hx hb d_Opcodes_lengthOf_148 (by decide) ?_
  refine tw_si (tw_runS (ws := []) (wc := []) (As := [.int 0, .int 153, .int 167]) (rest := []) E hB hK hZ (e_Opcodes_isWithin l g s.heap.size 0 153 167) mc_Opcodes_isWithin ms_Opcodes_isWithin wd_719 hP hD hS hA [] rfl (by decide) rfl rfl (by decide) rfl hl.1 rfl (Nat.le_of_ble_eq_true rfl) (by decide) d_Opcodes_lengthOf_151) (fun r1 hr1 => ?_)
  obtain rfl : r1 = 0 := hr1.trans (by decide)
  refine lv_if_ne (tgt := 170) hx hb d_Opcodes_lengthOf_154 (by decide) (fun h154 => ?_) (fun h154 => ?_)
  · first | exact absurd h154 (by decide) | exact absurd (by decide) h154
  · refine lv_iload_n hx hb d_Opcodes_lengthOf_157 rfl (lv_at hl 0 rfl) ?_
    refine lv_sipush (v := 178) hx hb d_Opcodes_lengthOf_158 (by decide) ?_
    refine lv_sipush (v := 184) hx hb d_Opcodes_lengthOf_161 (by decide) ?_
    refine tw_si (tw_runS (ws := []) (wc := []) (As := [.int 0, .int 178, .int 184]) (rest := []) E hB hK hZ (e_Opcodes_isWithin l g s.heap.size 0 178 184) mc_Opcodes_isWithin ms_Opcodes_isWithin wd_719 hP hD hS hA [] rfl (by decide) rfl rfl (by decide) rfl hl.1 rfl (Nat.le_of_ble_eq_true rfl) (by decide) d_Opcodes_lengthOf_164) (fun r2 hr2 => ?_)
    obtain rfl : r2 = 0 := hr2.trans (by decide)
    refine lv_if_eq (tgt := 172) hx hb d_Opcodes_lengthOf_167 (by decide) (fun h167 => ?_) (fun h167 => ?_)
    · refine lv_iload_n hx hb d_Opcodes_lengthOf_172 rfl (lv_at hl 0 rfl) ?_
      refine tw_si (tw_runS (ws := []) (wc := []) (As := [.int 0]) (rest := []) E hB hK hZ (z_Opcodes_isAlone l g s.heap.size ) mc_Opcodes_isAlone ms_Opcodes_isAlone wd_722 hP hD hS hA [] rfl (by decide) rfl rfl (by decide) rfl hl.1 rfl (Nat.le_of_ble_eq_true rfl) (by decide) d_Opcodes_lengthOf_173) (fun r3 hr3 => ?_)
      obtain rfl : r3 = 1 := hr3
      refine lv_if_eq (tgt := 183) hx hb d_Opcodes_lengthOf_176 (by decide) (fun h176 => ?_) (fun h176 => ?_)
      · first | exact absurd h176 (by decide) | exact absurd (by decide) h176
      · refine lv_iconst (v := 1) hx hb d_Opcodes_lengthOf_179 (by decide) ?_
        refine lv_goto (tgt := 184) hx hb d_Opcodes_lengthOf_180 (by decide) ?_
        exact tw_isret E rfl d_Opcodes_lengthOf_184
    · first | exact absurd h167 (by decide) | exact absurd (by decide) h167
