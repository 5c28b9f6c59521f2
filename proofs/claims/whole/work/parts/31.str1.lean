set_option maxHeartbeats 4000000 in
set_option maxRecDepth 100000 in
theorem s_Str_coder (l : Launch) (g : tw_G) (sz : Nat) (i : Nat) (hi : i < 25) : Met l y_Str_coder [.code y_Str_coder b_Str_coder 1 (some .byte)] ({ frames := 0, cells := 0, slots := 0, locals := 0 }) (tw_P g [.ref (g.2.2.1 i)] [] sz) (vp_Si (fun r => r = 0)) 0 0 (fun _ => False) := by
  refine tw_met (l := l) (g := g) (y := y_Str_coder) (cc := b_Str_coder) (maxL := 1) (ret := (some .byte)) (rm := { frames := 0, cells := 0, slots := 0, locals := 0 }) (mc := 0) (ms := 0) (av := [.ref (g.2.2.1 i)]) (ws := []) (sz := sz) (Qc := fun _ => (vp_Si (fun r => r = 0))) (free := fun _ _ => False) (by decide) (Nat.le_of_ble_eq_true rfl) ?_
  intro p e s m below meth c ls A E hB hK hZ hP hD hS hA hl
  obtain ⟨hx, hb, hml, hr, hown, hts, hlocks, hin⟩ := id E
  have hl : lv_has ls 1 [(0, .ref (g.2.2.1 i))] := hl
  have hO1 : va_OF "java/lang/String" "coder" "B" (.int 0) (g.2.2.1 i) A s s.heap := ((hZ.2.2.1 i hi).1.1 0 (by decide)).2.1
  have hO2 : va_OF "java/lang/String" "value" "[B" (.ref (g.2.2.2 i)) (g.2.2.1 i) A s s.heap := ((hZ.2.2.1 i hi).1.1 0 (by decide)).2.2.1
  have hT : va_T .byte (g.2.2.2 i) (sl i) (fun j => .int ((st_own i).2.2.2.getD j 0)) A s s.heap := ((hZ.2.2.1 i hi).1.1 0 (by decide)).2.2.2
  refine va_gets (v := .int 1) hx hb hZ.2.2.2.1 hS hown (hts _ wd_471) (fun _ h9 => h9) d_Str_coder_0 ?_
  refine lv_if_eq (tgt := 13) hx hb d_Str_coder_3 (by decide) (fun h3 => ?_) (fun h3 => ?_)
  · first | exact absurd h3 (by decide) | exact absurd (by decide) h3
  · refine lv_aload_n hx hb d_Str_coder_6 rfl (lv_at hl 0 rfl) ?_
    refine vk_getf (v := .int 0) hx hb hO1 hS hown (hts _ wd_1754) (fun _ h9 => h9) d_Str_coder_7 ?_
    refine lv_goto (tgt := 14) hx hb d_Str_coder_10 (by decide) ?_
    exact tw_zsret E (by decide) rfl d_Str_coder_14
set_option maxHeartbeats 4000000 in
set_option maxRecDepth 100000 in
theorem s_Str_isLatin1 (l : Launch) (g : tw_G) (sz : Nat) (i : Nat) (hi : i < 25) : Met l y_Str_isLatin1 [.code y_Str_isLatin1 b_Str_isLatin1 1 (some .boolean)] ({ frames := 0, cells := 0, slots := 0, locals := 0 }) (tw_P g [.ref (g.2.2.1 i)] [] sz) (vp_Si (fun r => r = 1)) 0 0 (fun _ => False) := by
  refine tw_met (l := l) (g := g) (y := y_Str_isLatin1) (cc := b_Str_isLatin1) (maxL := 1) (ret := (some .boolean)) (rm := { frames := 0, cells := 0, slots := 0, locals := 0 }) (mc := 0) (ms := 0) (av := [.ref (g.2.2.1 i)]) (ws := []) (sz := sz) (Qc := fun _ => (vp_Si (fun r => r = 1))) (free := fun _ _ => False) (by decide) (Nat.le_of_ble_eq_true rfl) ?_
  intro p e s m below meth c ls A E hB hK hZ hP hD hS hA hl
  obtain ⟨hx, hb, hml, hr, hown, hts, hlocks, hin⟩ := id E
  have hl : lv_has ls 1 [(0, .ref (g.2.2.1 i))] := hl
  have hO1 : va_OF "java/lang/String" "coder" "B" (.int 0) (g.2.2.1 i) A s s.heap := ((hZ.2.2.1 i hi).1.1 0 (by decide)).2.1
  have hO2 : va_OF "java/lang/String" "value" "[B" (.ref (g.2.2.2 i)) (g.2.2.1 i) A s s.heap := ((hZ.2.2.1 i hi).1.1 0 (by decide)).2.2.1
  have hT : va_T .byte (g.2.2.2 i) (sl i) (fun j => .int ((st_own i).2.2.2.getD j 0)) A s s.heap := ((hZ.2.2.1 i hi).1.1 0 (by decide)).2.2.2
  refine va_gets (v := .int 1) hx hb hZ.2.2.2.1 hS hown (hts _ wd_471) (fun _ h9 => h9) d_Str_isLatin1_0 ?_
  refine lv_if_eq (tgt := 17) hx hb d_Str_isLatin1_3 (by decide) (fun h3 => ?_) (fun h3 => ?_)
  · first | exact absurd h3 (by decide) | exact absurd (by decide) h3
  · refine lv_aload_n hx hb d_Str_isLatin1_6 rfl (lv_at hl 0 rfl) ?_
    refine vk_getf (v := .int 0) hx hb hO1 hS hown (hts _ wd_1754) (fun _ h9 => h9) d_Str_isLatin1_7 ?_
    refine lv_if_ne (tgt := 17) hx hb d_Str_isLatin1_10 (by decide) (fun h10 => ?_) (fun h10 => ?_)
    · first | exact absurd h10 (by decide) | exact absurd (by decide) h10
    · refine lv_iconst (v := 1) hx hb d_Str_isLatin1_13 (by decide) ?_
      refine lv_goto (tgt := 18) hx hb d_Str_isLatin1_14 (by decide) ?_
      exact tw_zsret E (by decide) rfl d_Str_isLatin1_18
set_option maxHeartbeats 4000000 in
set_option maxRecDepth 100000 in
theorem s_Str_length (l : Launch) (g : tw_G) (sz : Nat) (i : Nat) (hi : i < 25) : Met l y_Str_length [.code y_Str_length b_Str_length 1 (some .int)] ({ frames := 1, cells := 0, slots := 0, locals := 20 }) (tw_P g [.ref (g.2.2.1 i)] [] sz) (vp_Si (fun r => r = nI (sl i))) 0 0 (fun _ => False) := by
  refine tw_met (l := l) (g := g) (y := y_Str_length) (cc := b_Str_length) (maxL := 1) (ret := (some .int)) (rm := { frames := 1, cells := 0, slots := 0, locals := 20 }) (mc := 0) (ms := 0) (av := [.ref (g.2.2.1 i)]) (ws := []) (sz := sz) (Qc := fun _ => (vp_Si (fun r => r = nI (sl i)))) (free := fun _ _ => False) (by decide) (Nat.le_of_ble_eq_true rfl) ?_
  intro p e s m below meth c ls A E hB hK hZ hP hD hS hA hl
  obtain ⟨hx, hb, hml, hr, hown, hts, hlocks, hin⟩ := id E
  have hl : lv_has ls 1 [(0, .ref (g.2.2.1 i))] := hl
  have hO1 : va_OF "java/lang/String" "coder" "B" (.int 0) (g.2.2.1 i) A s s.heap := ((hZ.2.2.1 i hi).1.1 0 (by decide)).2.1
  have hO2 : va_OF "java/lang/String" "value" "[B" (.ref (g.2.2.2 i)) (g.2.2.1 i) A s s.heap := ((hZ.2.2.1 i hi).1.1 0 (by decide)).2.2.1
  have hT : va_T .byte (g.2.2.2 i) (sl i) (fun j => .int ((st_own i).2.2.2.getD j 0)) A s s.heap := ((hZ.2.2.1 i hi).1.1 0 (by decide)).2.2.2
  refine lv_aload_n hx hb d_Str_length_0 rfl (lv_at hl 0 rfl) ?_
  refine vk_getf (v := .ref (g.2.2.2 i)) hx hb hO2 hS hown (hts _ wd_1753) (fun _ h9 => h9) d_Str_length_1 ?_
  refine va_tlen (v := nI (sl i)) hx hb hT hS rfl d_Str_length_4 ?_
  refine lv_aload_n hx hb d_Str_length_5 rfl (lv_at hl 0 rfl) ?_
  refine tw_si (tw_runK (ws := []) (As := []) (rest := [.int (nI (sl i))]) E hB hK hZ (s_Str_coder l g s.heap.size i hi) mc_Str_coder mi_Str_coder me_Str_coder wd_467 hP hD hS hA (vk_recv (i := 0) (hZ.2.2.1 i hi).1 (by decide) hS) rfl rfl (by decide) rfl hl.1 rfl (Nat.le_of_ble_eq_true rfl) (by decide) d_Str_length_6) (fun r1 hr1 => ?_)
  obtain rfl : r1 = 0 := hr1
  refine lv_ishr hx hb d_Str_length_9 ?_
  refine tw_ri (e2 := nI (sl i)) (tn_sh0 _) ?_
  exact tw_isret E rfl d_Str_length_10
set_option maxHeartbeats 4000000 in
set_option maxRecDepth 100000 in
theorem s_Prec_checkIndex0 (l : Launch) (g : tw_G) (sz : Nat) (x n : Int32) (hx0 : ¬ x < 0) (hx1 : x < n) : Met l y_Prec_checkIndex [.code y_Prec_checkIndex b_Prec_checkIndex 3 (some .int)] ({ frames := 0, cells := 0, slots := 0, locals := 0 }) (tw_P g [.int x, .int n, .null] [] sz) (vp_Si (fun r => r = x)) 0 0 (fun _ => False) := by
  refine tw_met (l := l) (g := g) (y := y_Prec_checkIndex) (cc := b_Prec_checkIndex) (maxL := 3) (ret := (some .int)) (rm := { frames := 0, cells := 0, slots := 0, locals := 0 }) (mc := 0) (ms := 0) (av := [.int x, .int n, .null]) (ws := []) (sz := sz) (Qc := fun _ => (vp_Si (fun r => r = x))) (free := fun _ _ => False) (by decide) (Nat.le_of_ble_eq_true rfl) ?_
  intro p e s m below meth c ls A E hB hK hZ hP hD hS hA hl
  obtain ⟨hx, hb, hml, hr, hown, hts, hlocks, hin⟩ := id E
  have hl : lv_has ls 3 [(0, .int x), (1, .int n), (2, .null)] := hl
  refine lv_iload_n hx hb d_Prec_checkIndex_0 rfl (lv_at hl 0 rfl) ?_
  refine lv_if_lt (tgt := 9) hx hb d_Prec_checkIndex_1 (by decide) (fun h1 => ?_) (fun h1 => ?_)
  · exact absurd h1 hx0
  · refine lv_iload_n hx hb d_Prec_checkIndex_4 rfl (lv_at hl 0 rfl) ?_
    refine lv_iload_n hx hb d_Prec_checkIndex_5 rfl (lv_at hl 1 rfl) ?_
    refine lv_icmp_lt (tgt := 16) hx hb d_Prec_checkIndex_6 (by decide) (fun h6 => ?_) (fun h6 => ?_)
    · refine lv_iload_n hx hb d_Prec_checkIndex_16 rfl (lv_at hl 0 rfl) ?_
      exact tw_isret E rfl d_Prec_checkIndex_17
    · exact absurd hx1 h6
set_option maxHeartbeats 4000000 in
set_option maxRecDepth 100000 in
theorem s_Prec_checkIndex1 (l : Launch) (g : tw_G) (sz : Nat) (x n : Int32) (t9 : Nat) (hx0 : ¬ x < 0) (hx1 : x < n) : Met l y_Prec_checkIndex [.code y_Prec_checkIndex b_Prec_checkIndex 3 (some .int)] ({ frames := 0, cells := 0, slots := 0, locals := 0 }) (tw_P g [.int x, .int n, .ref t9] [] sz) (vp_Si (fun r => r = x)) 0 0 (fun _ => False) := by
  refine tw_met (l := l) (g := g) (y := y_Prec_checkIndex) (cc := b_Prec_checkIndex) (maxL := 3) (ret := (some .int)) (rm := { frames := 0, cells := 0, slots := 0, locals := 0 }) (mc := 0) (ms := 0) (av := [.int x, .int n, .ref t9]) (ws := []) (sz := sz) (Qc := fun _ => (vp_Si (fun r => r = x))) (free := fun _ _ => False) (by decide) (Nat.le_of_ble_eq_true rfl) ?_
  intro p e s m below meth c ls A E hB hK hZ hP hD hS hA hl
  obtain ⟨hx, hb, hml, hr, hown, hts, hlocks, hin⟩ := id E
  have hl : lv_has ls 3 [(0, .int x), (1, .int n), (2, .ref t9)] := hl
  refine lv_iload_n hx hb d_Prec_checkIndex_0 rfl (lv_at hl 0 rfl) ?_
  refine lv_if_lt (tgt := 9) hx hb d_Prec_checkIndex_1 (by decide) (fun h1 => ?_) (fun h1 => ?_)
  · exact absurd h1 hx0
  · refine lv_iload_n hx hb d_Prec_checkIndex_4 rfl (lv_at hl 0 rfl) ?_
    refine lv_iload_n hx hb d_Prec_checkIndex_5 rfl (lv_at hl 1 rfl) ?_
    refine lv_icmp_lt (tgt := 16) hx hb d_Prec_checkIndex_6 (by decide) (fun h6 => ?_) (fun h6 => ?_)
    · refine lv_iload_n hx hb d_Prec_checkIndex_16 rfl (lv_at hl 0 rfl) ?_
      exact tw_isret E rfl d_Prec_checkIndex_17
    · exact absurd hx1 h6
set_option maxHeartbeats 4000000 in
set_option maxRecDepth 100000 in
theorem s_Str_checkIndex (l : Launch) (g : tw_G) (sz : Nat) (x n : Int32) (hx0 : ¬ x < 0) (hx1 : x < n) : Met l y_Str_checkIndex [.code y_Str_checkIndex b_Str_checkIndex 2 none] ({ frames := 1, cells := 0, slots := 0, locals := 22 }) (tw_P g [.int x, .int n] [] sz) vp_Sv 0 0 (fun _ => False) := by
  refine tw_met (l := l) (g := g) (y := y_Str_checkIndex) (cc := b_Str_checkIndex) (maxL := 2) (ret := none) (rm := { frames := 1, cells := 0, slots := 0, locals := 22 }) (mc := 0) (ms := 0) (av := [.int x, .int n]) (ws := []) (sz := sz) (Qc := fun _ => vp_Sv) (free := fun _ _ => False) (by decide) (Nat.le_of_ble_eq_true rfl) ?_
  intro p e s m below meth c ls A E hB hK hZ hP hD hS hA hl
  obtain ⟨hx, hb, hml, hr, hown, hts, hlocks, hin⟩ := id E
  have hl : lv_has ls 2 [(0, .int x), (1, .int n)] := hl
  refine lv_iload_n hx hb d_Str_checkIndex_0 rfl (lv_at hl 0 rfl) ?_
  refine lv_iload_n hx hb d_Str_checkIndex_1 rfl (lv_at hl 1 rfl) ?_
  rcases hZ.2.2.2.2 with h9 | ⟨t9, h9⟩
  · refine va_gets (v := .null) hx hb h9 hS hown (hts _ wd_488) (fun _ h8 => h8) d_Str_checkIndex_2 ?_
    refine tw_si (tw_runS (ws := []) (wc := []) (As := [.int x, .int n, .null]) (rest := []) E hB hK hZ (s_Prec_checkIndex0 l g s.heap.size x n hx0 hx1) mc_Prec_checkIndex ms_Prec_checkIndex wd_490 hP hD hS hA [] rfl (by decide) rfl rfl (by decide) rfl hl.1 rfl (Nat.le_of_ble_eq_true rfl) (by decide) d_Str_checkIndex_5) (fun r1 hr1 => ?_)
    refine lv_pop hx hb d_Str_checkIndex_8 rfl ?_
    exact tw_svret E d_Str_checkIndex_9
  · refine va_gets (v := .ref t9) hx hb h9 hS hown (hts _ wd_488) (fun _ h8 => h8) d_Str_checkIndex_2 ?_
    refine tw_si (tw_runS (ws := []) (wc := []) (As := [.int x, .int n, .ref t9]) (rest := []) E hB hK hZ (s_Prec_checkIndex1 l g s.heap.size x n t9 hx0 hx1) mc_Prec_checkIndex ms_Prec_checkIndex wd_490 hP hD hS hA [] rfl (by decide) rfl rfl (by decide) rfl hl.1 rfl (Nat.le_of_ble_eq_true rfl) (by decide) d_Str_checkIndex_5) (fun r2 hr2 => ?_)
    refine lv_pop hx hb d_Str_checkIndex_8 rfl ?_
    exact tw_svret E d_Str_checkIndex_9
set_option maxHeartbeats 4000000 in
set_option maxRecDepth 100000 in
theorem s_Latin_charAt (l : Launch) (g : tw_G) (sz : Nat) (i : Nat) (x : Int32) (hi : i < 25) (hx0 : ¬ x < 0) (hx1 : x < nI (sl i)) : Met l y_Latin_charAt [.code y_Latin_charAt b_Latin_charAt 2 (some .char)] ({ frames := 2, cells := 0, slots := 0, locals := 43 }) (tw_P g [.ref (g.2.2.2 i), .int x] [] sz) (vp_Si (fun r => narrow .char (.int r) = .int r)) 0 0 (fun _ => False) := by
  refine tw_met (l := l) (g := g) (y := y_Latin_charAt) (cc := b_Latin_charAt) (maxL := 2) (ret := (some .char)) (rm := { frames := 2, cells := 0, slots := 0, locals := 43 }) (mc := 0) (ms := 0) (av := [.ref (g.2.2.2 i), .int x]) (ws := []) (sz := sz) (Qc := fun _ => (vp_Si (fun r => narrow .char (.int r) = .int r))) (free := fun _ _ => False) (by decide) (Nat.le_of_ble_eq_true rfl) ?_
  intro p e s m below meth c ls A E hB hK hZ hP hD hS hA hl
  obtain ⟨hx, hb, hml, hr, hown, hts, hlocks, hin⟩ := id E
  have hl : lv_has ls 2 [(0, .ref (g.2.2.2 i)), (1, .int x)] := hl
  have hT : va_T .byte (g.2.2.2 i) (sl i) (fun j => .int ((st_own i).2.2.2.getD j 0)) A s s.heap := ((hZ.2.2.1 i hi).1.1 0 (by decide)).2.2.2
  refine lv_iload_n hx hb d_Latin_charAt_0 rfl (lv_at hl 1 rfl) ?_
  refine lv_aload_n hx hb d_Latin_charAt_1 rfl (lv_at hl 0 rfl) ?_
  refine va_tlen (v := nI (sl i)) hx hb hT hS rfl d_Latin_charAt_2 ?_
  refine tw_sv (tw_runS (ws := []) (wc := []) (As := [.int x, .int (nI (sl i))]) (rest := []) E hB hK hZ (s_Str_checkIndex l g s.heap.size x (nI (sl i)) hx0 hx1) mc_Str_checkIndex ms_Str_checkIndex wd_485 hP hD hS hA [] rfl (by decide) rfl rfl (by decide) rfl hl.1 rfl (Nat.le_of_ble_eq_true rfl) (by decide) d_Latin_charAt_3) ?_
  refine lv_aload_n hx hb d_Latin_charAt_6 rfl (lv_at hl 0 rfl) ?_
  refine lv_iload_n hx hb d_Latin_charAt_7 rfl (lv_at hl 1 rfl) ?_
  refine va_tb (v := .int ((st_own i).2.2.2.getD x.toNatClampNeg 0)) hx hb hT hS (tn_in hx0 (Int32.not_le.mpr hx1) (Nat.le_refl _) (Nat.lt_of_le_of_lt (sl_le i hi) (by decide))) rfl d_Latin_charAt_8 ?_
  obtain ⟨x1, ex1⟩ : ∃ z : Int32, (st_own i).2.2.2.getD x.toNatClampNeg 0 = z := ⟨_, rfl⟩
  refine tw_ri (e2 := x1) ex1 ?_
  refine lv_sipush (v := 255) hx hb d_Latin_charAt_9 (by decide) ?_
  refine lv_iand hx hb d_Latin_charAt_12 ?_
  obtain ⟨x2, ex2⟩ : ∃ z : Int32, x1 &&& 255 = z := ⟨_, rfl⟩
  refine tw_ri (e2 := x2) ex2 ?_
  refine lv_i2c (v := (x2.toUInt32 % 65536).toInt32) hx hb d_Latin_charAt_13 rfl ?_
  exact tw_zsret E (tn_char _) (tn_char _) d_Latin_charAt_14
set_option maxHeartbeats 4000000 in
set_option maxRecDepth 100000 in
theorem s_Str_charAt (l : Launch) (g : tw_G) (sz : Nat) (i : Nat) (x : Int32) (hx0 : ¬ x < 0) (hx1 : x < nI (sl i)) (hi : i < 25) : Met l y_Str_charAt [.code y_Str_charAt b_Str_charAt 2 (some .char)] ({ frames := 3, cells := 0, slots := 0, locals := 64 }) (tw_P g [.ref (g.2.2.1 i), .int x] [] sz) (vp_Si (fun r => narrow .char (.int r) = .int r)) 0 0 (fun _ => False) := by
  refine tw_met (l := l) (g := g) (y := y_Str_charAt) (cc := b_Str_charAt) (maxL := 2) (ret := (some .char)) (rm := { frames := 3, cells := 0, slots := 0, locals := 64 }) (mc := 0) (ms := 0) (av := [.ref (g.2.2.1 i), .int x]) (ws := []) (sz := sz) (Qc := fun _ => (vp_Si (fun r => narrow .char (.int r) = .int r))) (free := fun _ _ => False) (by decide) (Nat.le_of_ble_eq_true rfl) ?_
  intro p e s m below meth c ls A E hB hK hZ hP hD hS hA hl
  obtain ⟨hx, hb, hml, hr, hown, hts, hlocks, hin⟩ := id E
  have hl : lv_has ls 2 [(0, .ref (g.2.2.1 i)), (1, .int x)] := hl
  have hO1 : va_OF "java/lang/String" "coder" "B" (.int 0) (g.2.2.1 i) A s s.heap := ((hZ.2.2.1 i hi).1.1 0 (by decide)).2.1
  have hO2 : va_OF "java/lang/String" "value" "[B" (.ref (g.2.2.2 i)) (g.2.2.1 i) A s s.heap := ((hZ.2.2.1 i hi).1.1 0 (by decide)).2.2.1
  have hT : va_T .byte (g.2.2.2 i) (sl i) (fun j => .int ((st_own i).2.2.2.getD j 0)) A s s.heap := ((hZ.2.2.1 i hi).1.1 0 (by decide)).2.2.2
  refine lv_aload_n hx hb d_Str_charAt_0 rfl (lv_at hl 0 rfl) ?_
  refine tw_si (tw_runK (ws := []) (As := []) (rest := []) E hB hK hZ (s_Str_isLatin1 l g s.heap.size i hi) mc_Str_isLatin1 mi_Str_isLatin1 me_Str_isLatin1 wd_478 hP hD hS hA (vk_recv (i := 0) (hZ.2.2.1 i hi).1 (by decide) hS) rfl rfl (by decide) rfl hl.1 rfl (Nat.le_of_ble_eq_true rfl) (by decide) d_Str_charAt_1) (fun r1 hr1 => ?_)
  obtain rfl : r1 = 1 := hr1
  refine lv_if_eq (tgt := 16) hx hb d_Str_charAt_4 (by decide) (fun h4 => ?_) (fun h4 => ?_)
  · first | exact absurd h4 (by decide) | exact absurd (by decide) h4
  · refine lv_aload_n hx hb d_Str_charAt_7 rfl (lv_at hl 0 rfl) ?_
    refine vk_getf (v := .ref (g.2.2.2 i)) hx hb hO2 hS hown (hts _ wd_1753) (fun _ h9 => h9) d_Str_charAt_8 ?_
    refine lv_iload_n hx hb d_Str_charAt_11 rfl (lv_at hl 1 rfl) ?_
    refine tw_si (tw_runS (ws := []) (wc := []) (As := [.ref (g.2.2.2 i), .int x]) (rest := []) E hB hK hZ (s_Latin_charAt l g s.heap.size i x hi hx0 hx1) mc_Latin_charAt ms_Latin_charAt wd_482 hP hD hS hA [] rfl (by decide) rfl rfl (by decide) rfl hl.1 rfl (Nat.le_of_ble_eq_true rfl) (by decide) d_Str_charAt_12) (fun r2 hr2 => ?_)
    exact tw_zsret E hr2 hr2 d_Str_charAt_15
set_option maxHeartbeats 4000000 in
set_option maxRecDepth 100000 in
theorem s_Layout_spells (l : Launch) (g : tw_G) (sz : Nat) (h0 : Nat) (w : Nat → Nat) (v : LY) (k : Int32) (i : Nat) (hI : LI v) (hi : i < 25) : Met l y_Layout_spells [.code y_Layout_spells b_Layout_spells 5 (some .boolean)] ({ frames := 4, cells := 0, slots := 0, locals := 85 }) (tw_P g [.ref h0, .int k, .ref (g.2.2.1 i)] [(h0, .inr (3, [.ref (w 0), .ref (w 2), .ref (w 7), .ref (w 8), .ref (w 9), .ref (w 10), .ref (w 11), .ref (w 12), .ref (w 13), .int v.nu, .int v.th, .int v.it, .int (nI v.fi), .int (nI v.me), .int v.mp])), ((w 0), .inr (2, [.ref (w 1), .int (nI v.n)])), ((w 1), aB g 600 v.b), ((w 2), .inr (1, [.ref (w 3), .ref (w 4), .ref (w 5), .ref (w 6), .int (nI v.lo)])), ((w 3), aJ g 4800 v.rw), ((w 4), aB g 600 v.bg), ((w 5), aB g 600 v.wt), ((w 6), aB g 600 v.dp), ((w 7), aI g 200 v.tg), ((w 8), aI g 200 v.ca), ((w 9), aI g 200 v.fs), ((w 10), aI g 200 v.sc), ((w 11), aI g 75 v.fa), ((w 12), aI g 75 v.ma), ((w 13), aI g 75 v.co)] sz) (vp_Si (fun r => r = 0 ∨ r = 1)) 0 0 (fun _ => False) := by
  refine tw_met (l := l) (g := g) (y := y_Layout_spells) (cc := b_Layout_spells) (maxL := 5) (ret := (some .boolean)) (rm := { frames := 4, cells := 0, slots := 0, locals := 85 }) (mc := 0) (ms := 0) (av := [.ref h0, .int k, .ref (g.2.2.1 i)]) (ws := [(h0, .inr (3, [.ref (w 0), .ref (w 2), .ref (w 7), .ref (w 8), .ref (w 9), .ref (w 10), .ref (w 11), .ref (w 12), .ref (w 13), .int v.nu, .int v.th, .int v.it, .int (nI v.fi), .int (nI v.me), .int v.mp])), ((w 0), .inr (2, [.ref (w 1), .int (nI v.n)])), ((w 1), aB g 600 v.b), ((w 2), .inr (1, [.ref (w 3), .ref (w 4), .ref (w 5), .ref (w 6), .int (nI v.lo)])), ((w 3), aJ g 4800 v.rw), ((w 4), aB g 600 v.bg), ((w 5), aB g 600 v.wt), ((w 6), aB g 600 v.dp), ((w 7), aI g 200 v.tg), ((w 8), aI g 200 v.ca), ((w 9), aI g 200 v.fs), ((w 10), aI g 200 v.sc), ((w 11), aI g 75 v.fa), ((w 12), aI g 75 v.ma), ((w 13), aI g 75 v.co)]) (sz := sz) (Qc := fun _ => (vp_Si (fun r => r = 0 ∨ r = 1))) (free := fun _ _ => False) (by decide) (Nat.le_of_ble_eq_true rfl) ?_
  intro p e s m below meth c ls A E hB hK hZ hP hD hS hA hl
  obtain ⟨hx, hb, hml, hr, hown, hts, hlocks, hin⟩ := id E
  have hl : lv_has ls 5 [(0, .ref h0), (1, .int k), (2, .ref (g.2.2.1 i))] := hl
  have hsl := sl_le i hi
  refine lv_aload_n hx hb d_Layout_spells_0 rfl (lv_at hl 0 rfl) ?_
  refine lv_iload_n hx hb d_Layout_spells_1 rfl (lv_at hl 1 rfl) ?_
  refine tw_si (tw_runV (ws := [(h0, .inr (3, [.ref (w 0), .ref (w 2), .ref (w 7), .ref (w 8), .ref (w 9), .ref (w 10), .ref (w 11), .ref (w 12), .ref (w 13), .int v.nu, .int v.th, .int v.it, .int (nI v.fi), .int (nI v.me), .int v.mp])), ((w 0), .inr (2, [.ref (w 1), .int (nI v.n)])), ((w 1), aB g 600 v.b), ((w 2), .inr (1, [.ref (w 3), .ref (w 4), .ref (w 5), .ref (w 6), .int (nI v.lo)])), ((w 3), aJ g 4800 v.rw), ((w 4), aB g 600 v.bg), ((w 5), aB g 600 v.wt), ((w 6), aB g 600 v.dp), ((w 7), aI g 200 v.tg), ((w 8), aI g 200 v.ca), ((w 9), aI g 200 v.fs), ((w 10), aI g 200 v.sc), ((w 11), aI g 75 v.fa), ((w 12), aI g 75 v.ma), ((w 13), aI g 75 v.co)]) (wc := [(h0, .inr (3, [.ref (w 0), .ref (w 2), .ref (w 7), .ref (w 8), .ref (w 9), .ref (w 10), .ref (w 11), .ref (w 12), .ref (w 13), .int v.nu, .int v.th, .int v.it, .int (nI v.fi), .int (nI v.me), .int v.mp])), ((w 0), .inr (2, [.ref (w 1), .int (nI v.n)])), ((w 1), aB g 600 v.b), ((w 2), .inr (1, [.ref (w 3), .ref (w 4), .ref (w 5), .ref (w 6), .int (nI v.lo)])), ((w 3), aJ g 4800 v.rw), ((w 4), aB g 600 v.bg), ((w 5), aB g 600 v.wt), ((w 6), aB g 600 v.dp), ((w 7), aI g 200 v.tg), ((w 8), aI g 200 v.ca), ((w 9), aI g 200 v.fs), ((w 10), aI g 200 v.sc), ((w 11), aI g 75 v.fa), ((w 12), aI g 75 v.ma), ((w 13), aI g 75 v.co)]) (As := [.int k]) (rest := []) E hB hK hZ (s_Layout_placeOf l g s.heap.size h0 w v k hI) mc_Layout_placeOf mi_Layout_placeOf me_Layout_placeOf wd_455 hP hD hS hA [0, 1, 2, 3, 4, 5, 6, 7, 8, 9, 10, 11, 12, 13, 14] rfl (by decide) 0 rfl rfl rfl rfl rfl (by decide) rfl hl.1 rfl (Nat.le_of_ble_eq_true rfl) (by decide) d_Layout_spells_2) (fun r1 hr1 => ?_)
  refine lv_iconst (v := 3) hx hb d_Layout_spells_5 (by decide) ?_
  refine lv_iadd hx hb d_Layout_spells_6 ?_
  obtain ⟨x2, ex2⟩ : ∃ z : Int32, r1 + 3 = z := ⟨_, rfl⟩
  refine tw_ri (e2 := x2) ex2 ?_
  refine lv_istore_n hx hb d_Layout_spells_7 rfl hl (by decide) rfl (fun ls hl => ?_)
  have hl : lv_has ls 5 [(3, .int x2), (0, .ref h0), (1, .int k), (2, .ref (g.2.2.1 i))] := hl
  refine lv_aload_n hx hb d_Layout_spells_8 rfl (lv_at hl 1 rfl) ?_
  refine lv_iload_n hx hb d_Layout_spells_9 rfl (lv_at hl 2 rfl) ?_
  refine tw_si (tw_runV (ws := [(h0, .inr (3, [.ref (w 0), .ref (w 2), .ref (w 7), .ref (w 8), .ref (w 9), .ref (w 10), .ref (w 11), .ref (w 12), .ref (w 13), .int v.nu, .int v.th, .int v.it, .int (nI v.fi), .int (nI v.me), .int v.mp])), ((w 0), .inr (2, [.ref (w 1), .int (nI v.n)])), ((w 1), aB g 600 v.b), ((w 2), .inr (1, [.ref (w 3), .ref (w 4), .ref (w 5), .ref (w 6), .int (nI v.lo)])), ((w 3), aJ g 4800 v.rw), ((w 4), aB g 600 v.bg), ((w 5), aB g 600 v.wt), ((w 6), aB g 600 v.dp), ((w 7), aI g 200 v.tg), ((w 8), aI g 200 v.ca), ((w 9), aI g 200 v.fs), ((w 10), aI g 200 v.sc), ((w 11), aI g 75 v.fa), ((w 12), aI g 75 v.ma), ((w 13), aI g 75 v.co)]) (wc := [(h0, .inr (3, [.ref (w 0), .ref (w 2), .ref (w 7), .ref (w 8), .ref (w 9), .ref (w 10), .ref (w 11), .ref (w 12), .ref (w 13), .int v.nu, .int v.th, .int v.it, .int (nI v.fi), .int (nI v.me), .int v.mp])), ((w 0), .inr (2, [.ref (w 1), .int (nI v.n)])), ((w 1), aB g 600 v.b), ((w 2), .inr (1, [.ref (w 3), .ref (w 4), .ref (w 5), .ref (w 6), .int (nI v.lo)])), ((w 3), aJ g 4800 v.rw), ((w 4), aB g 600 v.bg), ((w 5), aB g 600 v.wt), ((w 6), aB g 600 v.dp), ((w 7), aI g 200 v.tg), ((w 8), aI g 200 v.ca), ((w 9), aI g 200 v.fs), ((w 10), aI g 200 v.sc), ((w 11), aI g 75 v.fa), ((w 12), aI g 75 v.ma), ((w 13), aI g 75 v.co)]) (As := [.int k]) (rest := []) E hB hK hZ (s_Layout_firstOf l g s.heap.size h0 w v k hI) mc_Layout_firstOf mi_Layout_firstOf me_Layout_firstOf wd_459 hP hD hS hA [0, 1, 2, 3, 4, 5, 6, 7, 8, 9, 10, 11, 12, 13, 14] rfl (by decide) 0 rfl rfl rfl rfl rfl (by decide) rfl hl.1 rfl (Nat.le_of_ble_eq_true rfl) (by decide) d_Layout_spells_10) (fun r3 hr3 => ?_)
  refine lv_aload_n hx hb d_Layout_spells_13 rfl (lv_at hl 3 rfl) ?_
  refine tw_si (tw_runK (ws := [(h0, .inr (3, [.ref (w 0), .ref (w 2), .ref (w 7), .ref (w 8), .ref (w 9), .ref (w 10), .ref (w 11), .ref (w 12), .ref (w 13), .int v.nu, .int v.th, .int v.it, .int (nI v.fi), .int (nI v.me), .int v.mp])), ((w 0), .inr (2, [.ref (w 1), .int (nI v.n)])), ((w 1), aB g 600 v.b), ((w 2), .inr (1, [.ref (w 3), .ref (w 4), .ref (w 5), .ref (w 6), .int (nI v.lo)])), ((w 3), aJ g 4800 v.rw), ((w 4), aB g 600 v.bg), ((w 5), aB g 600 v.wt), ((w 6), aB g 600 v.dp), ((w 7), aI g 200 v.tg), ((w 8), aI g 200 v.ca), ((w 9), aI g 200 v.fs), ((w 10), aI g 200 v.sc), ((w 11), aI g 75 v.fa), ((w 12), aI g 75 v.ma), ((w 13), aI g 75 v.co)]) (As := []) (rest := [.int r3]) E hB hK hZ (s_Str_length l g s.heap.size i hi) mc_Str_length mi_Str_length me_Str_length wd_463 hP hD hS hA (vk_recv (i := 0) (hZ.2.2.1 i hi).1 (by decide) hS) rfl rfl (by decide) rfl hl.1 rfl (Nat.le_of_ble_eq_true rfl) (by decide) d_Layout_spells_14) (fun r4 hr4 => ?_)
  obtain rfl : r4 = nI (sl i) := hr4
  refine lv_icmp_eq (tgt := 22) hx hb d_Layout_spells_17 (by decide) (fun h17 => ?_) (fun h17 => ?_)
  · refine lv_iconst (v := 0) hx hb d_Layout_spells_22 (by decide) ?_
    refine lv_istore hx hb d_Layout_spells_23 hl (by decide) rfl (fun ls hl => ?_)
    have hl : lv_has ls 5 [(4, .int 0), (3, .int x2), (0, .ref h0), (1, .int k), (2, .ref (g.2.2.1 i))] := hl
    have loop25 : ∀ (kq : Nat) (j : Nat) (ls : Array Slot) , sl i - j = kq → (hj : j ≤ sl i) → lv_has ls 5 [(4, .int (nI j)), (3, .int x2), (0, .ref h0), (1, .int k), (2, .ref (g.2.2.1 i))] → W p l e ({ frames := 4, cells := 0, slots := 0, locals := 85 }) s m [.ref h0, .int k, .ref (g.2.2.1 i)].toArray below meth c s.heap [] 0 0 (MQ below (vp_Si (fun r => r = 0 ∨ r = 1)) [.ref h0, .int k, .ref (g.2.2.1 i)].toArray s 0 0 (fun _ => False)) (F0 m 25 ls []) := by
      intro kq
      induction kq using Nat.strongRecOn with
      | _ kq ih =>
        intro j ls hk hj hl 
        refine lv_iload hx hb d_Layout_spells_25 (lv_at hl 0 rfl) ?_
        refine lv_aload_n hx hb d_Layout_spells_27 rfl (lv_at hl 4 rfl) ?_
        refine tw_si (tw_runK (ws := [(h0, .inr (3, [.ref (w 0), .ref (w 2), .ref (w 7), .ref (w 8), .ref (w 9), .ref (w 10), .ref (w 11), .ref (w 12), .ref (w 13), .int v.nu, .int v.th, .int v.it, .int (nI v.fi), .int (nI v.me), .int v.mp])), ((w 0), .inr (2, [.ref (w 1), .int (nI v.n)])), ((w 1), aB g 600 v.b), ((w 2), .inr (1, [.ref (w 3), .ref (w 4), .ref (w 5), .ref (w 6), .int (nI v.lo)])), ((w 3), aJ g 4800 v.rw), ((w 4), aB g 600 v.bg), ((w 5), aB g 600 v.wt), ((w 6), aB g 600 v.dp), ((w 7), aI g 200 v.tg), ((w 8), aI g 200 v.ca), ((w 9), aI g 200 v.fs), ((w 10), aI g 200 v.sc), ((w 11), aI g 75 v.fa), ((w 12), aI g 75 v.ma), ((w 13), aI g 75 v.co)]) (As := []) (rest := [.int (nI j)]) E hB hK hZ (s_Str_length l g s.heap.size i hi) mc_Str_length mi_Str_length me_Str_length wd_463 hP hD hS hA (vk_recv (i := 0) (hZ.2.2.1 i hi).1 (by decide) hS) rfl rfl (by decide) rfl hl.1 rfl (Nat.le_of_ble_eq_true rfl) (by decide) d_Layout_spells_28) (fun r5 hr5 => ?_)
        obtain rfl : r5 = nI (sl i) := hr5
        refine lv_icmp_ge (tgt := 62) hx hb d_Layout_spells_31 (by decide) (fun h31 => ?_) (fun h31 => ?_)
        · refine lv_iconst (v := 1) hx hb d_Layout_spells_62 (by decide) ?_
          exact tw_zsret E (by decide) (by decide) d_Layout_spells_63
        · have h31 := tn_nle h31 (by omega) (by omega)
          refine lv_aload_n hx hb d_Layout_spells_34 rfl (lv_at hl 2 rfl) ?_
          refine va_get (D := g.1) (ci := 3) (v := .ref (w 0)) (C := R_Layout) (T := F_Layout) (N := 15) hx hb hts in_Layout hown hK hP 0 rfl rfl 0 (by decide) (hts _ wd_241) (fun _ h9 => h9) rfl d_Layout_spells_35 ?_
          refine lv_iload_n hx hb d_Layout_spells_38 rfl (lv_at hl 1 rfl) ?_
          refine lv_iload hx hb d_Layout_spells_39 (lv_at hl 0 rfl) ?_
          refine lv_iadd hx hb d_Layout_spells_41 ?_
          obtain ⟨x6, ex6⟩ : ∃ z : Int32, x2 + (nI j) = z := ⟨_, rfl⟩
          refine tw_ri (e2 := x6) ex6 ?_
          refine tw_si (tw_runV (ws := [(h0, .inr (3, [.ref (w 0), .ref (w 2), .ref (w 7), .ref (w 8), .ref (w 9), .ref (w 10), .ref (w 11), .ref (w 12), .ref (w 13), .int v.nu, .int v.th, .int v.it, .int (nI v.fi), .int (nI v.me), .int v.mp])), ((w 0), .inr (2, [.ref (w 1), .int (nI v.n)])), ((w 1), aB g 600 v.b), ((w 2), .inr (1, [.ref (w 3), .ref (w 4), .ref (w 5), .ref (w 6), .int (nI v.lo)])), ((w 3), aJ g 4800 v.rw), ((w 4), aB g 600 v.bg), ((w 5), aB g 600 v.wt), ((w 6), aB g 600 v.dp), ((w 7), aI g 200 v.tg), ((w 8), aI g 200 v.ca), ((w 9), aI g 200 v.fs), ((w 10), aI g 200 v.sc), ((w 11), aI g 75 v.fa), ((w 12), aI g 75 v.ma), ((w 13), aI g 75 v.co)]) (wc := [((w 0), .inr (2, [.ref (w 1), .int (nI v.n)])), ((w 1), aB g 600 v.b)]) (As := [.int x6]) (rest := []) E hB hK hZ (c_Image_oneAt l g s.heap.size (w 0) (w 1) v.n v.b x6 hI.n) mc_Image_oneAt mi_Image_oneAt me_Image_oneAt wd_473 hP hD hS hA [1, 2] rfl (by decide) 0 rfl rfl rfl rfl rfl (by decide) rfl hl.1 rfl (Nat.le_of_ble_eq_true rfl) (by decide) d_Layout_spells_42) (fun r7 hr7 => ?_)
          refine lv_aload_n hx hb d_Layout_spells_45 rfl (lv_at hl 4 rfl) ?_
          refine lv_iload hx hb d_Layout_spells_46 (lv_at hl 0 rfl) ?_
          refine tw_si (tw_runK (ws := [(h0, .inr (3, [.ref (w 0), .ref (w 2), .ref (w 7), .ref (w 8), .ref (w 9), .ref (w 10), .ref (w 11), .ref (w 12), .ref (w 13), .int v.nu, .int v.th, .int v.it, .int (nI v.fi), .int (nI v.me), .int v.mp])), ((w 0), .inr (2, [.ref (w 1), .int (nI v.n)])), ((w 1), aB g 600 v.b), ((w 2), .inr (1, [.ref (w 3), .ref (w 4), .ref (w 5), .ref (w 6), .int (nI v.lo)])), ((w 3), aJ g 4800 v.rw), ((w 4), aB g 600 v.bg), ((w 5), aB g 600 v.wt), ((w 6), aB g 600 v.dp), ((w 7), aI g 200 v.tg), ((w 8), aI g 200 v.ca), ((w 9), aI g 200 v.fs), ((w 10), aI g 200 v.sc), ((w 11), aI g 75 v.fa), ((w 12), aI g 75 v.ma), ((w 13), aI g 75 v.co)]) (As := [.int (nI j)]) (rest := [.int r7]) E hB hK hZ (s_Str_charAt l g s.heap.size i (nI j) (nI_pos (by omega)) ((nI_ltI (by omega) (by omega)).mpr (by omega)) hi) mc_Str_charAt mi_Str_charAt me_Str_charAt wd_474 hP hD hS hA (vk_recv (i := 0) (hZ.2.2.1 i hi).1 (by decide) hS) rfl rfl (by decide) rfl hl.1 rfl (Nat.le_of_ble_eq_true rfl) (by decide) d_Layout_spells_48) (fun r8 hr8 => ?_)
          refine lv_icmp_eq (tgt := 56) hx hb d_Layout_spells_51 (by decide) (fun h51 => ?_) (fun h51 => ?_)
          · refine lv_iinc (k := 0) (v := nI (j + 1)) hx hb d_Layout_spells_56 hl rfl ((nI_succ j).symm) (by decide) rfl (fun ls hl => ?_)
            have hl : lv_has ls 5 [(4, .int (nI (j + 1))), (3, .int x2), (0, .ref h0), (1, .int k), (2, .ref (g.2.2.1 i))] := hl
            refine lv_goto (tgt := 25) hx hb d_Layout_spells_59 (by decide) ?_
            exact ih _ (by omega) (j + 1) ls rfl (by omega) (lv_sub hl [0, 1, 2, 3, 4] rfl)
          · refine lv_iconst (v := 0) hx hb d_Layout_spells_54 (by decide) ?_
            exact tw_zsret E (by decide) (by decide) d_Layout_spells_55
    exact loop25 _ 0 ls rfl (Nat.zero_le _) (hl)
  · refine lv_iconst (v := 0) hx hb d_Layout_spells_20 (by decide) ?_
    exact tw_zsret E (by decide) (by decide) d_Layout_spells_21
