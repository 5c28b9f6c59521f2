set_option maxHeartbeats 4000000 in
set_option maxRecDepth 100000 in
theorem s_Latin_canEncode (l : Launch) (g : tw_G) (sz : Nat) (x : Int32) : Met l y_Latin_canEncode [.code y_Latin_canEncode b_Latin_canEncode 1 (some .boolean)] ({ frames := 0, cells := 0, slots := 0, locals := 0 }) (tw_P g [.int x] [] sz) (vp_Si (fun r => r = 0 ∨ r = 1)) 0 0 (fun _ => False) := by
  refine tw_met (l := l) (g := g) (y := y_Latin_canEncode) (cc := b_Latin_canEncode) (maxL := 1) (ret := (some .boolean)) (rm := { frames := 0, cells := 0, slots := 0, locals := 0 }) (mc := 0) (ms := 0) (av := [.int x]) (ws := []) (sz := sz) (Qc := fun _ => (vp_Si (fun r => r = 0 ∨ r = 1))) (free := fun _ _ => False) (by decide) (Nat.le_of_ble_eq_true rfl) ?_
  intro p e s m below meth c ls A E hB hK hZ hP hD hS hA hl
  obtain ⟨hx, hb, hml, hr, hown, hts, hlocks, hin⟩ := id E
  have hl : lv_has ls 1 [(0, .int x)] := hl
  refine lv_iload_n hx hb d_Latin_canEncode_0 rfl (lv_at hl 0 rfl) ?_
  refine lv_if_lt (tgt := 15) hx hb d_Latin_canEncode_1 (by decide) (fun h1 => ?_) (fun h1 => ?_)
  · refine lv_iconst (v := 0) hx hb d_Latin_canEncode_15 (by decide) ?_
    exact tw_zsret E (by decide) (by decide) d_Latin_canEncode_16
  · refine lv_iload_n hx hb d_Latin_canEncode_4 rfl (lv_at hl 0 rfl) ?_
    refine lv_sipush (v := 255) hx hb d_Latin_canEncode_5 (by decide) ?_
    refine lv_icmp_gt (tgt := 15) hx hb d_Latin_canEncode_8 (by decide) (fun h8 => ?_) (fun h8 => ?_)
    · refine lv_iconst (v := 0) hx hb d_Latin_canEncode_15 (by decide) ?_
      exact tw_zsret E (by decide) (by decide) d_Latin_canEncode_16
    · refine lv_iconst (v := 1) hx hb d_Latin_canEncode_11 (by decide) ?_
      refine lv_goto (tgt := 16) hx hb d_Latin_canEncode_12 (by decide) ?_
      exact tw_zsret E (by decide) (by decide) d_Latin_canEncode_16
set_option maxHeartbeats 4000000 in
set_option maxRecDepth 100000 in
theorem s_Latin_indexOfChar (l : Launch) (g : tw_G) (sz : Nat) (i : Nat) (x : Int32) (f1 t1 : Nat) (hi : i < 25) (ht1 : t1 ≤ sl i) (hf1 : f1 ≤ t1) : Met l y_Latin_indexOfChar [.code y_Latin_indexOfChar b_Latin_indexOfChar 6 (some .int)] ({ frames := 0, cells := 0, slots := 0, locals := 0 }) (tw_P g [.ref (g.2.2.2 i), .int x, .int (nI f1), .int (nI t1)] [] sz) (vp_Si (fun _ => True)) 0 0 (fun _ => False) := by
  refine tw_met (l := l) (g := g) (y := y_Latin_indexOfChar) (cc := b_Latin_indexOfChar) (maxL := 6) (ret := (some .int)) (rm := { frames := 0, cells := 0, slots := 0, locals := 0 }) (mc := 0) (ms := 0) (av := [.ref (g.2.2.2 i), .int x, .int (nI f1), .int (nI t1)]) (ws := []) (sz := sz) (Qc := fun _ => (vp_Si (fun _ => True))) (free := fun _ _ => False) (by decide) (Nat.le_of_ble_eq_true rfl) ?_
  intro p e s m below meth c ls A E hB hK hZ hP hD hS hA hl
  obtain ⟨hx, hb, hml, hr, hown, hts, hlocks, hin⟩ := id E
  have hl : lv_has ls 6 [(0, .ref (g.2.2.2 i)), (1, .int x), (2, .int (nI f1)), (3, .int (nI t1))] := hl
  have hT : va_T .byte (g.2.2.2 i) (sl i) (fun j => .int ((st_own i).2.2.2.getD j 0)) A s s.heap := ((hZ.2.2.1 i hi).1.1 0 (by decide)).2.2.2
  have hsl := sl_le i hi
  refine lv_iload_n hx hb d_Latin_indexOfChar_0 rfl (lv_at hl 1 rfl) ?_
  refine lv_i2b (v := x.toInt8.toInt32) hx hb d_Latin_indexOfChar_1 rfl ?_
  refine lv_istore hx hb d_Latin_indexOfChar_2 hl (by decide) rfl (fun ls hl => ?_)
  have hl : lv_has ls 6 [(4, .int x.toInt8.toInt32), (0, .ref (g.2.2.2 i)), (1, .int x), (2, .int (nI f1)), (3, .int (nI t1))] := hl
  refine lv_iload_n hx hb d_Latin_indexOfChar_4 rfl (lv_at hl 3 rfl) ?_
  refine lv_istore hx hb d_Latin_indexOfChar_5 hl (by decide) rfl (fun ls hl => ?_)
  have hl : lv_has ls 6 [(5, .int (nI f1)), (4, .int x.toInt8.toInt32), (0, .ref (g.2.2.2 i)), (1, .int x), (2, .int (nI f1)), (3, .int (nI t1))] := hl
  have loop7 : ∀ (kq : Nat) (j : Nat) (ls : Array Slot) , t1 - j = kq → (hj : j ≤ t1) → lv_has ls 6 [(5, .int (nI j)), (4, .int x.toInt8.toInt32), (0, .ref (g.2.2.2 i)), (1, .int x), (2, .int (nI f1)), (3, .int (nI t1))] → W p l e ({ frames := 0, cells := 0, slots := 0, locals := 0 }) s m [.ref (g.2.2.2 i), .int x, .int (nI f1), .int (nI t1)].toArray below meth c s.heap [] 0 0 (MQ below (vp_Si (fun _ => True)) [.ref (g.2.2.2 i), .int x, .int (nI f1), .int (nI t1)].toArray s 0 0 (fun _ => False)) (F0 m 7 ls []) := by
    intro kq
    induction kq using Nat.strongRecOn with
    | _ kq ih =>
      intro j ls hk hj hl 
      refine lv_iload hx hb d_Latin_indexOfChar_7 (lv_at hl 0 rfl) ?_
      refine lv_iload_n hx hb d_Latin_indexOfChar_9 rfl (lv_at hl 5 rfl) ?_
      refine lv_icmp_ge (tgt := 31) hx hb d_Latin_indexOfChar_10 (by decide) (fun h10 => ?_) (fun h10 => ?_)
      · refine lv_iconst (v := (-1)) hx hb d_Latin_indexOfChar_31 (by decide) ?_
        exact tw_isret E trivial d_Latin_indexOfChar_32
      · have h10 := tn_nle h10 (by omega) (by omega)
        refine lv_aload_n hx hb d_Latin_indexOfChar_13 rfl (lv_at hl 2 rfl) ?_
        refine lv_iload hx hb d_Latin_indexOfChar_14 (lv_at hl 0 rfl) ?_
        refine va_tb (v := .int ((st_own i).2.2.2.getD (nI j).toNatClampNeg 0)) hx hb hT hS (vp_in_nI (by omega) (by omega)) rfl d_Latin_indexOfChar_16 ?_
        obtain ⟨x1, ex1⟩ : ∃ z : Int32, (st_own i).2.2.2.getD (nI j).toNatClampNeg 0 = z := ⟨_, rfl⟩
        refine tw_ri (e2 := x1) ex1 ?_
        refine lv_iload hx hb d_Latin_indexOfChar_17 (lv_at hl 1 rfl) ?_
        refine lv_icmp_ne (tgt := 25) hx hb d_Latin_indexOfChar_19 (by decide) (fun h19 => ?_) (fun h19 => ?_)
        · refine lv_iinc (k := 0) (v := nI (j + 1)) hx hb d_Latin_indexOfChar_25 hl rfl ((nI_succ j).symm) (by decide) rfl (fun ls hl => ?_)
          have hl : lv_has ls 6 [(5, .int (nI (j + 1))), (4, .int x.toInt8.toInt32), (0, .ref (g.2.2.2 i)), (1, .int x), (2, .int (nI f1)), (3, .int (nI t1))] := hl
          refine lv_goto (tgt := 7) hx hb d_Latin_indexOfChar_28 (by decide) ?_
          exact ih _ (by omega) (j + 1) ls rfl (by omega) (lv_sub hl [0, 1, 2, 3, 4, 5] rfl)
        · refine lv_iload hx hb d_Latin_indexOfChar_22 (lv_at hl 0 rfl) ?_
          exact tw_isret E trivial d_Latin_indexOfChar_24
  exact loop7 _ f1 ls rfl hf1 (hl)
set_option maxHeartbeats 4000000 in
set_option maxRecDepth 100000 in
theorem s_Latin_indexOf (l : Launch) (g : tw_G) (sz : Nat) (i : Nat) (x : Int32) (hi : i < 25) : Met l y_Latin_indexOf [.code y_Latin_indexOf b_Latin_indexOf 4 (some .int)] ({ frames := 1, cells := 0, slots := 0, locals := 25 }) (tw_P g [.ref (g.2.2.2 i), .int x, .int 0, .int (nI (sl i))] [] sz) (vp_Si (fun _ => True)) 0 0 (fun _ => False) := by
  refine tw_met (l := l) (g := g) (y := y_Latin_indexOf) (cc := b_Latin_indexOf) (maxL := 4) (ret := (some .int)) (rm := { frames := 1, cells := 0, slots := 0, locals := 25 }) (mc := 0) (ms := 0) (av := [.ref (g.2.2.2 i), .int x, .int 0, .int (nI (sl i))]) (ws := []) (sz := sz) (Qc := fun _ => (vp_Si (fun _ => True))) (free := fun _ _ => False) (by decide) (Nat.le_of_ble_eq_true rfl) ?_
  intro p e s m below meth c ls A E hB hK hZ hP hD hS hA hl
  obtain ⟨hx, hb, hml, hr, hown, hts, hlocks, hin⟩ := id E
  have hl : lv_has ls 4 [(0, .ref (g.2.2.2 i)), (1, .int x), (2, .int 0), (3, .int (nI (sl i)))] := hl
  have hT : va_T .byte (g.2.2.2 i) (sl i) (fun j => .int ((st_own i).2.2.2.getD j 0)) A s s.heap := ((hZ.2.2.1 i hi).1.1 0 (by decide)).2.2.2
  have hsl := sl_le i hi
  refine lv_iload_n hx hb d_Latin_indexOf_0 rfl (lv_at hl 1 rfl) ?_
  refine tw_si (tw_runS (ws := []) (wc := []) (As := [.int x]) (rest := []) E hB hK hZ (s_Latin_canEncode l g s.heap.size x) mc_Latin_canEncode ms_Latin_canEncode wd_952 hP hD hS hA [] rfl (by decide) rfl rfl (by decide) rfl hl.1 rfl (Nat.le_of_ble_eq_true rfl) (by decide) d_Latin_indexOf_1) (fun r1 hr1 => ?_)
  refine lv_if_ne (tgt := 9) hx hb d_Latin_indexOf_4 (by decide) (fun h4 => ?_) (fun h4 => ?_)
  · refine lv_iload_n hx hb d_Latin_indexOf_9 rfl (lv_at hl 2 rfl) ?_
    refine lv_iconst (v := 0) hx hb d_Latin_indexOf_10 (by decide) ?_
    refine va_mmax (x := (0 : Int32)) (y := (0 : Int32)) hx hb (by rw [hml]; exact hl.1.symm) hown (hts _ wd_955) (hts _ wd_956) (hts _ wd_26) (hts _ wd_957) (Nat.le_of_ble_eq_true rfl) (Nat.le_of_ble_eq_true rfl) (Nat.le_of_ble_eq_true rfl) (Nat.le_of_ble_eq_true rfl) d_Latin_indexOf_11 ?_
    refine tw_ri (e2 := 0) (by decide) ?_
    refine lv_istore_n hx hb d_Latin_indexOf_14 rfl hl (by decide) rfl (fun ls hl => ?_)
    have hl : lv_has ls 4 [(2, .int 0), (0, .ref (g.2.2.2 i)), (1, .int x), (3, .int (nI (sl i)))] := hl
    refine lv_iload_n hx hb d_Latin_indexOf_15 rfl (lv_at hl 3 rfl) ?_
    refine lv_aload_n hx hb d_Latin_indexOf_16 rfl (lv_at hl 1 rfl) ?_
    refine va_tlen (v := nI (sl i)) hx hb hT hS rfl d_Latin_indexOf_17 ?_
    refine va_mmin (x := (nI (sl i))) (y := (nI (sl i))) hx hb (by rw [hml]; exact hl.1.symm) hown (hts _ wd_958) (hts _ wd_764) (hts _ wd_26) (hts _ wd_765) (Nat.le_of_ble_eq_true rfl) (Nat.le_of_ble_eq_true rfl) (Nat.le_of_ble_eq_true rfl) (Nat.le_of_ble_eq_true rfl) d_Latin_indexOf_18 ?_
    refine tw_ri (e2 := nI (sl i)) (by split <;> rfl) ?_
    refine lv_istore_n hx hb d_Latin_indexOf_21 rfl hl (by decide) rfl (fun ls hl => ?_)
    have hl : lv_has ls 4 [(3, .int (nI (sl i))), (2, .int 0), (0, .ref (g.2.2.2 i)), (1, .int x)] := hl
    refine lv_iload_n hx hb d_Latin_indexOf_22 rfl (lv_at hl 1 rfl) ?_
    refine lv_iload_n hx hb d_Latin_indexOf_23 rfl (lv_at hl 0 rfl) ?_
    refine lv_icmp_lt (tgt := 29) hx hb d_Latin_indexOf_24 (by decide) (fun h24 => ?_) (fun h24 => ?_)
    · refine lv_aload_n hx hb d_Latin_indexOf_29 rfl (lv_at hl 2 rfl) ?_
      refine lv_iload_n hx hb d_Latin_indexOf_30 rfl (lv_at hl 3 rfl) ?_
      refine lv_iload_n hx hb d_Latin_indexOf_31 rfl (lv_at hl 1 rfl) ?_
      refine lv_iload_n hx hb d_Latin_indexOf_32 rfl (lv_at hl 0 rfl) ?_
      refine tw_si (tw_runS (ws := []) (wc := []) (As := [.ref (g.2.2.2 i), .int x, .int 0, .int (nI (sl i))]) (rest := []) E hB hK hZ (s_Latin_indexOfChar l g s.heap.size i x 0 (sl i) hi (by omega) (by omega)) mc_Latin_indexOfChar ms_Latin_indexOfChar wd_959 hP hD hS hA [] rfl (by decide) rfl rfl (by decide) rfl hl.1 rfl (Nat.le_of_ble_eq_true rfl) (by decide) d_Latin_indexOf_33) (fun r2 hr2 => ?_)
      exact tw_isret E trivial d_Latin_indexOf_36
    · refine lv_iconst (v := (-1)) hx hb d_Latin_indexOf_27 (by decide) ?_
      exact tw_isret E trivial d_Latin_indexOf_28
  · refine lv_iconst (v := (-1)) hx hb d_Latin_indexOf_7 (by decide) ?_
    exact tw_isret E trivial d_Latin_indexOf_8
set_option maxHeartbeats 4000000 in
set_option maxRecDepth 100000 in
theorem s_Str_indexOf_III (l : Launch) (g : tw_G) (sz : Nat) (i : Nat) (x : Int32) (hi : i < 25) : Met l y_Str_indexOf_III [.code y_Str_indexOf_III b_Str_indexOf_III 3 (some .int)] ({ frames := 2, cells := 0, slots := 0, locals := 48 }) (tw_P g [.ref (g.2.2.1 i), .int x, .int 0] [] sz) (vp_Si (fun _ => True)) 0 0 (fun _ => False) := by
  refine tw_met (l := l) (g := g) (y := y_Str_indexOf_III) (cc := b_Str_indexOf_III) (maxL := 3) (ret := (some .int)) (rm := { frames := 2, cells := 0, slots := 0, locals := 48 }) (mc := 0) (ms := 0) (av := [.ref (g.2.2.1 i), .int x, .int 0]) (ws := []) (sz := sz) (Qc := fun _ => (vp_Si (fun _ => True))) (free := fun _ _ => False) (by decide) (Nat.le_of_ble_eq_true rfl) ?_
  intro p e s m below meth c ls A E hB hK hZ hP hD hS hA hl
  obtain ⟨hx, hb, hml, hr, hown, hts, hlocks, hin⟩ := id E
  have hl : lv_has ls 3 [(0, .ref (g.2.2.1 i)), (1, .int x), (2, .int 0)] := hl
  have hO1 : va_OF "java/lang/String" "coder" "B" (.int 0) (g.2.2.1 i) A s s.heap := ((hZ.2.2.1 i hi).1.1 0 (by decide)).2.1
  have hO2 : va_OF "java/lang/String" "value" "[B" (.ref (g.2.2.2 i)) (g.2.2.1 i) A s s.heap := ((hZ.2.2.1 i hi).1.1 0 (by decide)).2.2.1
  have hT : va_T .byte (g.2.2.2 i) (sl i) (fun j => .int ((st_own i).2.2.2.getD j 0)) A s s.heap := ((hZ.2.2.1 i hi).1.1 0 (by decide)).2.2.2
  refine lv_aload_n hx hb d_Str_indexOf_III_0 rfl (lv_at hl 0 rfl) ?_
  refine tw_si (tw_runK (ws := []) (As := []) (rest := []) E hB hK hZ (s_Str_isLatin1 l g s.heap.size i hi) mc_Str_isLatin1 mi_Str_isLatin1 me_Str_isLatin1 wd_478 hP hD hS hA (vk_recv (i := 0) (hZ.2.2.1 i hi).1 (by decide) hS) rfl rfl (by decide) rfl hl.1 rfl (Nat.le_of_ble_eq_true rfl) (by decide) d_Str_indexOf_III_1) (fun r1 hr1 => ?_)
  obtain rfl : r1 = 1 := hr1
  refine lv_if_eq (tgt := 23) hx hb d_Str_indexOf_III_4 (by decide) (fun h4 => ?_) (fun h4 => ?_)
  · first | exact absurd h4 (by decide) | exact absurd (by decide) h4
  · refine lv_aload_n hx hb d_Str_indexOf_III_7 rfl (lv_at hl 0 rfl) ?_
    refine vk_getf (v := .ref (g.2.2.2 i)) hx hb hO2 hS hown (hts _ wd_1753) (fun _ h9 => h9) d_Str_indexOf_III_8 ?_
    refine lv_iload_n hx hb d_Str_indexOf_III_11 rfl (lv_at hl 1 rfl) ?_
    refine lv_iload_n hx hb d_Str_indexOf_III_12 rfl (lv_at hl 2 rfl) ?_
    refine lv_aload_n hx hb d_Str_indexOf_III_13 rfl (lv_at hl 0 rfl) ?_
    refine tw_si (tw_runK (ws := []) (As := []) (rest := [.int 0, .int x, .ref (g.2.2.2 i)]) E hB hK hZ (s_Str_length l g s.heap.size i hi) mc_Str_length mi_Str_length me_Str_length wd_948 hP hD hS hA (vk_recv (i := 0) (hZ.2.2.1 i hi).1 (by decide) hS) rfl rfl (by decide) rfl hl.1 rfl (Nat.le_of_ble_eq_true rfl) (by decide) d_Str_indexOf_III_14) (fun r2 hr2 => ?_)
    obtain rfl : r2 = nI (sl i) := hr2
    refine tw_si (tw_runS (ws := []) (wc := []) (As := [.ref (g.2.2.2 i), .int x, .int 0, .int (nI (sl i))]) (rest := []) E hB hK hZ (s_Latin_indexOf l g s.heap.size i x hi) mc_Latin_indexOf ms_Latin_indexOf wd_949 hP hD hS hA [] rfl (by decide) rfl rfl (by decide) rfl hl.1 rfl (Nat.le_of_ble_eq_true rfl) (by decide) d_Str_indexOf_III_17) (fun r3 hr3 => ?_)
    refine lv_goto (tgt := 36) hx hb d_Str_indexOf_III_20 (by decide) ?_
    exact tw_isret E trivial d_Str_indexOf_III_36
set_option maxHeartbeats 4000000 in
set_option maxRecDepth 100000 in
theorem s_Str_indexOf_II (l : Launch) (g : tw_G) (sz : Nat) (i : Nat) (x : Int32) (hi : i < 25) : Met l y_Str_indexOf_II [.code y_Str_indexOf_II b_Str_indexOf_II 2 (some .int)] ({ frames := 3, cells := 0, slots := 0, locals := 70 }) (tw_P g [.ref (g.2.2.1 i), .int x] [] sz) (vp_Si (fun _ => True)) 0 0 (fun _ => False) := by
  refine tw_met (l := l) (g := g) (y := y_Str_indexOf_II) (cc := b_Str_indexOf_II) (maxL := 2) (ret := (some .int)) (rm := { frames := 3, cells := 0, slots := 0, locals := 70 }) (mc := 0) (ms := 0) (av := [.ref (g.2.2.1 i), .int x]) (ws := []) (sz := sz) (Qc := fun _ => (vp_Si (fun _ => True))) (free := fun _ _ => False) (by decide) (Nat.le_of_ble_eq_true rfl) ?_
  intro p e s m below meth c ls A E hB hK hZ hP hD hS hA hl
  obtain ⟨hx, hb, hml, hr, hown, hts, hlocks, hin⟩ := id E
  have hl : lv_has ls 2 [(0, .ref (g.2.2.1 i)), (1, .int x)] := hl
  have hO1 : va_OF "java/lang/String" "coder" "B" (.int 0) (g.2.2.1 i) A s s.heap := ((hZ.2.2.1 i hi).1.1 0 (by decide)).2.1
  have hO2 : va_OF "java/lang/String" "value" "[B" (.ref (g.2.2.2 i)) (g.2.2.1 i) A s s.heap := ((hZ.2.2.1 i hi).1.1 0 (by decide)).2.2.1
  have hT : va_T .byte (g.2.2.2 i) (sl i) (fun j => .int ((st_own i).2.2.2.getD j 0)) A s s.heap := ((hZ.2.2.1 i hi).1.1 0 (by decide)).2.2.2
  refine lv_aload_n hx hb d_Str_indexOf_II_0 rfl (lv_at hl 0 rfl) ?_
  refine lv_iload_n hx hb d_Str_indexOf_II_1 rfl (lv_at hl 1 rfl) ?_
  refine lv_iconst (v := 0) hx hb d_Str_indexOf_II_2 (by decide) ?_
  refine tw_si (tw_runK (ws := []) (As := [.int x, .int 0]) (rest := []) E hB hK hZ (s_Str_indexOf_III l g s.heap.size i x hi) mc_Str_indexOf_III mi_Str_indexOf_III me_Str_indexOf_III wd_944 hP hD hS hA (vk_recv (i := 0) (hZ.2.2.1 i hi).1 (by decide) hS) rfl rfl (by decide) rfl hl.1 rfl (Nat.le_of_ble_eq_true rfl) (by decide) d_Str_indexOf_II_3) (fun r1 hr1 => ?_)
  exact tw_isret E trivial d_Str_indexOf_II_6
set_option maxHeartbeats 4000000 in
set_option maxRecDepth 100000 in
theorem s_Machine_exchange (l : Launch) (g : tw_G) (sz : Nat) (mh s0 l0 t0 : Nat) (lay : Value) (de : Nat) (ms : Nat) (ml : Nat) (mt : Nat) (an : Int32) (oa : Int32) (wd : Int32) (sk : Nat → Int32) (lc : Nat → Int32) (lt : Nat → Int32) (i : Nat) (hM : MI de ms ml mt wd sk) (hi : i < 25) : Met l y_Machine_exchange [.code y_Machine_exchange b_Machine_exchange 6 (some .int)] ({ frames := 4, cells := 0, slots := 0, locals := 91 }) (tw_P g [.ref mh, .ref (g.2.2.1 i)] [(mh, .inr (5, [.ref s0, .ref l0, .ref t0, lay, .int (nI de), .int (nI ms), .int (nI ml), .int (nI mt), .int an, .int oa, .int wd])), (s0, aI g 64 sk), (l0, aI g 64 lc), (t0, aI g 600 lt)] sz) (tw_Qi g (fun r (u : Nat × Nat × Nat × Nat × Int32 × Int32 × Int32 × (Nat → Int32) × (Nat → Int32) × (Nat → Int32)) => True ∧ MI u.1 u.2.1 u.2.2.1 u.2.2.2.1 u.2.2.2.2.2.2.1 u.2.2.2.2.2.2.2.1) (fun u : Nat × Nat × Nat × Nat × Int32 × Int32 × Int32 × (Nat → Int32) × (Nat → Int32) × (Nat → Int32) => [(mh, .inr (5, [.ref s0, .ref l0, .ref t0, lay, .int (nI u.1), .int (nI u.2.1), .int (nI u.2.2.1), .int (nI u.2.2.2.1), .int u.2.2.2.2.1, .int u.2.2.2.2.2.1, .int u.2.2.2.2.2.2.1])), (s0, aI g 64 u.2.2.2.2.2.2.2.1), (l0, aI g 64 u.2.2.2.2.2.2.2.2.1), (t0, aI g 600 u.2.2.2.2.2.2.2.2.2)]) (va_A [(mh, .inr (5, [.ref s0, .ref l0, .ref t0, lay, .int (nI de), .int (nI ms), .int (nI ml), .int (nI mt), .int an, .int oa, .int wd])), (s0, aI g 64 sk), (l0, aI g 64 lc), (t0, aI g 600 lt)] sz)) 0 0 (va_A [(mh, .inr (5, [.ref s0, .ref l0, .ref t0, lay, .int (nI de), .int (nI ms), .int (nI ml), .int (nI mt), .int an, .int oa, .int wd])), (s0, aI g 64 sk), (l0, aI g 64 lc), (t0, aI g 600 lt)] sz) := by
  refine tw_metW (l := l) (g := g) (y := y_Machine_exchange) (cc := b_Machine_exchange) (maxL := 6) (ret := (some .int)) (rm := { frames := 4, cells := 0, slots := 0, locals := 91 }) (mc := 0) (ms := 0) (av := [.ref mh, .ref (g.2.2.1 i)]) (ws := [(mh, .inr (5, [.ref s0, .ref l0, .ref t0, lay, .int (nI de), .int (nI ms), .int (nI ml), .int (nI mt), .int an, .int oa, .int wd])), (s0, aI g 64 sk), (l0, aI g 64 lc), (t0, aI g 600 lt)]) (sz := sz) (Qc := fun A => (tw_Qi g (fun r (u : Nat × Nat × Nat × Nat × Int32 × Int32 × Int32 × (Nat → Int32) × (Nat → Int32) × (Nat → Int32)) => True ∧ MI u.1 u.2.1 u.2.2.1 u.2.2.2.1 u.2.2.2.2.2.2.1 u.2.2.2.2.2.2.2.1) (fun u : Nat × Nat × Nat × Nat × Int32 × Int32 × Int32 × (Nat → Int32) × (Nat → Int32) × (Nat → Int32) => [(mh, .inr (5, [.ref s0, .ref l0, .ref t0, lay, .int (nI u.1), .int (nI u.2.1), .int (nI u.2.2.1), .int (nI u.2.2.2.1), .int u.2.2.2.2.1, .int u.2.2.2.2.2.1, .int u.2.2.2.2.2.2.1])), (s0, aI g 64 u.2.2.2.2.2.2.2.1), (l0, aI g 64 u.2.2.2.2.2.2.2.2.1), (t0, aI g 600 u.2.2.2.2.2.2.2.2.2)]) A)) (by decide) (Nat.le_of_ble_eq_true rfl) ?_
  intro p e s m below meth c ls H A E hB hK hZ hP hD hS hA hl
  obtain ⟨hx, hb, hml, hr, hown, hts, hlocks, hin⟩ := id E
  have hl : lv_has ls 6 [(0, .ref mh), (1, .ref (g.2.2.1 i))] := hl
  have hsl := sl_le i hi
  refine lv_aload_n hx hb d_Machine_exchange_0 rfl (lv_at hl 1 rfl) ?_
  refine lv_bipush (v := 58) hx hb d_Machine_exchange_1 (by decide) ?_
  refine tw_si (tw_runK (ws := [(mh, .inr (5, [.ref s0, .ref l0, .ref t0, lay, .int (nI de), .int (nI ms), .int (nI ml), .int (nI mt), .int an, .int oa, .int wd])), (s0, aI g 64 sk), (l0, aI g 64 lc), (t0, aI g 600 lt)]) (As := [.int 58]) (rest := []) E hB hK hZ (s_Str_indexOf_II l g H.size i 58 hi) mc_Str_indexOf_II mi_Str_indexOf_II me_Str_indexOf_II wd_940 hP hD hS hA (vk_recv (i := 0) (hZ.2.2.1 i hi).1 (by decide) hS) rfl rfl (by decide) rfl hl.1 rfl (Nat.le_of_ble_eq_true rfl) (by decide) d_Machine_exchange_3) (fun r1 hr1 => ?_)
  refine lv_istore_n hx hb d_Machine_exchange_6 rfl hl (by decide) rfl (fun ls hl => ?_)
  have hl : lv_has ls 6 [(2, .int r1), (0, .ref mh), (1, .ref (g.2.2.1 i))] := hl
  refine lv_iconst (v := 0) hx hb d_Machine_exchange_7 (by decide) ?_
  refine lv_istore_n hx hb d_Machine_exchange_8 rfl hl (by decide) rfl (fun ls hl => ?_)
  have hl : lv_has ls 6 [(3, .int 0), (2, .int r1), (0, .ref mh), (1, .ref (g.2.2.1 i))] := hl
  refine lv_iconst (v := 0) hx hb d_Machine_exchange_9 (by decide) ?_
  refine lv_istore hx hb d_Machine_exchange_10 hl (by decide) rfl (fun ls hl => ?_)
  have hl : lv_has ls 6 [(4, .int 0), (3, .int 0), (2, .int r1), (0, .ref mh), (1, .ref (g.2.2.1 i))] := hl
  have loop12 : ∀ (kq : Nat) (j : Nat) (f9 : Int32) (de9 : Nat) (ms9 : Nat) (ml9 : Nat) (mt9 : Nat) (an9 : Int32) (oa9 : Int32) (wd9 : Int32) (sk9 : Nat → Int32) (lc9 : Nat → Int32) (lt9 : Nat → Int32) (ls : Array Slot) (H : Heap) (locs : List Loc) , sl i - j = kq → (hM9 : MI de9 ms9 ml9 mt9 wd9 sk9) → (hj : j ≤ sl i) → lv_has ls 6 [(4, .int (nI j)), (3, .int f9), (2, .int r1), (0, .ref mh), (1, .ref (g.2.2.1 i))] → va_P g.1 classes [(mh, .inr (5, [.ref s0, .ref l0, .ref t0, lay, .int (nI de9), .int (nI ms9), .int (nI ml9), .int (nI mt9), .int an9, .int oa9, .int wd9])), (s0, aI g 64 sk9), (l0, aI g 64 lc9), (t0, aI g 600 lt9)] H → va_D A [(mh, .inr (5, [.ref s0, .ref l0, .ref t0, lay, .int (nI de9), .int (nI ms9), .int (nI ml9), .int (nI mt9), .int an9, .int oa9, .int wd9])), (s0, aI g 64 sk9), (l0, aI g 64 lc9), (t0, aI g 600 lt9)] → va_S A s.heap H locs → W p l e ({ frames := 4, cells := 0, slots := 0, locals := 91 }) s m [.ref mh, .ref (g.2.2.1 i)].toArray below meth c H locs 0 0 (MQ below (tw_Qi g (fun r (u : Nat × Nat × Nat × Nat × Int32 × Int32 × Int32 × (Nat → Int32) × (Nat → Int32) × (Nat → Int32)) => True ∧ MI u.1 u.2.1 u.2.2.1 u.2.2.2.1 u.2.2.2.2.2.2.1 u.2.2.2.2.2.2.2.1) (fun u : Nat × Nat × Nat × Nat × Int32 × Int32 × Int32 × (Nat → Int32) × (Nat → Int32) × (Nat → Int32) => [(mh, .inr (5, [.ref s0, .ref l0, .ref t0, lay, .int (nI u.1), .int (nI u.2.1), .int (nI u.2.2.1), .int (nI u.2.2.2.1), .int u.2.2.2.2.1, .int u.2.2.2.2.2.1, .int u.2.2.2.2.2.2.1])), (s0, aI g 64 u.2.2.2.2.2.2.2.1), (l0, aI g 64 u.2.2.2.2.2.2.2.2.1), (t0, aI g 600 u.2.2.2.2.2.2.2.2.2)]) A) [.ref mh, .ref (g.2.2.1 i)].toArray s 0 0 A) (F0 m 12 ls []) := by
    intro kq
    induction kq using Nat.strongRecOn with
    | _ kq ih =>
      intro j f9 de9 ms9 ml9 mt9 an9 oa9 wd9 sk9 lc9 lt9 ls H locs hk hM9 hj hl hP hD hS
      refine lv_iload hx hb d_Machine_exchange_12 (lv_at hl 0 rfl) ?_
      refine lv_aload_n hx hb d_Machine_exchange_14 rfl (lv_at hl 4 rfl) ?_
      refine tw_si (tw_runK (ws := [(mh, .inr (5, [.ref s0, .ref l0, .ref t0, lay, .int (nI de9), .int (nI ms9), .int (nI ml9), .int (nI mt9), .int an9, .int oa9, .int wd9])), (s0, aI g 64 sk9), (l0, aI g 64 lc9), (t0, aI g 600 lt9)]) (As := []) (rest := [.int (nI j)]) E hB hK hZ (s_Str_length l g H.size i hi) mc_Str_length mi_Str_length me_Str_length wd_997 hP hD hS hA (vk_recv (i := 0) (hZ.2.2.1 i hi).1 (by decide) hS) rfl rfl (by decide) rfl hl.1 rfl (Nat.le_of_ble_eq_true rfl) (by decide) d_Machine_exchange_15) (fun r2 hr2 => ?_)
      obtain rfl : r2 = nI (sl i) := hr2
      refine lv_icmp_ge (tgt := 71) hx hb d_Machine_exchange_18 (by decide) (fun h18 => ?_) (fun h18 => ?_)
      · refine lv_iload_n hx hb d_Machine_exchange_71 rfl (lv_at hl 1 rfl) ?_
        exact tw_iret E hS (de9, ms9, ml9, mt9, an9, oa9, wd9, sk9, lc9, lt9) ⟨trivial, hM9⟩ hP hD d_Machine_exchange_72
      · have h18 := tn_nle h18 (by omega) (by omega)
        refine lv_iload_n hx hb d_Machine_exchange_21 rfl (lv_at hl 1 rfl) ?_
        refine lv_if_ne (tgt := 71) hx hb d_Machine_exchange_22 (by decide) (fun h22 => ?_) (fun h22 => ?_)
        · refine lv_iload_n hx hb d_Machine_exchange_71 rfl (lv_at hl 1 rfl) ?_
          exact tw_iret E hS (de9, ms9, ml9, mt9, an9, oa9, wd9, sk9, lc9, lt9) ⟨trivial, hM9⟩ hP hD d_Machine_exchange_72
        · refine lv_aload_n hx hb d_Machine_exchange_25 rfl (lv_at hl 4 rfl) ?_
          refine lv_iload hx hb d_Machine_exchange_26 (lv_at hl 0 rfl) ?_
          refine tw_si (tw_runK (ws := [(mh, .inr (5, [.ref s0, .ref l0, .ref t0, lay, .int (nI de9), .int (nI ms9), .int (nI ml9), .int (nI mt9), .int an9, .int oa9, .int wd9])), (s0, aI g 64 sk9), (l0, aI g 64 lc9), (t0, aI g 600 lt9)]) (As := [.int (nI j)]) (rest := []) E hB hK hZ (s_Str_charAt l g H.size i (nI j) (nI_pos (by omega)) ((nI_ltI (by omega) (by omega)).mpr (by omega)) hi) mc_Str_charAt mi_Str_charAt me_Str_charAt wd_998 hP hD hS hA (vk_recv (i := 0) (hZ.2.2.1 i hi).1 (by decide) hS) rfl rfl (by decide) rfl hl.1 rfl (Nat.le_of_ble_eq_true rfl) (by decide) d_Machine_exchange_28) (fun r3 hr3 => ?_)
          refine tw_si (tw_runS (ws := [(mh, .inr (5, [.ref s0, .ref l0, .ref t0, lay, .int (nI de9), .int (nI ms9), .int (nI ml9), .int (nI mt9), .int an9, .int oa9, .int wd9])), (s0, aI g 64 sk9), (l0, aI g 64 lc9), (t0, aI g 600 lt9)]) (wc := []) (As := [.int r3]) (rest := []) E hB hK hZ (s_Grammar_kindOf l g H.size r3) mc_Grammar_kindOf ms_Grammar_kindOf wd_778 hP hD hS hA [] rfl (by decide) rfl rfl (by decide) rfl hl.1 rfl (Nat.le_of_ble_eq_true rfl) (by decide) d_Machine_exchange_31) (fun r4 hr4 => ?_)
          refine lv_istore hx hb d_Machine_exchange_34 hl (by decide) rfl (fun ls hl => ?_)
          have hl : lv_has ls 6 [(5, .int r4), (4, .int (nI j)), (3, .int f9), (2, .int r1), (0, .ref mh), (1, .ref (g.2.2.1 i))] := hl
          refine lv_iload hx hb d_Machine_exchange_36 (lv_at hl 1 rfl) ?_
          refine lv_iload_n hx hb d_Machine_exchange_38 rfl (lv_at hl 3 rfl) ?_
          refine lv_icmp_ge (tgt := 52) hx hb d_Machine_exchange_39 (by decide) (fun h39 => ?_) (fun h39 => ?_)
          · refine lv_iload hx hb d_Machine_exchange_52 (lv_at hl 1 rfl) ?_
            refine lv_iload_n hx hb d_Machine_exchange_54 rfl (lv_at hl 3 rfl) ?_
            refine lv_icmp_le (tgt := 65) hx hb d_Machine_exchange_55 (by decide) (fun h55 => ?_) (fun h55 => ?_)
            · refine lv_iinc (k := 1) (v := nI (j + 1)) hx hb d_Machine_exchange_65 hl rfl ((nI_succ j).symm) (by decide) rfl (fun ls hl => ?_)
              have hl : lv_has ls 6 [(4, .int (nI (j + 1))), (5, .int r4), (3, .int f9), (2, .int r1), (0, .ref mh), (1, .ref (g.2.2.1 i))] := hl
              refine lv_goto (tgt := 12) hx hb d_Machine_exchange_68 (by decide) ?_
              have hP : va_P g.1 classes [(mh, .inr (5, [.ref s0, .ref l0, .ref t0, lay, .int (nI de9), .int (nI ms9), .int (nI ml9), .int (nI mt9), .int an9, .int oa9, .int wd9])), (s0, aI g 64 sk9), (l0, aI g 64 lc9), (t0, aI g 600 lt9)] H := hP.sub [0, 1, 2, 3] rfl
              have hD : va_D A [(mh, .inr (5, [.ref s0, .ref l0, .ref t0, lay, .int (nI de9), .int (nI ms9), .int (nI ml9), .int (nI mt9), .int an9, .int oa9, .int wd9])), (s0, aI g 64 sk9), (l0, aI g 64 lc9), (t0, aI g 600 lt9)] := hD.sub [0, 1, 2, 3] (by decide) rfl
              exact ih _ (by omega) (j + 1) f9 de9 ms9 ml9 mt9 an9 oa9 wd9 sk9 lc9 lt9 ls _ _ rfl hM9 (by omega) (lv_sub hl [0, 2, 3, 4, 5] rfl) hP hD hS
            · refine lv_aload_n hx hb d_Machine_exchange_58 rfl (lv_at hl 4 rfl) ?_
              refine lv_iload hx hb d_Machine_exchange_59 (lv_at hl 0 rfl) ?_
              refine tw_wi (wr := []) (tw_runV (ws := [(mh, .inr (5, [.ref s0, .ref l0, .ref t0, lay, .int (nI de9), .int (nI ms9), .int (nI ml9), .int (nI mt9), .int an9, .int oa9, .int wd9])), (s0, aI g 64 sk9), (l0, aI g 64 lc9), (t0, aI g 600 lt9)]) (wc := [(mh, .inr (5, [.ref s0, .ref l0, .ref t0, lay, .int (nI de9), .int (nI ms9), .int (nI ml9), .int (nI mt9), .int an9, .int oa9, .int wd9])), (s0, aI g 64 sk9), (l0, aI g 64 lc9), (t0, aI g 600 lt9)]) (As := [.int r4]) (rest := []) E hB hK hZ (s_Machine_push l g H.size mh s0 l0 t0 lay de9 ms9 ml9 mt9 an9 oa9 wd9 sk9 lc9 lt9 r4  hM9 ((sf_kd hr4).1) ((sf_kd hr4).2)) mc_Machine_push mi_Machine_push me_Machine_push wd_858 hP hD hS hA [0, 1, 2, 3] rfl (by decide) 0 rfl rfl rfl rfl rfl (by decide) rfl hl.1 rfl (Nat.le_of_ble_eq_true rfl) (by decide) d_Machine_exchange_61) hP hD hS hA [0, 1, 2, 3] [] rfl rfl (by decide) (by decide) (fun r5 u6 H locs hr5 hP hD hS => ?_)
              try dsimp only at hr5
              have hP : va_P g.1 classes [(mh, .inr (5, [.ref s0, .ref l0, .ref t0, lay, .int (nI u6.1), .int (nI u6.2.1), .int (nI u6.2.2.1), .int (nI u6.2.2.2.1), .int u6.2.2.2.2.1, .int u6.2.2.2.2.2.1, .int u6.2.2.2.2.2.2.1])), (s0, aI g 64 u6.2.2.2.2.2.2.2.1), (l0, aI g 64 u6.2.2.2.2.2.2.2.2.1), (t0, aI g 600 u6.2.2.2.2.2.2.2.2.2)] H := hP
              have hD : va_D A [(mh, .inr (5, [.ref s0, .ref l0, .ref t0, lay, .int (nI u6.1), .int (nI u6.2.1), .int (nI u6.2.2.1), .int (nI u6.2.2.2.1), .int u6.2.2.2.2.1, .int u6.2.2.2.2.2.1, .int u6.2.2.2.2.2.2.1])), (s0, aI g 64 u6.2.2.2.2.2.2.2.1), (l0, aI g 64 u6.2.2.2.2.2.2.2.2.1), (t0, aI g 600 u6.2.2.2.2.2.2.2.2.2)] := hD
              have hP : va_P g.1 classes [(mh, .inr (5, [.ref s0, .ref l0, .ref t0, lay, .int (nI u6.1), .int (nI u6.2.1), .int (nI u6.2.2.1), .int (nI u6.2.2.2.1), .int u6.2.2.2.2.1, .int u6.2.2.2.2.2.1, .int u6.2.2.2.2.2.2.1])), (s0, aI g 64 u6.2.2.2.2.2.2.2.1), (l0, aI g 64 u6.2.2.2.2.2.2.2.2.1), (t0, aI g 600 u6.2.2.2.2.2.2.2.2.2)] H := hP.sub [0, 1, 2, 3] rfl
              have hD : va_D A [(mh, .inr (5, [.ref s0, .ref l0, .ref t0, lay, .int (nI u6.1), .int (nI u6.2.1), .int (nI u6.2.2.1), .int (nI u6.2.2.2.1), .int u6.2.2.2.2.1, .int u6.2.2.2.2.2.1, .int u6.2.2.2.2.2.2.1])), (s0, aI g 64 u6.2.2.2.2.2.2.2.1), (l0, aI g 64 u6.2.2.2.2.2.2.2.2.1), (t0, aI g 600 u6.2.2.2.2.2.2.2.2.2)] := hD.sub [0, 1, 2, 3] (by decide) rfl
              obtain ⟨_, hV6_0⟩ := hr5
              refine lv_istore_n hx hb d_Machine_exchange_64 rfl hl (by decide) rfl (fun ls hl => ?_)
              have hl : lv_has ls 6 [(3, .int r5), (5, .int r4), (4, .int (nI j)), (2, .int r1), (0, .ref mh), (1, .ref (g.2.2.1 i))] := hl
              refine lv_iinc (k := 2) (v := nI (j + 1)) hx hb d_Machine_exchange_65 hl rfl ((nI_succ j).symm) (by decide) rfl (fun ls hl => ?_)
              have hl : lv_has ls 6 [(4, .int (nI (j + 1))), (3, .int r5), (5, .int r4), (2, .int r1), (0, .ref mh), (1, .ref (g.2.2.1 i))] := hl
              refine lv_goto (tgt := 12) hx hb d_Machine_exchange_68 (by decide) ?_
              have hP : va_P g.1 classes [(mh, .inr (5, [.ref s0, .ref l0, .ref t0, lay, .int (nI u6.1), .int (nI u6.2.1), .int (nI u6.2.2.1), .int (nI u6.2.2.2.1), .int u6.2.2.2.2.1, .int u6.2.2.2.2.2.1, .int u6.2.2.2.2.2.2.1])), (s0, aI g 64 u6.2.2.2.2.2.2.2.1), (l0, aI g 64 u6.2.2.2.2.2.2.2.2.1), (t0, aI g 600 u6.2.2.2.2.2.2.2.2.2)] H := hP.sub [0, 1, 2, 3] rfl
              have hD : va_D A [(mh, .inr (5, [.ref s0, .ref l0, .ref t0, lay, .int (nI u6.1), .int (nI u6.2.1), .int (nI u6.2.2.1), .int (nI u6.2.2.2.1), .int u6.2.2.2.2.1, .int u6.2.2.2.2.2.1, .int u6.2.2.2.2.2.2.1])), (s0, aI g 64 u6.2.2.2.2.2.2.2.1), (l0, aI g 64 u6.2.2.2.2.2.2.2.2.1), (t0, aI g 600 u6.2.2.2.2.2.2.2.2.2)] := hD.sub [0, 1, 2, 3] (by decide) rfl
              exact ih _ (by omega) (j + 1) r5 u6.1 u6.2.1 u6.2.2.1 u6.2.2.2.1 u6.2.2.2.2.1 u6.2.2.2.2.2.1 u6.2.2.2.2.2.2.1 u6.2.2.2.2.2.2.2.1 u6.2.2.2.2.2.2.2.2.1 u6.2.2.2.2.2.2.2.2.2 ls _ _ rfl hV6_0 (by omega) (lv_sub hl [0, 1, 3, 4, 5] rfl) hP hD hS
          · refine lv_aload_n hx hb d_Machine_exchange_42 rfl (lv_at hl 4 rfl) ?_
            refine lv_iload hx hb d_Machine_exchange_43 (lv_at hl 0 rfl) ?_
            refine tw_wi (wr := []) (tw_runV (ws := [(mh, .inr (5, [.ref s0, .ref l0, .ref t0, lay, .int (nI de9), .int (nI ms9), .int (nI ml9), .int (nI mt9), .int an9, .int oa9, .int wd9])), (s0, aI g 64 sk9), (l0, aI g 64 lc9), (t0, aI g 600 lt9)]) (wc := [(mh, .inr (5, [.ref s0, .ref l0, .ref t0, lay, .int (nI de9), .int (nI ms9), .int (nI ml9), .int (nI mt9), .int an9, .int oa9, .int wd9])), (s0, aI g 64 sk9), (l0, aI g 64 lc9), (t0, aI g 600 lt9)]) (As := [.int r4]) (rest := []) E hB hK hZ (s_Machine_take l g H.size mh s0 l0 t0 lay de9 ms9 ml9 mt9 an9 oa9 wd9 sk9 lc9 lt9 r4  hM9 ) mc_Machine_take mi_Machine_take me_Machine_take wd_854 hP hD hS hA [0, 1, 2, 3] rfl (by decide) 0 rfl rfl rfl rfl rfl (by decide) rfl hl.1 rfl (Nat.le_of_ble_eq_true rfl) (by decide) d_Machine_exchange_45) hP hD hS hA [0, 1, 2, 3] [] rfl rfl (by decide) (by decide) (fun r7 u8 H locs hr7 hP hD hS => ?_)
            try dsimp only at hr7
            have hP : va_P g.1 classes [(mh, .inr (5, [.ref s0, .ref l0, .ref t0, lay, .int (nI u8.1), .int (nI u8.2.1), .int (nI u8.2.2.1), .int (nI u8.2.2.2.1), .int u8.2.2.2.2.1, .int u8.2.2.2.2.2.1, .int u8.2.2.2.2.2.2.1])), (s0, aI g 64 u8.2.2.2.2.2.2.2.1), (l0, aI g 64 u8.2.2.2.2.2.2.2.2.1), (t0, aI g 600 u8.2.2.2.2.2.2.2.2.2)] H := hP
            have hD : va_D A [(mh, .inr (5, [.ref s0, .ref l0, .ref t0, lay, .int (nI u8.1), .int (nI u8.2.1), .int (nI u8.2.2.1), .int (nI u8.2.2.2.1), .int u8.2.2.2.2.1, .int u8.2.2.2.2.2.1, .int u8.2.2.2.2.2.2.1])), (s0, aI g 64 u8.2.2.2.2.2.2.2.1), (l0, aI g 64 u8.2.2.2.2.2.2.2.2.1), (t0, aI g 600 u8.2.2.2.2.2.2.2.2.2)] := hD
            have hP : va_P g.1 classes [(mh, .inr (5, [.ref s0, .ref l0, .ref t0, lay, .int (nI u8.1), .int (nI u8.2.1), .int (nI u8.2.2.1), .int (nI u8.2.2.2.1), .int u8.2.2.2.2.1, .int u8.2.2.2.2.2.1, .int u8.2.2.2.2.2.2.1])), (s0, aI g 64 u8.2.2.2.2.2.2.2.1), (l0, aI g 64 u8.2.2.2.2.2.2.2.2.1), (t0, aI g 600 u8.2.2.2.2.2.2.2.2.2)] H := hP.sub [0, 1, 2, 3] rfl
            have hD : va_D A [(mh, .inr (5, [.ref s0, .ref l0, .ref t0, lay, .int (nI u8.1), .int (nI u8.2.1), .int (nI u8.2.2.1), .int (nI u8.2.2.2.1), .int u8.2.2.2.2.1, .int u8.2.2.2.2.2.1, .int u8.2.2.2.2.2.2.1])), (s0, aI g 64 u8.2.2.2.2.2.2.2.1), (l0, aI g 64 u8.2.2.2.2.2.2.2.2.1), (t0, aI g 600 u8.2.2.2.2.2.2.2.2.2)] := hD.sub [0, 1, 2, 3] (by decide) rfl
            obtain ⟨_, hV8_0, hX8_0, hX8_1⟩ := hr7
            refine lv_istore_n hx hb d_Machine_exchange_48 rfl hl (by decide) rfl (fun ls hl => ?_)
            have hl : lv_has ls 6 [(3, .int r7), (5, .int r4), (4, .int (nI j)), (2, .int r1), (0, .ref mh), (1, .ref (g.2.2.1 i))] := hl
            refine lv_goto (tgt := 65) hx hb d_Machine_exchange_49 (by decide) ?_
            refine lv_iinc (k := 2) (v := nI (j + 1)) hx hb d_Machine_exchange_65 hl rfl ((nI_succ j).symm) (by decide) rfl (fun ls hl => ?_)
            have hl : lv_has ls 6 [(4, .int (nI (j + 1))), (3, .int r7), (5, .int r4), (2, .int r1), (0, .ref mh), (1, .ref (g.2.2.1 i))] := hl
            refine lv_goto (tgt := 12) hx hb d_Machine_exchange_68 (by decide) ?_
            have hP : va_P g.1 classes [(mh, .inr (5, [.ref s0, .ref l0, .ref t0, lay, .int (nI u8.1), .int (nI u8.2.1), .int (nI u8.2.2.1), .int (nI u8.2.2.2.1), .int u8.2.2.2.2.1, .int u8.2.2.2.2.2.1, .int u8.2.2.2.2.2.2.1])), (s0, aI g 64 u8.2.2.2.2.2.2.2.1), (l0, aI g 64 u8.2.2.2.2.2.2.2.2.1), (t0, aI g 600 u8.2.2.2.2.2.2.2.2.2)] H := hP.sub [0, 1, 2, 3] rfl
            have hD : va_D A [(mh, .inr (5, [.ref s0, .ref l0, .ref t0, lay, .int (nI u8.1), .int (nI u8.2.1), .int (nI u8.2.2.1), .int (nI u8.2.2.2.1), .int u8.2.2.2.2.1, .int u8.2.2.2.2.2.1, .int u8.2.2.2.2.2.2.1])), (s0, aI g 64 u8.2.2.2.2.2.2.2.1), (l0, aI g 64 u8.2.2.2.2.2.2.2.2.1), (t0, aI g 600 u8.2.2.2.2.2.2.2.2.2)] := hD.sub [0, 1, 2, 3] (by decide) rfl
            exact ih _ (by omega) (j + 1) r7 u8.1 u8.2.1 u8.2.2.1 u8.2.2.2.1 u8.2.2.2.2.1 u8.2.2.2.2.2.1 u8.2.2.2.2.2.2.1 u8.2.2.2.2.2.2.2.1 u8.2.2.2.2.2.2.2.2.1 u8.2.2.2.2.2.2.2.2.2 ls _ _ rfl hV8_0 (by omega) (lv_sub hl [0, 1, 3, 4, 5] rfl) hP hD hS
  exact loop12 _ 0 0 de ms ml mt an oa wd sk lc lt ls _ _ rfl hM (Nat.zero_le _) (hl) hP hD hS
