set_option maxHeartbeats 8000000 in
set_option maxRecDepth 100000 in
theorem lg_loop {p : Program} {e : Env} {s : State} {m : MethodId} {below : List Frame} {meth : Method} {c : Code} (l : Launch) (hfl : l.flags = flags0) (g : tw_G) {b L : Nat} {xs : Nat → Int32} {A : Nat → Prop} (hA : ∀ q, s.heap.size ≤ q → A q) (hA2 : ∀ q, A q → s.heap.size ≤ q) (E : tw_E p s m #[Value.ref b] meth c code 7 ret "ShippedClassLaw" meth.name) (hB : tw_B s) (hK : va_K g.1 classes (tw_ty g) s) (hZ : tw_CX g A s s.heap) (hXs : va_X b L xs s s.heap) (hbl : b < s.heap.size) (hL : L ≤ 3072) (h0 h1 o : Nat) : ∀ (d t : Nat), L - 6 * t = d → 6 * t ≤ L + 6 → ∀ (H : Heap) (locs : List Loc) (ls : Array Slot), lv_has ls 7 [(4, .int (nI (6 * t))), (3, .ref o), (2, .ref h1), (1, .ref h0), (0, .ref b)] → LWI g A h0 h1 o H → va_S A s.heap H locs → W p l e room_1 s m #[Value.ref b] below meth c H locs (86 + t) (183553 + 6 * t) (lw_Z below #[Value.ref b] s) (F0 m 23 ls []) := by
  obtain ⟨hx, hb, hml, hr, hown, hts, hlocks, hin⟩ := id E
  have hbA : ¬ A b := fun h => absurd (hA2 b h) (by omega)
  intro d
  induction d using Nat.strongRecOn with
  | _ d ih =>
    intro t hd ht6 H locs ls hl hI hS
    have hl : lv_has ls 7 [(4, .int (nI (6 * t))), (3, .ref o), (2, .ref h1), (1, .ref h0), (0, .ref b)] := hl
    refine lv_iload hx hb d_Law_law_23 (lv_at hl 0 rfl) ?_
    refine lv_aload_n hx hb d_Law_law_25 rfl (lv_at hl 4 rfl) ?_
    refine va_slen hx hb hXs hbl hbA hS d_Law_law_26 ?_
    refine lv_bipush (v := 6) hx hb d_Law_law_27 (by decide) ?_
    refine lv_isub hx hb d_Law_law_29 ?_
    refine lv_icmp_gt (tgt := 600) hx hb d_Law_law_30 (by decide) (fun h30 => ?_) (fun h30 => ?_)
    · refine lv_iconst (v := 1) hx hb d_Law_law_600 (by decide) ?_
      refine va_forget (fun q h => hA2 _ (hS.2.2 q h)) ?_
      refine W.widen (k := 601024) (n := 7293034) (by omega) (by omega) ?_
      exact lw_ret hx hb hr hlocks d_Law_law_601
    · have ht : 6 * t + 6 ≤ L := lg_more h30 hL ht6
      refine lv_aload_n hx hb d_Law_law_33 rfl (lv_at hl 4 rfl) ?_
      refine lv_iload hx hb d_Law_law_34 (lv_at hl 0 rfl) ?_
      refine va_sld hx hb hXs hbl hbA hS (vp_in_nI (by omega) (by omega)) d_Law_law_36 ?_
      refine tw_ri (e2 := xs (6 * t)) (by rw [nI_clamp (by omega)]) ?_
      refine lv_bipush (v := 15) hx hb d_Law_law_37 (by decide) ?_
      refine lv_iand hx hb d_Law_law_39 ?_
      have hnext : ∀ (H : Heap) (locs : List Loc) (ls : Array Slot), lv_has ls 7 [(4, .int (nI (6 * t))), (3, .ref o), (2, .ref h1), (1, .ref h0), (0, .ref b)] → LWI g A h0 h1 o H → va_S A s.heap H locs → W p l e room_1 s m #[Value.ref b] below meth c H locs (86 + t + 1) (183553 + 6 * t + 6) (lw_Z below #[Value.ref b] s) (F0 m 594 ls []) := by
        intro H locs ls hl hI hS
        refine lv_iinc (k := 0) (v := nI (6 * (t + 1))) hx hb d_Law_law_594 hl rfl (by rw [Nat.mul_add]; exact nI_add _ 6) (by decide) rfl (fun ls hl => ?_)
        have hl : lv_has ls 7 [(4, .int (nI (6 * (t + 1)))), (3, .ref o), (2, .ref h1), (1, .ref h0), (0, .ref b)] := hl
        refine lv_goto (tgt := 23) hx hb d_Law_law_597 (by decide) ?_
        exact ih (L - 6 * (t + 1)) (by omega) (t + 1) rfl (by omega) H locs ls (lv_sub hl [0, 1, 2, 3, 4] rfl) hI hS
      obtain ⟨j, hj, he⟩ := pk_andE (xs (6 * t)) (m := 15) 4 (by decide)
      refine tw_ri he ?_
      rcases (show j = 0 ∨ j = 1 ∨ j = 2 ∨ j = 3 ∨ j = 4 ∨ j = 5 ∨ j = 6 ∨ j = 7 ∨ j = 8 ∨ j = 9 ∨ j = 10 ∨ j = 11 ∨ j = 12 ∨ j = 13 ∨ j = 14 ∨ j = 15 by omega) with rfl | rfl | rfl | rfl | rfl | rfl | rfl | rfl | rfl | rfl | rfl | rfl | rfl | rfl | rfl | rfl
      · refine lv_tableIn (tgt := 100) (off := 60) hx hb d_Law_law_40 (by decide) (by decide) rfl (by decide) ?_
        exact lg_case0 l hfl g hA hA2 E hB hK hZ hXs hbl hL t ht h0 h1 o H locs ls hl hI hS hnext
      · refine lv_tableIn (tgt := 176) (off := 136) hx hb d_Law_law_40 (by decide) (by decide) rfl (by decide) ?_
        exact lg_case1 l hfl g hA hA2 E hB hK hZ hXs hbl hL t ht h0 h1 o H locs ls hl hI hS hnext
      · refine lv_tableIn (tgt := 216) (off := 176) hx hb d_Law_law_40 (by decide) (by decide) rfl (by decide) ?_
        exact lg_case2 l hfl g hA hA2 E hB hK hZ hXs hbl hL t ht h0 h1 o H locs ls hl hI hS hnext
      · refine lv_tableIn (tgt := 244) (off := 204) hx hb d_Law_law_40 (by decide) (by decide) rfl (by decide) ?_
        exact lg_case3 l hfl g hA hA2 E hB hK hZ hXs hbl hL t ht h0 h1 o H locs ls hl hI hS hnext
      · refine lv_tableIn (tgt := 300) (off := 260) hx hb d_Law_law_40 (by decide) (by decide) rfl (by decide) ?_
        exact lg_case4 l hfl g hA hA2 E hB hK hZ hXs hbl hL t ht h0 h1 o H locs ls hl hI hS hnext
      · refine lv_tableIn (tgt := 368) (off := 328) hx hb d_Law_law_40 (by decide) (by decide) rfl (by decide) ?_
        exact lg_case5 l hfl g hA hA2 E hB hK hZ hXs hbl hL t ht h0 h1 o H locs ls hl hI hS hnext
      · refine lv_tableIn (tgt := 381) (off := 341) hx hb d_Law_law_40 (by decide) (by decide) rfl (by decide) ?_
        exact lg_case6 l hfl g hA hA2 E hB hK hZ hXs hbl hL t ht h0 h1 o H locs ls hl hI hS hnext
      · refine lv_tableIn (tgt := 394) (off := 354) hx hb d_Law_law_40 (by decide) (by decide) rfl (by decide) ?_
        exact lg_case7 l hfl g hA hA2 E hB hK hZ hXs hbl hL t ht h0 h1 o H locs ls hl hI hS hnext
      · refine lv_tableIn (tgt := 422) (off := 382) hx hb d_Law_law_40 (by decide) (by decide) rfl (by decide) ?_
        exact lg_case8 l hfl g hA hA2 E hB hK hZ hXs hbl hL t ht h0 h1 o H locs ls hl hI hS hnext
      · refine lv_tableIn (tgt := 474) (off := 434) hx hb d_Law_law_40 (by decide) (by decide) rfl (by decide) ?_
        exact lg_case9 l hfl g hA hA2 E hB hK hZ hXs hbl hL t ht h0 h1 o H locs ls hl hI hS hnext
      · refine lv_tableIn (tgt := 514) (off := 474) hx hb d_Law_law_40 (by decide) (by decide) rfl (by decide) ?_
        exact lg_case10 l hfl g hA hA2 E hB hK hZ hXs hbl hL t ht h0 h1 o H locs ls hl hI hS hnext
      · refine lv_tableOut (tgt := 594) hx hb d_Law_law_40 (Or.inr (by decide)) (by decide) ?_
        refine W.widen (k := 86 + t + 1) (n := 183553 + 6 * t + 6) (by omega) (by omega) ?_
        exact hnext H locs ls hl hI hS
      · refine lv_tableOut (tgt := 594) hx hb d_Law_law_40 (Or.inr (by decide)) (by decide) ?_
        refine W.widen (k := 86 + t + 1) (n := 183553 + 6 * t + 6) (by omega) (by omega) ?_
        exact hnext H locs ls hl hI hS
      · refine lv_tableOut (tgt := 594) hx hb d_Law_law_40 (Or.inr (by decide)) (by decide) ?_
        refine W.widen (k := 86 + t + 1) (n := 183553 + 6 * t + 6) (by omega) (by omega) ?_
        exact hnext H locs ls hl hI hS
      · refine lv_tableOut (tgt := 594) hx hb d_Law_law_40 (Or.inr (by decide)) (by decide) ?_
        refine W.widen (k := 86 + t + 1) (n := 183553 + 6 * t + 6) (by omega) (by omega) ?_
        exact hnext H locs ls hl hI hS
      · refine lv_tableOut (tgt := 594) hx hb d_Law_law_40 (Or.inr (by decide)) (by decide) ?_
        refine W.widen (k := 86 + t + 1) (n := 183553 + 6 * t + 6) (by omega) (by omega) ?_
        exact hnext H locs ls hl hI hS
