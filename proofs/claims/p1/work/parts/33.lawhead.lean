set_option maxHeartbeats 4000000 in
set_option maxRecDepth 100000 in
theorem lp_head {p : Program} {e : Env} {s : State} {m : MethodId} {below : List Frame} {meth : Method} {c : Code} (l : Launch) (hfl : l.flags = flags0) (g : tw_G) {b L : Nat} {xs : Nat → Int32} {A : Nat → Prop} (hA : ∀ q, s.heap.size ≤ q → A q) (hA2 : ∀ q, A q → s.heap.size ≤ q) (E : tw_E p s m #[Value.ref b] meth c code 7 ret "ShippedClassLaw" meth.name) (hB : tw_B s) (hK : va_K g.1 classes (tw_ty g) s) (hX : tw_X A s s.heap) (hN : tw_N s) (hXs : va_X b L xs s s.heap) (hbl : b < s.heap.size) (hL : L ≤ 6) (h0 h1 o r p0 p1 p2 : Nat) (q w qm : Nat → Nat) (H : Heap) (locs : List Loc) (ls : Array Slot) (hl : lv_has ls 7 [(4, .int 0), (3, .ref o), (2, .ref h1), (1, .ref h0), (0, .ref b)]) (hP : va_P g.1 classes [(h0, .inr (9, [.ref (q 0), .ref (q 1), .ref (q 2), .ref (q 3), .ref (q 4), .ref (q 5), .ref (q 6), .ref (q 7), .int 0])), ((q 0), .inr (2, [.ref r, .int 0])), (r, aB g 600 (fun _ => 0)), ((q 1), .inr (0, [.int 0, .int (-1)])), ((q 2), .inr (6, [.ref p0, .ref p1, .ref p2, .int 16, .int 200])), ((q 3), .inr (7, [.null, .null, .null, .int 0])), ((q 6), .inr (3, [.ref (w 0), .ref (w 2), .ref (w 7), .ref (w 8), .ref (w 9), .ref (w 10), .ref (w 11), .ref (w 12), .ref (w 13), .int 0, .int 0, .int 0, .int 0, .int 0, .int 0])), ((w 0), .inr (2, [.ref (w 1), .int 0])), ((w 1), aB g 600 (fun _ => 0)), ((w 2), .inr (1, [.ref (w 3), .ref (w 4), .ref (w 5), .ref (w 6), .int 0])), ((w 4), aB g 600 (fun _ => 0)), ((w 5), aB g 600 (fun _ => 0)), ((w 6), aB g 600 (fun _ => 0)), ((w 7), aI g 200 (fun _ => 0)), ((w 13), aI g 75 (fun _ => 0)), (h1, .inr (10, mo qm mv0)), ((qm 2), aI g 600 (fun _ => 0)), ((qm 14), aI g 620 (fun _ => 0)), (o, aJ g 1 (fun _ => 0))] H) (hD : va_D A [(h0, .inr (9, [.ref (q 0), .ref (q 1), .ref (q 2), .ref (q 3), .ref (q 4), .ref (q 5), .ref (q 6), .ref (q 7), .int 0])), ((q 0), .inr (2, [.ref r, .int 0])), (r, aB g 600 (fun _ => 0)), ((q 1), .inr (0, [.int 0, .int (-1)])), ((q 2), .inr (6, [.ref p0, .ref p1, .ref p2, .int 16, .int 200])), ((q 3), .inr (7, [.null, .null, .null, .int 0])), ((q 6), .inr (3, [.ref (w 0), .ref (w 2), .ref (w 7), .ref (w 8), .ref (w 9), .ref (w 10), .ref (w 11), .ref (w 12), .ref (w 13), .int 0, .int 0, .int 0, .int 0, .int 0, .int 0])), ((w 0), .inr (2, [.ref (w 1), .int 0])), ((w 1), aB g 600 (fun _ => 0)), ((w 2), .inr (1, [.ref (w 3), .ref (w 4), .ref (w 5), .ref (w 6), .int 0])), ((w 4), aB g 600 (fun _ => 0)), ((w 5), aB g 600 (fun _ => 0)), ((w 6), aB g 600 (fun _ => 0)), ((w 7), aI g 200 (fun _ => 0)), ((w 13), aI g 75 (fun _ => 0)), (h1, .inr (10, mo qm mv0)), ((qm 2), aI g 600 (fun _ => 0)), ((qm 14), aI g 620 (fun _ => 0)), (o, aJ g 1 (fun _ => 0))]) (hS : va_S A s.heap H locs) : W p l e room_1 s m #[Value.ref b] below meth c H locs 86 183553 (lw_Z below #[Value.ref b] s) (F0 m 23 ls []) := by
  obtain ⟨hx, hb, hml, hr, hown, hts, hlocks, hin⟩ := id E
  have hbA : ¬ A b := fun h => absurd (hA2 b h) (by omega)
  refine lv_iload hx hb d_Law_law_23 (lv_at hl 0 rfl) ?_
  refine lv_aload_n hx hb d_Law_law_25 rfl (lv_at hl 4 rfl) ?_
  refine va_slen hx hb hXs hbl hbA hS d_Law_law_26 ?_
  refine lv_bipush (v := 6) hx hb d_Law_law_27 (by decide) ?_
  refine lv_isub hx hb d_Law_law_29 ?_
  refine lv_icmp_gt (tgt := 824) hx hb d_Law_law_30 (by decide) (fun h30 => ?_) (fun h30 => ?_)
  · refine lv_iconst (v := 1) hx hb d_Law_law_824 (by decide) ?_
    refine va_forget (fun q h => hA2 _ (hS.2.2 q h)) ?_
    refine W.widen (k := 600002) (n := 7302231) (by decide) (by decide) ?_
    exact lw_ret hx hb hr hlocks d_Law_law_825
  · have hL6 : 6 = L := tn_L6 hL h30
    subst hL6
    refine lv_aload_n hx hb d_Law_law_33 rfl (lv_at hl 4 rfl) ?_
    refine lv_iload hx hb d_Law_law_34 (lv_at hl 0 rfl) ?_
    refine va_sld hx hb hXs hbl hbA hS (by unfold vp_in; decide) d_Law_law_36 ?_
    refine lv_bipush (v := 15) hx hb d_Law_law_37 (by decide) ?_
    refine lv_iand hx hb d_Law_law_39 ?_
    obtain ⟨j, hj, he⟩ := pk_andE (xs (0 : Int32).toNatClampNeg) (m := 15) 4 (by decide)
    refine tw_ri he ?_
    rcases (show j = 0 ∨ j = 1 ∨ j = 2 ∨ j = 3 ∨ j = 4 ∨ j = 5 ∨ j = 6 ∨ j = 7 ∨ j = 8 ∨ j = 9 ∨ j = 10 ∨ j = 11 ∨ j = 12 ∨ j = 13 ∨ j = 14 ∨ j = 15 by omega) with rfl | rfl | rfl | rfl | rfl | rfl | rfl | rfl | rfl | rfl | rfl | rfl | rfl | rfl | rfl | rfl
    · refine lv_tableIn (tgt := 100) (off := 60) hx hb d_Law_law_40 (by decide) (by decide) rfl (by decide) ?_
      exact lp_case0 l hfl g hA hA2 E hB hK hX hN hXs hbl rfl h0 h1 o r p0 p1 p2 q w qm H locs ls hl (hP.sub [0, 1, 2, 18, 15, 16] rfl) (hD.sub [0, 1, 2, 18, 15, 16] (by decide) rfl) hS
    · refine lv_tableIn (tgt := 204) (off := 164) hx hb d_Law_law_40 (by decide) (by decide) rfl (by decide) ?_
      exact lp_case1 l hfl g hA hA2 E hB hK hX hN hXs hbl rfl h0 h1 o r p0 p1 p2 q w qm H locs ls hl (hP.sub [0, 1, 2, 18, 15, 16] rfl) (hD.sub [0, 1, 2, 18, 15, 16] (by decide) rfl) hS
    · refine lv_tableIn (tgt := 272) (off := 232) hx hb d_Law_law_40 (by decide) (by decide) rfl (by decide) ?_
      exact lp_case2 l hfl g hA hA2 E hB hK hX hN hXs hbl rfl h0 h1 o r p0 p1 p2 q w qm H locs ls hl (hP.sub [0, 1, 18, 15] rfl) (hD.sub [0, 1, 18, 15] (by decide) rfl) hS
    · refine lv_tableIn (tgt := 328) (off := 288) hx hb d_Law_law_40 (by decide) (by decide) rfl (by decide) ?_
      exact lp_case3 l hfl g hA hA2 E hB hK hX hN hXs hbl rfl h0 h1 o r p0 p1 p2 q w qm H locs ls hl (hP.sub [0, 1, 18, 15] rfl) (hD.sub [0, 1, 18, 15] (by decide) rfl) hS
    · refine lv_tableIn (tgt := 412) (off := 372) hx hb d_Law_law_40 (by decide) (by decide) rfl (by decide) ?_
      exact lp_case4 l hfl g hA hA2 E hB hK hX hN hXs hbl rfl h0 h1 o r p0 p1 p2 q w qm H locs ls hl (hP.sub [0, 4, 18, 15] rfl) (hD.sub [0, 4, 18, 15] (by decide) rfl) hS
    · refine lv_tableIn (tgt := 480) (off := 440) hx hb d_Law_law_40 (by decide) (by decide) rfl (by decide) ?_
      exact lp_case5 l hfl g hA hA2 E hB hK hX hN hXs hbl rfl h0 h1 o r p0 p1 p2 q w qm H locs ls hl (hP.sub [0, 1, 2, 3, 5, 6, 7, 8, 9, 10, 11, 12, 13, 14, 15, 17] rfl) (hD.sub [0, 1, 2, 3, 5, 6, 7, 8, 9, 10, 11, 12, 13, 14, 15, 17] (by decide) rfl) hS
    · refine lv_tableIn (tgt := 493) (off := 453) hx hb d_Law_law_40 (by decide) (by decide) rfl (by decide) ?_
      exact lp_case6 l hfl g hA hA2 E hB hK hX hN hXs hbl rfl h0 h1 o r p0 p1 p2 q w qm H locs ls hl (hP.sub [0, 3, 15] rfl) (hD.sub [0, 3, 15] (by decide) rfl) hS
    · refine lv_tableIn (tgt := 506) (off := 466) hx hb d_Law_law_40 (by decide) (by decide) rfl (by decide) ?_
      exact lp_case7 l hfl g hA hA2 E hB hK hX hN hXs hbl rfl h0 h1 o r p0 p1 p2 q w qm H locs ls hl (hP.sub [0, 18, 15] rfl) (hD.sub [0, 18, 15] (by decide) rfl) hS
    · refine lv_tableIn (tgt := 562) (off := 522) hx hb d_Law_law_40 (by decide) (by decide) rfl (by decide) ?_
      exact lp_case8 l hfl g hA hA2 E hB hK hX hN hXs hbl rfl h0 h1 o r p0 p1 p2 q w qm H locs ls hl (hP.sub [0, 18, 15] rfl) (hD.sub [0, 18, 15] (by decide) rfl) hS
    · refine lv_tableIn (tgt := 642) (off := 602) hx hb d_Law_law_40 (by decide) (by decide) rfl (by decide) ?_
      exact lp_case9 l hfl g hA hA2 E hB hK hX hN hXs hbl rfl h0 h1 o r p0 p1 p2 q w qm H locs ls hl (hP.sub [0, 18, 15] rfl) (hD.sub [0, 18, 15] (by decide) rfl) hS
    · refine lv_tableIn (tgt := 710) (off := 670) hx hb d_Law_law_40 (by decide) (by decide) rfl (by decide) ?_
      exact lp_case10 l hfl g hA hA2 E hB hK hX hN hXs hbl rfl h0 h1 o r p0 p1 p2 q w qm H locs ls hl (hP.sub [0, 18, 15] rfl) (hD.sub [0, 18, 15] (by decide) rfl) hS
    · refine lv_tableOut (tgt := 818) hx hb d_Law_law_40 (Or.inr (by decide)) (by decide) ?_
      exact lp_tail l hfl g hA hA2 E hB hK hX hN hXs hbl (by decide) o h1 h0 _ _ (by decide) (by decide) H locs ls hl hS
    · refine lv_tableOut (tgt := 818) hx hb d_Law_law_40 (Or.inr (by decide)) (by decide) ?_
      exact lp_tail l hfl g hA hA2 E hB hK hX hN hXs hbl (by decide) o h1 h0 _ _ (by decide) (by decide) H locs ls hl hS
    · refine lv_tableOut (tgt := 818) hx hb d_Law_law_40 (Or.inr (by decide)) (by decide) ?_
      exact lp_tail l hfl g hA hA2 E hB hK hX hN hXs hbl (by decide) o h1 h0 _ _ (by decide) (by decide) H locs ls hl hS
    · refine lv_tableOut (tgt := 818) hx hb d_Law_law_40 (Or.inr (by decide)) (by decide) ?_
      exact lp_tail l hfl g hA hA2 E hB hK hX hN hXs hbl (by decide) o h1 h0 _ _ (by decide) (by decide) H locs ls hl hS
    · refine lv_tableOut (tgt := 818) hx hb d_Law_law_40 (Or.inr (by decide)) (by decide) ?_
      exact lp_tail l hfl g hA hA2 E hB hK hX hN hXs hbl (by decide) o h1 h0 _ _ (by decide) (by decide) H locs ls hl hS
