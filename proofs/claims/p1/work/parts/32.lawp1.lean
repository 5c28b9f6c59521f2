set_option maxHeartbeats 4000000 in
set_option maxRecDepth 100000 in
theorem lp_tail {p : Program} {e : Env} {s : State} {m : MethodId} {below : List Frame} {meth : Method} {c : Code} (l : Launch) (hfl : l.flags = flags0) (g : tw_G) {b L : Nat} {xs : Nat → Int32} {A : Nat → Prop} (hA : ∀ q, s.heap.size ≤ q → A q) (hA2 : ∀ q, A q → s.heap.size ≤ q) (E : tw_E p s m #[Value.ref b] meth c code 7 ret "ShippedClassLaw" meth.name) (hB : tw_B s) (hK : va_K g.1 classes (tw_ty g) s) (hX : tw_X A s s.heap) (hN : tw_N s) (hXs : va_X b L xs s s.heap) (hbl : b < s.heap.size) (hL : L ≤ 6) (o h1 h0 k1 k2 : Nat) (hk1 : k1 ≤ 600002) (hk2 : k2 ≤ 7302231) (H : Heap) (locs : List Loc) (ls : Array Slot) (hl : lv_has ls 7 [(4, .int 0), (3, .ref o), (2, .ref h1), (1, .ref h0), (0, .ref b)]) (hS : va_S A s.heap H locs) : W p l e room_1 s m #[Value.ref b] below meth c H locs k1 k2 (lw_Z below #[Value.ref b] s) (F0 m 818 ls []) := by
  obtain ⟨hx, hb, hml, hr, hown, hts, hlocks, hin⟩ := id E
  have hbA : ¬ A b := fun h => absurd (hA2 b h) (by omega)
  refine lv_iinc (k := 0) (v := 6) hx hb d_Law_law_818 hl rfl (by decide) (by decide) rfl (fun ls hl => ?_)
  have hl : lv_has ls 7 [(4, .int 6), (3, .ref o), (2, .ref h1), (1, .ref h0), (0, .ref b)] := hl
  refine lv_goto (tgt := 23) hx hb d_Law_law_821 (by decide) ?_
  refine lv_iload hx hb d_Law_law_23 (lv_at hl 0 rfl) ?_
  refine lv_aload_n hx hb d_Law_law_25 rfl (lv_at hl 4 rfl) ?_
  refine va_slen hx hb hXs hbl hbA hS d_Law_law_26 ?_
  refine lv_bipush (v := 6) hx hb d_Law_law_27 (by decide) ?_
  refine lv_isub hx hb d_Law_law_29 ?_
  refine lv_icmp_gt (tgt := 824) hx hb d_Law_law_30 (by decide) (fun h30 => ?_) (fun h30 => ?_)
  · refine lv_iconst (v := 1) hx hb d_Law_law_824 (by decide) ?_
    refine va_forget (fun q h => hA2 _ (hS.2.2 q h)) ?_
    refine W.widen (k := 600002) (n := 7302231) hk1 hk2 ?_
    exact lw_ret hx hb hr hlocks d_Law_law_825
  · exact absurd (tn_end hL) h30
set_option maxHeartbeats 4000000 in
set_option maxRecDepth 100000 in
theorem lp_case0 {p : Program} {e : Env} {s : State} {m : MethodId} {below : List Frame} {meth : Method} {c : Code} (l : Launch) (hfl : l.flags = flags0) (g : tw_G) {b L : Nat} {xs : Nat → Int32} {A : Nat → Prop} (hA : ∀ q, s.heap.size ≤ q → A q) (hA2 : ∀ q, A q → s.heap.size ≤ q) (E : tw_E p s m #[Value.ref b] meth c code 7 ret "ShippedClassLaw" meth.name) (hB : tw_B s) (hK : va_K g.1 classes (tw_ty g) s) (hX : tw_X A s s.heap) (hN : tw_N s) (hXs : va_X b L xs s s.heap) (hbl : b < s.heap.size) (hL : 6 = L) (h0 h1 o r p0 p1 p2 : Nat) (q w qm : Nat → Nat) (H : Heap) (locs : List Loc) (ls : Array Slot) (hl : lv_has ls 7 [(4, .int 0), (3, .ref o), (2, .ref h1), (1, .ref h0), (0, .ref b)]) (hP : va_P g.1 classes [(h0, .inr (9, [.ref (q 0), .ref (q 1), .ref (q 2), .ref (q 3), .ref (q 4), .ref (q 5), .ref (q 6), .ref (q 7), .int 0])), ((q 0), .inr (2, [.ref r, .int 0])), (r, aB g 600 (fun _ => 0)), (o, aJ g 1 (fun _ => 0)), (h1, .inr (10, mo qm mv0)), ((qm 2), aI g 600 (fun _ => 0))] H) (hD : va_D A [(h0, .inr (9, [.ref (q 0), .ref (q 1), .ref (q 2), .ref (q 3), .ref (q 4), .ref (q 5), .ref (q 6), .ref (q 7), .int 0])), ((q 0), .inr (2, [.ref r, .int 0])), (r, aB g 600 (fun _ => 0)), (o, aJ g 1 (fun _ => 0)), (h1, .inr (10, mo qm mv0)), ((qm 2), aI g 600 (fun _ => 0))]) (hS : va_S A s.heap H locs) : W p l e room_1 s m #[Value.ref b] below meth c H locs 86 183553 (lw_Z below #[Value.ref b] s) (F0 m 100 ls []) := by
  obtain ⟨hx, hb, hml, hr, hown, hts, hlocks, hin⟩ := id E
  have hbA : ¬ A b := fun h => absurd (hA2 b h) (by omega)
  subst hL
  refine lv_aload_n hx hb d_Law_law_100 rfl (lv_at hl 3 rfl) ?_
  refine lv_aload_n hx hb d_Law_law_101 rfl (lv_at hl 4 rfl) ?_
  refine lv_iload hx hb d_Law_law_102 (lv_at hl 0 rfl) ?_
  refine lv_iconst (v := 1) hx hb d_Law_law_104 (by decide) ?_
  refine lv_iadd hx hb d_Law_law_105 ?_
  refine tw_ri (e2 := 1) (by decide) ?_
  refine va_sld hx hb hXs hbl hbA hS (by unfold vp_in; decide) d_Law_law_106 ?_
  refine lv_aload_n hx hb d_Law_law_107 rfl (lv_at hl 4 rfl) ?_
  refine lv_iload hx hb d_Law_law_108 (lv_at hl 0 rfl) ?_
  refine lv_iconst (v := 2) hx hb d_Law_law_110 (by decide) ?_
  refine lv_iadd hx hb d_Law_law_111 ?_
  refine tw_ri (e2 := 2) (by decide) ?_
  refine va_sld hx hb hXs hbl hbA hS (by unfold vp_in; decide) d_Law_law_112 ?_
  refine lv_aload_n hx hb d_Law_law_113 rfl (lv_at hl 4 rfl) ?_
  refine lv_iload hx hb d_Law_law_114 (lv_at hl 0 rfl) ?_
  refine lv_iconst (v := 3) hx hb d_Law_law_116 (by decide) ?_
  refine lv_iadd hx hb d_Law_law_117 ?_
  refine tw_ri (e2 := 3) (by decide) ?_
  refine va_sld hx hb hXs hbl hbA hS (by unfold vp_in; decide) d_Law_law_118 ?_
  refine lv_aload_n hx hb d_Law_law_119 rfl (lv_at hl 4 rfl) ?_
  refine lv_iload hx hb d_Law_law_120 (lv_at hl 0 rfl) ?_
  refine lv_iconst (v := 4) hx hb d_Law_law_122 (by decide) ?_
  refine lv_iadd hx hb d_Law_law_123 ?_
  refine tw_ri (e2 := 4) (by decide) ?_
  refine va_sld hx hb hXs hbl hbA hS (by unfold vp_in; decide) d_Law_law_124 ?_
  refine lv_aload_n hx hb d_Law_law_125 rfl (lv_at hl 4 rfl) ?_
  refine lv_iload hx hb d_Law_law_126 (lv_at hl 0 rfl) ?_
  refine lv_iconst (v := 5) hx hb d_Law_law_128 (by decide) ?_
  refine lv_iadd hx hb d_Law_law_129 ?_
  refine tw_ri (e2 := 5) (by decide) ?_
  refine va_sld hx hb hXs hbl hbA hS (by unfold vp_in; decide) d_Law_law_130 ?_
  refine lv_aload_n hx hb d_Law_law_131 rfl (lv_at hl 1 rfl) ?_
  refine tw_wi (wr := [(h1, .inr (10, mo qm mv0)), ((qm 2), aI g 600 (fun _ => 0))]) (tw_runL (ws := [(h0, .inr (9, [.ref (q 0), .ref (q 1), .ref (q 2), .ref (q 3), .ref (q 4), .ref (q 5), .ref (q 6), .ref (q 7), .int 0])), ((q 0), .inr (2, [.ref r, .int 0])), (r, aB g 600 (fun _ => 0)), (o, aJ g 1 (fun _ => 0)), (h1, .inr (10, mo qm mv0)), ((qm 2), aI g 600 (fun _ => 0))]) (wc := [(h0, .inr (9, [.ref (q 0), .ref (q 1), .ref (q 2), .ref (q 3), .ref (q 4), .ref (q 5), .ref (q 6), .ref (q 7), .int 0])), ((q 0), .inr (2, [.ref r, .int 0])), (r, aB g 600 (fun _ => 0)), (o, aJ g 1 (fun _ => 0))]) (As := [.ref h0, .int (xs (1 : Int32).toNatClampNeg), .int (xs (2 : Int32).toNatClampNeg), .int (xs (3 : Int32).toNatClampNeg), .int (xs (4 : Int32).toNatClampNeg), .int (xs (5 : Int32).toNatClampNeg), .ref o]) (rest := []) E hB hK (c_Law_feed l hfl g H.size h0 r 0 o q (fun _ => 0) 0 (xs (1 : Int32).toNatClampNeg) (xs (2 : Int32).toNatClampNeg) (xs (3 : Int32).toNatClampNeg) (xs (4 : Int32).toNatClampNeg) (xs (5 : Int32).toNatClampNeg) 0 (by decide)) wd_1023 ⟨by decide, by decide⟩ wd_1022 wd_0 wd_1021 hP hD hS hA hX hN [0, 1, 2, 3] rfl (by decide) rfl rfl (by decide) ln_feed hl.1 rfl (Nat.le_of_ble_eq_true rfl) (by decide) d_Law_law_132) hP hD hS hA [0, 1, 2, 3] [4, 5] rfl rfl (by decide) (by decide) (fun k u H locs hk hP hD hS => ?_)
  try dsimp only at hk
  have hP : va_P g.1 classes [(h1, .inr (10, mo qm mv0)), ((qm 2), aI g 600 (fun _ => 0)), (h0, .inr (9, [.ref (q 0), .ref (q 1), .ref (q 2), .ref (q 3), .ref (q 4), .ref (q 5), .ref (q 6), .ref (q 7), .int 0])), ((q 0), .inr (2, [.ref r, .int (nI (0 + u.1))])), (r, aB g 600 (fd_f (fun _ => 0) 0 (xs (2 : Int32).toNatClampNeg) (xs (3 : Int32).toNatClampNeg) (xs (4 : Int32).toNatClampNeg) (xs (5 : Int32).toNatClampNeg) u.1)), (o, aJ g 1 (fun _ => u.2))] H := hP
  have hD : va_D A [(h1, .inr (10, mo qm mv0)), ((qm 2), aI g 600 (fun _ => 0)), (h0, .inr (9, [.ref (q 0), .ref (q 1), .ref (q 2), .ref (q 3), .ref (q 4), .ref (q 5), .ref (q 6), .ref (q 7), .int 0])), ((q 0), .inr (2, [.ref r, .int (nI (0 + u.1))])), (r, aB g 600 (fd_f (fun _ => 0) 0 (xs (2 : Int32).toNatClampNeg) (xs (3 : Int32).toNatClampNeg) (xs (4 : Int32).toNatClampNeg) (xs (5 : Int32).toNatClampNeg) u.1)), (o, aJ g 1 (fun _ => u.2))] := hD
  refine W.widen (k := 87) (n := 183559) (by decide) (by decide) ?_
  refine lv_istore hx hb d_Law_law_135 hl (by decide) rfl (fun ls hl => ?_)
  have hl : lv_has ls 7 [(5, .int k), (4, .int 0), (3, .ref o), (2, .ref h1), (1, .ref h0), (0, .ref b)] := hl
  refine lv_aload_n hx hb d_Law_law_137 rfl (lv_at hl 3 rfl) ?_
  refine lv_aload_n hx hb d_Law_law_138 rfl (lv_at hl 5 rfl) ?_
  refine lv_iload hx hb d_Law_law_139 (lv_at hl 1 rfl) ?_
  refine lv_iconst (v := 1) hx hb d_Law_law_141 (by decide) ?_
  refine lv_iadd hx hb d_Law_law_142 ?_
  refine tw_ri (e2 := 1) (by decide) ?_
  refine va_sld hx hb hXs hbl hbA hS (by unfold vp_in; decide) d_Law_law_143 ?_
  refine lv_aload_n hx hb d_Law_law_144 rfl (lv_at hl 5 rfl) ?_
  refine lv_iload hx hb d_Law_law_145 (lv_at hl 1 rfl) ?_
  refine lv_iconst (v := 2) hx hb d_Law_law_147 (by decide) ?_
  refine lv_iadd hx hb d_Law_law_148 ?_
  refine tw_ri (e2 := 2) (by decide) ?_
  refine va_sld hx hb hXs hbl hbA hS (by unfold vp_in; decide) d_Law_law_149 ?_
  refine lv_aload_n hx hb d_Law_law_150 rfl (lv_at hl 5 rfl) ?_
  refine lv_iload hx hb d_Law_law_151 (lv_at hl 1 rfl) ?_
  refine lv_iconst (v := 3) hx hb d_Law_law_153 (by decide) ?_
  refine lv_iadd hx hb d_Law_law_154 ?_
  refine tw_ri (e2 := 3) (by decide) ?_
  refine va_sld hx hb hXs hbl hbA hS (by unfold vp_in; decide) d_Law_law_155 ?_
  refine lv_aload_n hx hb d_Law_law_156 rfl (lv_at hl 5 rfl) ?_
  refine lv_iload hx hb d_Law_law_157 (lv_at hl 1 rfl) ?_
  refine lv_iconst (v := 4) hx hb d_Law_law_159 (by decide) ?_
  refine lv_iadd hx hb d_Law_law_160 ?_
  refine tw_ri (e2 := 4) (by decide) ?_
  refine va_sld hx hb hXs hbl hbA hS (by unfold vp_in; decide) d_Law_law_161 ?_
  refine lv_aload_n hx hb d_Law_law_162 rfl (lv_at hl 5 rfl) ?_
  refine lv_iload hx hb d_Law_law_163 (lv_at hl 1 rfl) ?_
  refine lv_iconst (v := 5) hx hb d_Law_law_165 (by decide) ?_
  refine lv_iadd hx hb d_Law_law_166 ?_
  refine tw_ri (e2 := 5) (by decide) ?_
  refine va_sld hx hb hXs hbl hbA hS (by unfold vp_in; decide) d_Law_law_167 ?_
  refine tw_wi (wr := [(h0, .inr (9, [.ref (q 0), .ref (q 1), .ref (q 2), .ref (q 3), .ref (q 4), .ref (q 5), .ref (q 6), .ref (q 7), .int 0])), ((q 0), .inr (2, [.ref r, .int (nI (0 + u.1))])), (r, aB g 600 (fd_f (fun _ => 0) 0 (xs (2 : Int32).toNatClampNeg) (xs (3 : Int32).toNatClampNeg) (xs (4 : Int32).toNatClampNeg) (xs (5 : Int32).toNatClampNeg) u.1)), (o, aJ g 1 (fun _ => u.2))]) (tw_runV (ws := [(h1, .inr (10, mo qm mv0)), ((qm 2), aI g 600 (fun _ => 0)), (h0, .inr (9, [.ref (q 0), .ref (q 1), .ref (q 2), .ref (q 3), .ref (q 4), .ref (q 5), .ref (q 6), .ref (q 7), .int 0])), ((q 0), .inr (2, [.ref r, .int (nI (0 + u.1))])), (r, aB g 600 (fd_f (fun _ => 0) 0 (xs (2 : Int32).toNatClampNeg) (xs (3 : Int32).toNatClampNeg) (xs (4 : Int32).toNatClampNeg) (xs (5 : Int32).toNatClampNeg) u.1)), (o, aJ g 1 (fun _ => u.2))]) (wc := [(h1, .inr (10, mo qm mv0)), ((qm 2), aI g 600 (fun _ => 0))]) (As := [.int (xs (1 : Int32).toNatClampNeg), .int (xs (2 : Int32).toNatClampNeg), .int (xs (3 : Int32).toNatClampNeg), .int (xs (4 : Int32).toNatClampNeg), .int (xs (5 : Int32).toNatClampNeg)]) (rest := []) E hB hK (c_Mod_feed l g H.size h1 qm mv0 0 (fun _ => 0) (xs (1 : Int32).toNatClampNeg) (xs (2 : Int32).toNatClampNeg) (xs (3 : Int32).toNatClampNeg) (xs (4 : Int32).toNatClampNeg) (xs (5 : Int32).toNatClampNeg) (by decide)) mc_Mod_feed mi_Mod_feed me_Mod_feed wd_1439 hP hD [0, 1] rfl (by decide) 0 rfl rfl rfl rfl rfl (by decide) rfl hl.1 rfl (Nat.le_of_ble_eq_true rfl) (by decide) d_Law_law_168) hP hD hS hA [0, 1] [2, 3, 4, 5] rfl rfl (by decide) (by decide) (fun r1 u2 H locs hr1 hP hD hS => ?_)
  try dsimp only at hr1
  have hP : va_P g.1 classes [(h0, .inr (9, [.ref (q 0), .ref (q 1), .ref (q 2), .ref (q 3), .ref (q 4), .ref (q 5), .ref (q 6), .ref (q 7), .int 0])), ((q 0), .inr (2, [.ref r, .int (nI (0 + u.1))])), (r, aB g 600 (fd_f (fun _ => 0) 0 (xs (2 : Int32).toNatClampNeg) (xs (3 : Int32).toNatClampNeg) (xs (4 : Int32).toNatClampNeg) (xs (5 : Int32).toNatClampNeg) u.1)), (o, aJ g 1 (fun _ => u.2)), (h1, .inr (10, mo qm (upd (upd mv0 0 u2.1) 1 (nI (0 + u2.2))))), ((qm 2), aI g 600 (mf_f (fun _ => 0) 0 (xs (2 : Int32).toNatClampNeg) (xs (3 : Int32).toNatClampNeg) (xs (4 : Int32).toNatClampNeg) (xs (5 : Int32).toNatClampNeg) u2.2))] H := hP
  have hD : va_D A [(h0, .inr (9, [.ref (q 0), .ref (q 1), .ref (q 2), .ref (q 3), .ref (q 4), .ref (q 5), .ref (q 6), .ref (q 7), .int 0])), ((q 0), .inr (2, [.ref r, .int (nI (0 + u.1))])), (r, aB g 600 (fd_f (fun _ => 0) 0 (xs (2 : Int32).toNatClampNeg) (xs (3 : Int32).toNatClampNeg) (xs (4 : Int32).toNatClampNeg) (xs (5 : Int32).toNatClampNeg) u.1)), (o, aJ g 1 (fun _ => u.2)), (h1, .inr (10, mo qm (upd (upd mv0 0 u2.1) 1 (nI (0 + u2.2))))), ((qm 2), aI g 600 (mf_f (fun _ => 0) 0 (xs (2 : Int32).toNatClampNeg) (xs (3 : Int32).toNatClampNeg) (xs (4 : Int32).toNatClampNeg) (xs (5 : Int32).toNatClampNeg) u2.2))] := hD
  have hP : va_P g.1 classes [(h1, .inr (10, mo qm (upd (upd mv0 0 u2.1) 1 (nI (0 + u2.2))))), ((qm 2), aI g 600 (mf_f (fun _ => 0) 0 (xs (2 : Int32).toNatClampNeg) (xs (3 : Int32).toNatClampNeg) (xs (4 : Int32).toNatClampNeg) (xs (5 : Int32).toNatClampNeg) u2.2)), (h0, .inr (9, [.ref (q 0), .ref (q 1), .ref (q 2), .ref (q 3), .ref (q 4), .ref (q 5), .ref (q 6), .ref (q 7), .int 0])), ((q 0), .inr (2, [.ref r, .int (nI (0 + u.1))])), (r, aB g 600 (fd_f (fun _ => 0) 0 (xs (2 : Int32).toNatClampNeg) (xs (3 : Int32).toNatClampNeg) (xs (4 : Int32).toNatClampNeg) (xs (5 : Int32).toNatClampNeg) u.1)), (o, aJ g 1 (fun _ => u.2))] H := hP.sub [4, 5, 0, 1, 2, 3] rfl
  have hD : va_D A [(h1, .inr (10, mo qm (upd (upd mv0 0 u2.1) 1 (nI (0 + u2.2))))), ((qm 2), aI g 600 (mf_f (fun _ => 0) 0 (xs (2 : Int32).toNatClampNeg) (xs (3 : Int32).toNatClampNeg) (xs (4 : Int32).toNatClampNeg) (xs (5 : Int32).toNatClampNeg) u2.2)), (h0, .inr (9, [.ref (q 0), .ref (q 1), .ref (q 2), .ref (q 3), .ref (q 4), .ref (q 5), .ref (q 6), .ref (q 7), .int 0])), ((q 0), .inr (2, [.ref r, .int (nI (0 + u.1))])), (r, aB g 600 (fd_f (fun _ => 0) 0 (xs (2 : Int32).toNatClampNeg) (xs (3 : Int32).toNatClampNeg) (xs (4 : Int32).toNatClampNeg) (xs (5 : Int32).toNatClampNeg) u.1)), (o, aJ g 1 (fun _ => u.2))] := hD.sub [4, 5, 0, 1, 2, 3] (by decide) rfl
  refine lv_istore hx hb d_Law_law_171 hl (by decide) rfl (fun ls hl => ?_)
  have hl : lv_has ls 7 [(6, .int r1), (5, .int k), (4, .int 0), (3, .ref o), (2, .ref h1), (1, .ref h0), (0, .ref b)] := hl
  refine lv_aload_n hx hb d_Law_law_173 rfl (lv_at hl 4 rfl) ?_
  refine tw_si (tw_runV (ws := [(h1, .inr (10, mo qm (upd (upd mv0 0 u2.1) 1 (nI (0 + u2.2))))), ((qm 2), aI g 600 (mf_f (fun _ => 0) 0 (xs (2 : Int32).toNatClampNeg) (xs (3 : Int32).toNatClampNeg) (xs (4 : Int32).toNatClampNeg) (xs (5 : Int32).toNatClampNeg) u2.2)), (h0, .inr (9, [.ref (q 0), .ref (q 1), .ref (q 2), .ref (q 3), .ref (q 4), .ref (q 5), .ref (q 6), .ref (q 7), .int 0])), ((q 0), .inr (2, [.ref r, .int (nI (0 + u.1))])), (r, aB g 600 (fd_f (fun _ => 0) 0 (xs (2 : Int32).toNatClampNeg) (xs (3 : Int32).toNatClampNeg) (xs (4 : Int32).toNatClampNeg) (xs (5 : Int32).toNatClampNeg) u.1)), (o, aJ g 1 (fun _ => u.2))]) (wc := [(h1, .inr (10, mo qm (upd (upd mv0 0 u2.1) 1 (nI (0 + u2.2)))))]) (As := []) (rest := []) E hB hK (c_Mod_thrown l g H.size h1 qm (upd (upd mv0 0 u2.1) 1 (nI (0 + u2.2))) u2.1) mc_Mod_thrown mi_Mod_thrown me_Mod_thrown wd_1435 hP hD [0] rfl (by decide) 0 rfl rfl rfl rfl rfl (by decide) rfl hl.1 rfl (Nat.le_of_ble_eq_true rfl) (by decide) d_Law_law_174) (fun r3 hr3 => ?_)
  obtain rfl : r3 = u2.1 := hr3
  refine lv_iload hx hb d_Law_law_177 (lv_at hl 1 rfl) ?_
  refine lv_icmp_eq (tgt := 184) hx hb d_Law_law_179 (by decide) (fun h179 => ?_) (fun h179 => ?_)
  · refine lv_iload hx hb d_Law_law_184 (lv_at hl 1 rfl) ?_
    refine lv_if_ne (tgt := 201) hx hb d_Law_law_186 (by decide) (fun h186 => ?_) (fun h186 => ?_)
    · refine lv_goto (tgt := 818) hx hb d_Law_law_201 (by decide) ?_
      exact lp_tail l hfl g hA hA2 E hB hK hX hN hXs hbl (by decide) o h1 h0 _ _ (by decide) (by decide) H locs ls (lv_sub hl [2, 3, 4, 5, 6] rfl) hS
    · refine lv_aload_n hx hb d_Law_law_189 rfl (lv_at hl 3 rfl) ?_
      refine lv_iconst (v := 0) hx hb d_Law_law_190 (by decide) ?_
      refine va_lald hx hb hK hP 5 2 rfl rfl (vp_in_nI (n := 0) (by decide) (by decide)) d_Law_law_191 ?_
      refine lv_iload hx hb d_Law_law_192 (lv_at hl 0 rfl) ?_
      refine lv_i2l (v := r1.toInt64) hx hb d_Law_law_194 rfl ?_
      refine W.lcmp hx hb d_Law_law_195 ?_
      refine lv_if_eq (tgt := 201) hx hb d_Law_law_196 (by decide) (fun h196 => ?_) (fun h196 => ?_)
      · refine lv_goto (tgt := 818) hx hb d_Law_law_201 (by decide) ?_
        exact lp_tail l hfl g hA hA2 E hB hK hX hN hXs hbl (by decide) o h1 h0 _ _ (by decide) (by decide) H locs ls (lv_sub hl [2, 3, 4, 5, 6] rfl) hS
      · exact absurd ((lg_cmp_eq _ _).mpr ((ag_feed hk hr1).2 h186)) h196
  · exact absurd (ag_feed hk hr1).1 h179
set_option maxHeartbeats 4000000 in
set_option maxRecDepth 100000 in
theorem lp_case1 {p : Program} {e : Env} {s : State} {m : MethodId} {below : List Frame} {meth : Method} {c : Code} (l : Launch) (hfl : l.flags = flags0) (g : tw_G) {b L : Nat} {xs : Nat → Int32} {A : Nat → Prop} (hA : ∀ q, s.heap.size ≤ q → A q) (hA2 : ∀ q, A q → s.heap.size ≤ q) (E : tw_E p s m #[Value.ref b] meth c code 7 ret "ShippedClassLaw" meth.name) (hB : tw_B s) (hK : va_K g.1 classes (tw_ty g) s) (hX : tw_X A s s.heap) (hN : tw_N s) (hXs : va_X b L xs s s.heap) (hbl : b < s.heap.size) (hL : 6 = L) (h0 h1 o r p0 p1 p2 : Nat) (q w qm : Nat → Nat) (H : Heap) (locs : List Loc) (ls : Array Slot) (hl : lv_has ls 7 [(4, .int 0), (3, .ref o), (2, .ref h1), (1, .ref h0), (0, .ref b)]) (hP : va_P g.1 classes [(h0, .inr (9, [.ref (q 0), .ref (q 1), .ref (q 2), .ref (q 3), .ref (q 4), .ref (q 5), .ref (q 6), .ref (q 7), .int 0])), ((q 0), .inr (2, [.ref r, .int 0])), (r, aB g 600 (fun _ => 0)), (o, aJ g 1 (fun _ => 0)), (h1, .inr (10, mo qm mv0)), ((qm 2), aI g 600 (fun _ => 0))] H) (hD : va_D A [(h0, .inr (9, [.ref (q 0), .ref (q 1), .ref (q 2), .ref (q 3), .ref (q 4), .ref (q 5), .ref (q 6), .ref (q 7), .int 0])), ((q 0), .inr (2, [.ref r, .int 0])), (r, aB g 600 (fun _ => 0)), (o, aJ g 1 (fun _ => 0)), (h1, .inr (10, mo qm mv0)), ((qm 2), aI g 600 (fun _ => 0))]) (hS : va_S A s.heap H locs) : W p l e room_1 s m #[Value.ref b] below meth c H locs 86 183553 (lw_Z below #[Value.ref b] s) (F0 m 204 ls []) := by
  obtain ⟨hx, hb, hml, hr, hown, hts, hlocks, hin⟩ := id E
  have hbA : ¬ A b := fun h => absurd (hA2 b h) (by omega)
  subst hL
  refine lv_aload_n hx hb d_Law_law_204 rfl (lv_at hl 3 rfl) ?_
  refine lv_aload_n hx hb d_Law_law_205 rfl (lv_at hl 4 rfl) ?_
  refine lv_iload hx hb d_Law_law_206 (lv_at hl 0 rfl) ?_
  refine lv_iconst (v := 1) hx hb d_Law_law_208 (by decide) ?_
  refine lv_iadd hx hb d_Law_law_209 ?_
  refine tw_ri (e2 := 1) (by decide) ?_
  refine va_sld hx hb hXs hbl hbA hS (by unfold vp_in; decide) d_Law_law_210 ?_
  refine lv_aload_n hx hb d_Law_law_211 rfl (lv_at hl 4 rfl) ?_
  refine lv_iload hx hb d_Law_law_212 (lv_at hl 0 rfl) ?_
  refine lv_iconst (v := 2) hx hb d_Law_law_214 (by decide) ?_
  refine lv_iadd hx hb d_Law_law_215 ?_
  refine tw_ri (e2 := 2) (by decide) ?_
  refine va_sld hx hb hXs hbl hbA hS (by unfold vp_in; decide) d_Law_law_216 ?_
  refine lv_aload_n hx hb d_Law_law_217 rfl (lv_at hl 1 rfl) ?_
  refine tw_wi (wr := [(h1, .inr (10, mo qm mv0)), ((qm 2), aI g 600 (fun _ => 0))]) (tw_runL (ws := [(h0, .inr (9, [.ref (q 0), .ref (q 1), .ref (q 2), .ref (q 3), .ref (q 4), .ref (q 5), .ref (q 6), .ref (q 7), .int 0])), ((q 0), .inr (2, [.ref r, .int 0])), (r, aB g 600 (fun _ => 0)), (o, aJ g 1 (fun _ => 0)), (h1, .inr (10, mo qm mv0)), ((qm 2), aI g 600 (fun _ => 0))]) (wc := [(h0, .inr (9, [.ref (q 0), .ref (q 1), .ref (q 2), .ref (q 3), .ref (q 4), .ref (q 5), .ref (q 6), .ref (q 7), .int 0])), ((q 0), .inr (2, [.ref r, .int 0])), (r, aB g 600 (fun _ => 0)), (o, aJ g 1 (fun _ => 0))]) (As := [.ref h0, .int (xs (1 : Int32).toNatClampNeg), .int (xs (2 : Int32).toNatClampNeg), .ref o]) (rest := []) E hB hK (c_Law_put l hfl g H.size h0 r 0 o q (fun _ => 0) 0 (xs (1 : Int32).toNatClampNeg) (xs (2 : Int32).toNatClampNeg) 0 (by decide)) wd_1114 ⟨by decide, by decide⟩ wd_1113 wd_0 wd_1112 hP hD hS hA hX hN [0, 1, 2, 3] rfl (by decide) rfl rfl (by decide) ln_put hl.1 rfl (Nat.le_of_ble_eq_true rfl) (by decide) d_Law_law_218) hP hD hS hA [0, 1, 2, 3] [4, 5] rfl rfl (by decide) (by decide) (fun k u H locs hk hP hD hS => ?_)
  try dsimp only at hk
  have hP : va_P g.1 classes [(h1, .inr (10, mo qm mv0)), ((qm 2), aI g 600 (fun _ => 0)), (h0, .inr (9, [.ref (q 0), .ref (q 1), .ref (q 2), .ref (q 3), .ref (q 4), .ref (q 5), .ref (q 6), .ref (q 7), .int 0])), ((q 0), .inr (2, [.ref r, .int (nI 0)])), (r, aB g 600 (if u.1 = 0 then upd (fun _ => 0) u.2.1 (xs (2 : Int32).toNatClampNeg).toInt8.toInt32 else fun _ => 0)), (o, aJ g 1 (fun _ => u.2.2))] H := hP
  have hD : va_D A [(h1, .inr (10, mo qm mv0)), ((qm 2), aI g 600 (fun _ => 0)), (h0, .inr (9, [.ref (q 0), .ref (q 1), .ref (q 2), .ref (q 3), .ref (q 4), .ref (q 5), .ref (q 6), .ref (q 7), .int 0])), ((q 0), .inr (2, [.ref r, .int (nI 0)])), (r, aB g 600 (if u.1 = 0 then upd (fun _ => 0) u.2.1 (xs (2 : Int32).toNatClampNeg).toInt8.toInt32 else fun _ => 0)), (o, aJ g 1 (fun _ => u.2.2))] := hD
  refine W.widen (k := 87) (n := 183559) (by decide) (by decide) ?_
  refine lv_istore hx hb d_Law_law_221 hl (by decide) rfl (fun ls hl => ?_)
  have hl : lv_has ls 7 [(5, .int k), (4, .int 0), (3, .ref o), (2, .ref h1), (1, .ref h0), (0, .ref b)] := hl
  refine lv_aload_n hx hb d_Law_law_223 rfl (lv_at hl 3 rfl) ?_
  refine lv_aload_n hx hb d_Law_law_224 rfl (lv_at hl 5 rfl) ?_
  refine lv_iload hx hb d_Law_law_225 (lv_at hl 1 rfl) ?_
  refine lv_iconst (v := 1) hx hb d_Law_law_227 (by decide) ?_
  refine lv_iadd hx hb d_Law_law_228 ?_
  refine tw_ri (e2 := 1) (by decide) ?_
  refine va_sld hx hb hXs hbl hbA hS (by unfold vp_in; decide) d_Law_law_229 ?_
  refine lv_aload_n hx hb d_Law_law_230 rfl (lv_at hl 5 rfl) ?_
  refine lv_iload hx hb d_Law_law_231 (lv_at hl 1 rfl) ?_
  refine lv_iconst (v := 2) hx hb d_Law_law_233 (by decide) ?_
  refine lv_iadd hx hb d_Law_law_234 ?_
  refine tw_ri (e2 := 2) (by decide) ?_
  refine va_sld hx hb hXs hbl hbA hS (by unfold vp_in; decide) d_Law_law_235 ?_
  refine tw_wi (wr := [(h0, .inr (9, [.ref (q 0), .ref (q 1), .ref (q 2), .ref (q 3), .ref (q 4), .ref (q 5), .ref (q 6), .ref (q 7), .int 0])), ((q 0), .inr (2, [.ref r, .int (nI 0)])), (r, aB g 600 (if u.1 = 0 then upd (fun _ => 0) u.2.1 (xs (2 : Int32).toNatClampNeg).toInt8.toInt32 else fun _ => 0)), (o, aJ g 1 (fun _ => u.2.2))]) (tw_runV (ws := [(h1, .inr (10, mo qm mv0)), ((qm 2), aI g 600 (fun _ => 0)), (h0, .inr (9, [.ref (q 0), .ref (q 1), .ref (q 2), .ref (q 3), .ref (q 4), .ref (q 5), .ref (q 6), .ref (q 7), .int 0])), ((q 0), .inr (2, [.ref r, .int (nI 0)])), (r, aB g 600 (if u.1 = 0 then upd (fun _ => 0) u.2.1 (xs (2 : Int32).toNatClampNeg).toInt8.toInt32 else fun _ => 0)), (o, aJ g 1 (fun _ => u.2.2))]) (wc := [(h1, .inr (10, mo qm mv0)), ((qm 2), aI g 600 (fun _ => 0))]) (As := [.int (xs (1 : Int32).toNatClampNeg), .int (xs (2 : Int32).toNatClampNeg)]) (rest := []) E hB hK (c_Mod_put l g H.size h1 qm mv0 0 (fun _ => 0) (xs (1 : Int32).toNatClampNeg) (xs (2 : Int32).toNatClampNeg) (by decide)) mc_Mod_put mi_Mod_put me_Mod_put wd_1450 hP hD [0, 1] rfl (by decide) 0 rfl rfl rfl rfl rfl (by decide) rfl hl.1 rfl (Nat.le_of_ble_eq_true rfl) (by decide) d_Law_law_236) hP hD hS hA [0, 1] [2, 3, 4, 5] rfl rfl (by decide) (by decide) (fun r1 u2 H locs hr1 hP hD hS => ?_)
  try dsimp only at hr1
  have hP : va_P g.1 classes [(h0, .inr (9, [.ref (q 0), .ref (q 1), .ref (q 2), .ref (q 3), .ref (q 4), .ref (q 5), .ref (q 6), .ref (q 7), .int 0])), ((q 0), .inr (2, [.ref r, .int (nI 0)])), (r, aB g 600 (if u.1 = 0 then upd (fun _ => 0) u.2.1 (xs (2 : Int32).toNatClampNeg).toInt8.toInt32 else fun _ => 0)), (o, aJ g 1 (fun _ => u.2.2)), (h1, .inr (10, mo qm (upd (upd mv0 0 u2.1) 1 (nI 0)))), ((qm 2), aI g 600 (if u2.1 = 0 then upd (fun _ => 0) u2.2 (xs (2 : Int32).toNatClampNeg) else fun _ => 0))] H := hP
  have hD : va_D A [(h0, .inr (9, [.ref (q 0), .ref (q 1), .ref (q 2), .ref (q 3), .ref (q 4), .ref (q 5), .ref (q 6), .ref (q 7), .int 0])), ((q 0), .inr (2, [.ref r, .int (nI 0)])), (r, aB g 600 (if u.1 = 0 then upd (fun _ => 0) u.2.1 (xs (2 : Int32).toNatClampNeg).toInt8.toInt32 else fun _ => 0)), (o, aJ g 1 (fun _ => u.2.2)), (h1, .inr (10, mo qm (upd (upd mv0 0 u2.1) 1 (nI 0)))), ((qm 2), aI g 600 (if u2.1 = 0 then upd (fun _ => 0) u2.2 (xs (2 : Int32).toNatClampNeg) else fun _ => 0))] := hD
  have hP : va_P g.1 classes [(h1, .inr (10, mo qm (upd (upd mv0 0 u2.1) 1 (nI 0)))), ((qm 2), aI g 600 (if u2.1 = 0 then upd (fun _ => 0) u2.2 (xs (2 : Int32).toNatClampNeg) else fun _ => 0)), (h0, .inr (9, [.ref (q 0), .ref (q 1), .ref (q 2), .ref (q 3), .ref (q 4), .ref (q 5), .ref (q 6), .ref (q 7), .int 0])), ((q 0), .inr (2, [.ref r, .int (nI 0)])), (r, aB g 600 (if u.1 = 0 then upd (fun _ => 0) u.2.1 (xs (2 : Int32).toNatClampNeg).toInt8.toInt32 else fun _ => 0)), (o, aJ g 1 (fun _ => u.2.2))] H := hP.sub [4, 5, 0, 1, 2, 3] rfl
  have hD : va_D A [(h1, .inr (10, mo qm (upd (upd mv0 0 u2.1) 1 (nI 0)))), ((qm 2), aI g 600 (if u2.1 = 0 then upd (fun _ => 0) u2.2 (xs (2 : Int32).toNatClampNeg) else fun _ => 0)), (h0, .inr (9, [.ref (q 0), .ref (q 1), .ref (q 2), .ref (q 3), .ref (q 4), .ref (q 5), .ref (q 6), .ref (q 7), .int 0])), ((q 0), .inr (2, [.ref r, .int (nI 0)])), (r, aB g 600 (if u.1 = 0 then upd (fun _ => 0) u.2.1 (xs (2 : Int32).toNatClampNeg).toInt8.toInt32 else fun _ => 0)), (o, aJ g 1 (fun _ => u.2.2))] := hD.sub [4, 5, 0, 1, 2, 3] (by decide) rfl
  refine lv_istore hx hb d_Law_law_239 hl (by decide) rfl (fun ls hl => ?_)
  have hl : lv_has ls 7 [(6, .int r1), (5, .int k), (4, .int 0), (3, .ref o), (2, .ref h1), (1, .ref h0), (0, .ref b)] := hl
  refine lv_aload_n hx hb d_Law_law_241 rfl (lv_at hl 4 rfl) ?_
  refine tw_si (tw_runV (ws := [(h1, .inr (10, mo qm (upd (upd mv0 0 u2.1) 1 (nI 0)))), ((qm 2), aI g 600 (if u2.1 = 0 then upd (fun _ => 0) u2.2 (xs (2 : Int32).toNatClampNeg) else fun _ => 0)), (h0, .inr (9, [.ref (q 0), .ref (q 1), .ref (q 2), .ref (q 3), .ref (q 4), .ref (q 5), .ref (q 6), .ref (q 7), .int 0])), ((q 0), .inr (2, [.ref r, .int (nI 0)])), (r, aB g 600 (if u.1 = 0 then upd (fun _ => 0) u.2.1 (xs (2 : Int32).toNatClampNeg).toInt8.toInt32 else fun _ => 0)), (o, aJ g 1 (fun _ => u.2.2))]) (wc := [(h1, .inr (10, mo qm (upd (upd mv0 0 u2.1) 1 (nI 0))))]) (As := []) (rest := []) E hB hK (c_Mod_thrown l g H.size h1 qm (upd (upd mv0 0 u2.1) 1 (nI 0)) u2.1) mc_Mod_thrown mi_Mod_thrown me_Mod_thrown wd_1435 hP hD [0] rfl (by decide) 0 rfl rfl rfl rfl rfl (by decide) rfl hl.1 rfl (Nat.le_of_ble_eq_true rfl) (by decide) d_Law_law_242) (fun r3 hr3 => ?_)
  obtain rfl : r3 = u2.1 := hr3
  refine lv_iload hx hb d_Law_law_245 (lv_at hl 1 rfl) ?_
  refine lv_icmp_eq (tgt := 252) hx hb d_Law_law_247 (by decide) (fun h247 => ?_) (fun h247 => ?_)
  · refine lv_iload hx hb d_Law_law_252 (lv_at hl 1 rfl) ?_
    refine lv_if_ne (tgt := 269) hx hb d_Law_law_254 (by decide) (fun h254 => ?_) (fun h254 => ?_)
    · refine lv_goto (tgt := 818) hx hb d_Law_law_269 (by decide) ?_
      exact lp_tail l hfl g hA hA2 E hB hK hX hN hXs hbl (by decide) o h1 h0 _ _ (by decide) (by decide) H locs ls (lv_sub hl [2, 3, 4, 5, 6] rfl) hS
    · refine lv_aload_n hx hb d_Law_law_257 rfl (lv_at hl 3 rfl) ?_
      refine lv_iconst (v := 0) hx hb d_Law_law_258 (by decide) ?_
      refine va_lald hx hb hK hP 5 2 rfl rfl (vp_in_nI (n := 0) (by decide) (by decide)) d_Law_law_259 ?_
      refine lv_iload hx hb d_Law_law_260 (lv_at hl 0 rfl) ?_
      refine lv_i2l (v := r1.toInt64) hx hb d_Law_law_262 rfl ?_
      refine W.lcmp hx hb d_Law_law_263 ?_
      refine lv_if_eq (tgt := 269) hx hb d_Law_law_264 (by decide) (fun h264 => ?_) (fun h264 => ?_)
      · refine lv_goto (tgt := 818) hx hb d_Law_law_269 (by decide) ?_
        exact lp_tail l hfl g hA hA2 E hB hK hX hN hXs hbl (by decide) o h1 h0 _ _ (by decide) (by decide) H locs ls (lv_sub hl [2, 3, 4, 5, 6] rfl) hS
      · exact absurd ((lg_cmp_eq _ _).mpr ((ag_put (n := 0) (f := fun _ => 0) (fm := fun _ => 0) (by decide) (fun j h => absurd h (Nat.not_lt_zero j)) hk hr1).2 h254)) h264
  · exact absurd (ag_put (n := 0) (f := fun _ => 0) (fm := fun _ => 0) (by decide) (fun j h => absurd h (Nat.not_lt_zero j)) hk hr1).1 h247
set_option maxHeartbeats 4000000 in
set_option maxRecDepth 100000 in
theorem lp_case2 {p : Program} {e : Env} {s : State} {m : MethodId} {below : List Frame} {meth : Method} {c : Code} (l : Launch) (hfl : l.flags = flags0) (g : tw_G) {b L : Nat} {xs : Nat → Int32} {A : Nat → Prop} (hA : ∀ q, s.heap.size ≤ q → A q) (hA2 : ∀ q, A q → s.heap.size ≤ q) (E : tw_E p s m #[Value.ref b] meth c code 7 ret "ShippedClassLaw" meth.name) (hB : tw_B s) (hK : va_K g.1 classes (tw_ty g) s) (hX : tw_X A s s.heap) (hN : tw_N s) (hXs : va_X b L xs s s.heap) (hbl : b < s.heap.size) (hL : 6 = L) (h0 h1 o r p0 p1 p2 : Nat) (q w qm : Nat → Nat) (H : Heap) (locs : List Loc) (ls : Array Slot) (hl : lv_has ls 7 [(4, .int 0), (3, .ref o), (2, .ref h1), (1, .ref h0), (0, .ref b)]) (hP : va_P g.1 classes [(h0, .inr (9, [.ref (q 0), .ref (q 1), .ref (q 2), .ref (q 3), .ref (q 4), .ref (q 5), .ref (q 6), .ref (q 7), .int 0])), ((q 0), .inr (2, [.ref r, .int 0])), (o, aJ g 1 (fun _ => 0)), (h1, .inr (10, mo qm mv0))] H) (hD : va_D A [(h0, .inr (9, [.ref (q 0), .ref (q 1), .ref (q 2), .ref (q 3), .ref (q 4), .ref (q 5), .ref (q 6), .ref (q 7), .int 0])), ((q 0), .inr (2, [.ref r, .int 0])), (o, aJ g 1 (fun _ => 0)), (h1, .inr (10, mo qm mv0))]) (hS : va_S A s.heap H locs) : W p l e room_1 s m #[Value.ref b] below meth c H locs 86 183553 (lw_Z below #[Value.ref b] s) (F0 m 272 ls []) := by
  obtain ⟨hx, hb, hml, hr, hown, hts, hlocks, hin⟩ := id E
  have hbA : ¬ A b := fun h => absurd (hA2 b h) (by omega)
  subst hL
  refine lv_aload_n hx hb d_Law_law_272 rfl (lv_at hl 3 rfl) ?_
  refine lv_aload_n hx hb d_Law_law_273 rfl (lv_at hl 4 rfl) ?_
  refine lv_iload hx hb d_Law_law_274 (lv_at hl 0 rfl) ?_
  refine lv_iconst (v := 1) hx hb d_Law_law_276 (by decide) ?_
  refine lv_iadd hx hb d_Law_law_277 ?_
  refine tw_ri (e2 := 1) (by decide) ?_
  refine va_sld hx hb hXs hbl hbA hS (by unfold vp_in; decide) d_Law_law_278 ?_
  refine lv_aload_n hx hb d_Law_law_279 rfl (lv_at hl 1 rfl) ?_
  refine tw_wi (wr := [(h1, .inr (10, mo qm mv0))]) (tw_runL (ws := [(h0, .inr (9, [.ref (q 0), .ref (q 1), .ref (q 2), .ref (q 3), .ref (q 4), .ref (q 5), .ref (q 6), .ref (q 7), .int 0])), ((q 0), .inr (2, [.ref r, .int 0])), (o, aJ g 1 (fun _ => 0)), (h1, .inr (10, mo qm mv0))]) (wc := [(h0, .inr (9, [.ref (q 0), .ref (q 1), .ref (q 2), .ref (q 3), .ref (q 4), .ref (q 5), .ref (q 6), .ref (q 7), .int 0])), ((q 0), .inr (2, [.ref r, .int 0])), (o, aJ g 1 (fun _ => 0))]) (As := [.ref h0, .int (xs (1 : Int32).toNatClampNeg), .ref o]) (rest := []) E hB hK (c_Law_cut l hfl g H.size h0 r 0 o q 0 (xs (1 : Int32).toNatClampNeg) 0 (by decide)) wd_1142 ⟨by decide, by decide⟩ wd_1141 wd_0 wd_1140 hP hD hS hA hX hN [0, 1, 2] rfl (by decide) rfl rfl (by decide) ln_cut hl.1 rfl (Nat.le_of_ble_eq_true rfl) (by decide) d_Law_law_280) hP hD hS hA [0, 1, 2] [3] rfl rfl (by decide) (by decide) (fun k u H locs hk hP hD hS => ?_)
  try dsimp only at hk
  have hP : va_P g.1 classes [(h1, .inr (10, mo qm mv0)), (h0, .inr (9, [.ref (q 0), .ref (q 1), .ref (q 2), .ref (q 3), .ref (q 4), .ref (q 5), .ref (q 6), .ref (q 7), .int 0])), ((q 0), .inr (2, [.ref r, .int (nI u.1)])), (o, aJ g 1 (fun _ => u.2))] H := hP
  have hD : va_D A [(h1, .inr (10, mo qm mv0)), (h0, .inr (9, [.ref (q 0), .ref (q 1), .ref (q 2), .ref (q 3), .ref (q 4), .ref (q 5), .ref (q 6), .ref (q 7), .int 0])), ((q 0), .inr (2, [.ref r, .int (nI u.1)])), (o, aJ g 1 (fun _ => u.2))] := hD
  refine W.widen (k := 87) (n := 183559) (by decide) (by decide) ?_
  refine lv_istore hx hb d_Law_law_283 hl (by decide) rfl (fun ls hl => ?_)
  have hl : lv_has ls 7 [(5, .int k), (4, .int 0), (3, .ref o), (2, .ref h1), (1, .ref h0), (0, .ref b)] := hl
  refine lv_aload_n hx hb d_Law_law_285 rfl (lv_at hl 3 rfl) ?_
  refine lv_aload_n hx hb d_Law_law_286 rfl (lv_at hl 5 rfl) ?_
  refine lv_iload hx hb d_Law_law_287 (lv_at hl 1 rfl) ?_
  refine lv_iconst (v := 1) hx hb d_Law_law_289 (by decide) ?_
  refine lv_iadd hx hb d_Law_law_290 ?_
  refine tw_ri (e2 := 1) (by decide) ?_
  refine va_sld hx hb hXs hbl hbA hS (by unfold vp_in; decide) d_Law_law_291 ?_
  refine tw_wi (wr := [(h0, .inr (9, [.ref (q 0), .ref (q 1), .ref (q 2), .ref (q 3), .ref (q 4), .ref (q 5), .ref (q 6), .ref (q 7), .int 0])), ((q 0), .inr (2, [.ref r, .int (nI u.1)])), (o, aJ g 1 (fun _ => u.2))]) (tw_runV (ws := [(h1, .inr (10, mo qm mv0)), (h0, .inr (9, [.ref (q 0), .ref (q 1), .ref (q 2), .ref (q 3), .ref (q 4), .ref (q 5), .ref (q 6), .ref (q 7), .int 0])), ((q 0), .inr (2, [.ref r, .int (nI u.1)])), (o, aJ g 1 (fun _ => u.2))]) (wc := [(h1, .inr (10, mo qm mv0))]) (As := [.int (xs (1 : Int32).toNatClampNeg)]) (rest := []) E hB hK (c_Mod_cut l g H.size h1 qm mv0 0 (xs (1 : Int32).toNatClampNeg) (by decide)) mc_Mod_cut mi_Mod_cut me_Mod_cut wd_1454 hP hD [0] rfl (by decide) 0 rfl rfl rfl rfl rfl (by decide) rfl hl.1 rfl (Nat.le_of_ble_eq_true rfl) (by decide) d_Law_law_292) hP hD hS hA [0] [1, 2, 3] rfl rfl (by decide) (by decide) (fun r1 u2 H locs hr1 hP hD hS => ?_)
  try dsimp only at hr1
  have hP : va_P g.1 classes [(h0, .inr (9, [.ref (q 0), .ref (q 1), .ref (q 2), .ref (q 3), .ref (q 4), .ref (q 5), .ref (q 6), .ref (q 7), .int 0])), ((q 0), .inr (2, [.ref r, .int (nI u.1)])), (o, aJ g 1 (fun _ => u.2)), (h1, .inr (10, mo qm (upd (upd mv0 0 u2.1) 1 (nI u2.2))))] H := hP
  have hD : va_D A [(h0, .inr (9, [.ref (q 0), .ref (q 1), .ref (q 2), .ref (q 3), .ref (q 4), .ref (q 5), .ref (q 6), .ref (q 7), .int 0])), ((q 0), .inr (2, [.ref r, .int (nI u.1)])), (o, aJ g 1 (fun _ => u.2)), (h1, .inr (10, mo qm (upd (upd mv0 0 u2.1) 1 (nI u2.2))))] := hD
  have hP : va_P g.1 classes [(h1, .inr (10, mo qm (upd (upd mv0 0 u2.1) 1 (nI u2.2)))), (h0, .inr (9, [.ref (q 0), .ref (q 1), .ref (q 2), .ref (q 3), .ref (q 4), .ref (q 5), .ref (q 6), .ref (q 7), .int 0])), ((q 0), .inr (2, [.ref r, .int (nI u.1)])), (o, aJ g 1 (fun _ => u.2))] H := hP.sub [3, 0, 1, 2] rfl
  have hD : va_D A [(h1, .inr (10, mo qm (upd (upd mv0 0 u2.1) 1 (nI u2.2)))), (h0, .inr (9, [.ref (q 0), .ref (q 1), .ref (q 2), .ref (q 3), .ref (q 4), .ref (q 5), .ref (q 6), .ref (q 7), .int 0])), ((q 0), .inr (2, [.ref r, .int (nI u.1)])), (o, aJ g 1 (fun _ => u.2))] := hD.sub [3, 0, 1, 2] (by decide) rfl
  refine lv_istore hx hb d_Law_law_295 hl (by decide) rfl (fun ls hl => ?_)
  have hl : lv_has ls 7 [(6, .int r1), (5, .int k), (4, .int 0), (3, .ref o), (2, .ref h1), (1, .ref h0), (0, .ref b)] := hl
  refine lv_aload_n hx hb d_Law_law_297 rfl (lv_at hl 4 rfl) ?_
  refine tw_si (tw_runV (ws := [(h1, .inr (10, mo qm (upd (upd mv0 0 u2.1) 1 (nI u2.2)))), (h0, .inr (9, [.ref (q 0), .ref (q 1), .ref (q 2), .ref (q 3), .ref (q 4), .ref (q 5), .ref (q 6), .ref (q 7), .int 0])), ((q 0), .inr (2, [.ref r, .int (nI u.1)])), (o, aJ g 1 (fun _ => u.2))]) (wc := [(h1, .inr (10, mo qm (upd (upd mv0 0 u2.1) 1 (nI u2.2))))]) (As := []) (rest := []) E hB hK (c_Mod_thrown l g H.size h1 qm (upd (upd mv0 0 u2.1) 1 (nI u2.2)) u2.1) mc_Mod_thrown mi_Mod_thrown me_Mod_thrown wd_1435 hP hD [0] rfl (by decide) 0 rfl rfl rfl rfl rfl (by decide) rfl hl.1 rfl (Nat.le_of_ble_eq_true rfl) (by decide) d_Law_law_298) (fun r3 hr3 => ?_)
  obtain rfl : r3 = u2.1 := hr3
  refine lv_iload hx hb d_Law_law_301 (lv_at hl 1 rfl) ?_
  refine lv_icmp_eq (tgt := 308) hx hb d_Law_law_303 (by decide) (fun h303 => ?_) (fun h303 => ?_)
  · refine lv_iload hx hb d_Law_law_308 (lv_at hl 1 rfl) ?_
    refine lv_if_ne (tgt := 325) hx hb d_Law_law_310 (by decide) (fun h310 => ?_) (fun h310 => ?_)
    · refine lv_goto (tgt := 818) hx hb d_Law_law_325 (by decide) ?_
      exact lp_tail l hfl g hA hA2 E hB hK hX hN hXs hbl (by decide) o h1 h0 _ _ (by decide) (by decide) H locs ls (lv_sub hl [2, 3, 4, 5, 6] rfl) hS
    · refine lv_aload_n hx hb d_Law_law_313 rfl (lv_at hl 3 rfl) ?_
      refine lv_iconst (v := 0) hx hb d_Law_law_314 (by decide) ?_
      refine va_lald hx hb hK hP 3 2 rfl rfl (vp_in_nI (n := 0) (by decide) (by decide)) d_Law_law_315 ?_
      refine lv_iload hx hb d_Law_law_316 (lv_at hl 0 rfl) ?_
      refine lv_i2l (v := r1.toInt64) hx hb d_Law_law_318 rfl ?_
      refine W.lcmp hx hb d_Law_law_319 ?_
      refine lv_if_eq (tgt := 325) hx hb d_Law_law_320 (by decide) (fun h320 => ?_) (fun h320 => ?_)
      · refine lv_goto (tgt := 818) hx hb d_Law_law_325 (by decide) ?_
        exact lp_tail l hfl g hA hA2 E hB hK hX hN hXs hbl (by decide) o h1 h0 _ _ (by decide) (by decide) H locs ls (lv_sub hl [2, 3, 4, 5, 6] rfl) hS
      · exact absurd ((lg_cmp_eq _ _).mpr ((ag_cut (n := 0) (by decide) hk hr1).2 h310)) h320
  · exact absurd (ag_cut (n := 0) (by decide) hk hr1).1 h303
set_option maxHeartbeats 4000000 in
set_option maxRecDepth 100000 in
theorem lp_case3 {p : Program} {e : Env} {s : State} {m : MethodId} {below : List Frame} {meth : Method} {c : Code} (l : Launch) (hfl : l.flags = flags0) (g : tw_G) {b L : Nat} {xs : Nat → Int32} {A : Nat → Prop} (hA : ∀ q, s.heap.size ≤ q → A q) (hA2 : ∀ q, A q → s.heap.size ≤ q) (E : tw_E p s m #[Value.ref b] meth c code 7 ret "ShippedClassLaw" meth.name) (hB : tw_B s) (hK : va_K g.1 classes (tw_ty g) s) (hX : tw_X A s s.heap) (hN : tw_N s) (hXs : va_X b L xs s s.heap) (hbl : b < s.heap.size) (hL : 6 = L) (h0 h1 o r p0 p1 p2 : Nat) (q w qm : Nat → Nat) (H : Heap) (locs : List Loc) (ls : Array Slot) (hl : lv_has ls 7 [(4, .int 0), (3, .ref o), (2, .ref h1), (1, .ref h0), (0, .ref b)]) (hP : va_P g.1 classes [(h0, .inr (9, [.ref (q 0), .ref (q 1), .ref (q 2), .ref (q 3), .ref (q 4), .ref (q 5), .ref (q 6), .ref (q 7), .int 0])), ((q 0), .inr (2, [.ref r, .int 0])), (o, aJ g 1 (fun _ => 0)), (h1, .inr (10, mo qm mv0))] H) (hD : va_D A [(h0, .inr (9, [.ref (q 0), .ref (q 1), .ref (q 2), .ref (q 3), .ref (q 4), .ref (q 5), .ref (q 6), .ref (q 7), .int 0])), ((q 0), .inr (2, [.ref r, .int 0])), (o, aJ g 1 (fun _ => 0)), (h1, .inr (10, mo qm mv0))]) (hS : va_S A s.heap H locs) : W p l e room_1 s m #[Value.ref b] below meth c H locs 86 183553 (lw_Z below #[Value.ref b] s) (F0 m 328 ls []) := by
  obtain ⟨hx, hb, hml, hr, hown, hts, hlocks, hin⟩ := id E
  have hbA : ¬ A b := fun h => absurd (hA2 b h) (by omega)
  subst hL
  refine lv_aload_n hx hb d_Law_law_328 rfl (lv_at hl 3 rfl) ?_
  refine lv_aload_n hx hb d_Law_law_329 rfl (lv_at hl 4 rfl) ?_
  refine lv_iload hx hb d_Law_law_330 (lv_at hl 0 rfl) ?_
  refine lv_iconst (v := 1) hx hb d_Law_law_332 (by decide) ?_
  refine lv_iadd hx hb d_Law_law_333 ?_
  refine tw_ri (e2 := 1) (by decide) ?_
  refine va_sld hx hb hXs hbl hbA hS (by unfold vp_in; decide) d_Law_law_334 ?_
  refine lv_if_eq (tgt := 342) hx hb d_Law_law_335 (by decide) (fun h335 => ?_) (fun h335 => ?_)
  · refine lv_iconst (v := 0) hx hb d_Law_law_342 (by decide) ?_
    refine lv_aload_n hx hb d_Law_law_343 rfl (lv_at hl 4 rfl) ?_
    refine lv_iload hx hb d_Law_law_344 (lv_at hl 0 rfl) ?_
    refine lv_iconst (v := 2) hx hb d_Law_law_346 (by decide) ?_
    refine lv_iadd hx hb d_Law_law_347 ?_
    refine tw_ri (e2 := 2) (by decide) ?_
    refine va_sld hx hb hXs hbl hbA hS (by unfold vp_in; decide) d_Law_law_348 ?_
    refine lv_aload_n hx hb d_Law_law_349 rfl (lv_at hl 1 rfl) ?_
    refine tw_wi (wr := [(h1, .inr (10, mo qm mv0))]) (tw_runL (ws := [(h0, .inr (9, [.ref (q 0), .ref (q 1), .ref (q 2), .ref (q 3), .ref (q 4), .ref (q 5), .ref (q 6), .ref (q 7), .int 0])), ((q 0), .inr (2, [.ref r, .int 0])), (o, aJ g 1 (fun _ => 0)), (h1, .inr (10, mo qm mv0))]) (wc := [(h0, .inr (9, [.ref (q 0), .ref (q 1), .ref (q 2), .ref (q 3), .ref (q 4), .ref (q 5), .ref (q 6), .ref (q 7), .int 0])), ((q 0), .inr (2, [.ref r, .int 0])), (o, aJ g 1 (fun _ => 0))]) (As := [.ref h0, .int 0, .int (xs (2 : Int32).toNatClampNeg), .ref o]) (rest := []) E hB hK (c_Law_rule0 l hfl g H.size h0 r o q 0 0 (xs (2 : Int32).toNatClampNeg) 0) wd_1149 ⟨by decide, by decide⟩ wd_1148 wd_0 wd_1147 hP hD hS hA hX hN [0, 1, 2] rfl (by decide) rfl rfl (by decide) ln_rule hl.1 rfl (Nat.le_of_ble_eq_true rfl) (by decide) d_Law_law_350) hP hD hS hA [0, 1, 2] [3] rfl rfl (by decide) (by decide) (fun k u H locs hk hP hD hS => ?_)
    try dsimp only at hk
    have hP : va_P g.1 classes [(h1, .inr (10, mo qm mv0)), (h0, .inr (9, [.ref (q 0), .ref (q 1), .ref (q 2), .ref (q 3), .ref (q 4), .ref (q 5), .ref (q 6), .ref (q 7), .int 0])), ((q 0), .inr (2, [.ref r, .int 0])), (o, aJ g 1 (fun _ => 0))] H := hP
    have hD : va_D A [(h1, .inr (10, mo qm mv0)), (h0, .inr (9, [.ref (q 0), .ref (q 1), .ref (q 2), .ref (q 3), .ref (q 4), .ref (q 5), .ref (q 6), .ref (q 7), .int 0])), ((q 0), .inr (2, [.ref r, .int 0])), (o, aJ g 1 (fun _ => 0))] := hD
    refine W.widen (k := 87) (n := 183559) (by decide) (by decide) ?_
    refine lv_istore hx hb d_Law_law_353 hl (by decide) rfl (fun ls hl => ?_)
    have hl : lv_has ls 7 [(5, .int k), (4, .int 0), (3, .ref o), (2, .ref h1), (1, .ref h0), (0, .ref b)] := hl
    refine lv_aload_n hx hb d_Law_law_355 rfl (lv_at hl 3 rfl) ?_
    refine lv_aload_n hx hb d_Law_law_356 rfl (lv_at hl 5 rfl) ?_
    refine lv_iload hx hb d_Law_law_357 (lv_at hl 1 rfl) ?_
    refine lv_iconst (v := 1) hx hb d_Law_law_359 (by decide) ?_
    refine lv_iadd hx hb d_Law_law_360 ?_
    refine tw_ri (e2 := 1) (by decide) ?_
    refine va_sld hx hb hXs hbl hbA hS (by unfold vp_in; decide) d_Law_law_361 ?_
    refine lv_if_eq (tgt := 369) hx hb d_Law_law_362 (by decide) (fun h362 => ?_) (fun h362 => ?_)
    · refine lv_iconst (v := 0) hx hb d_Law_law_369 (by decide) ?_
      refine lv_aload_n hx hb d_Law_law_370 rfl (lv_at hl 5 rfl) ?_
      refine lv_iload hx hb d_Law_law_371 (lv_at hl 1 rfl) ?_
      refine lv_iconst (v := 2) hx hb d_Law_law_373 (by decide) ?_
      refine lv_iadd hx hb d_Law_law_374 ?_
      refine tw_ri (e2 := 2) (by decide) ?_
      refine va_sld hx hb hXs hbl hbA hS (by unfold vp_in; decide) d_Law_law_375 ?_
      refine tw_wi (wr := [(h0, .inr (9, [.ref (q 0), .ref (q 1), .ref (q 2), .ref (q 3), .ref (q 4), .ref (q 5), .ref (q 6), .ref (q 7), .int 0])), ((q 0), .inr (2, [.ref r, .int 0])), (o, aJ g 1 (fun _ => 0))]) (tw_runV (ws := [(h1, .inr (10, mo qm mv0)), (h0, .inr (9, [.ref (q 0), .ref (q 1), .ref (q 2), .ref (q 3), .ref (q 4), .ref (q 5), .ref (q 6), .ref (q 7), .int 0])), ((q 0), .inr (2, [.ref r, .int 0])), (o, aJ g 1 (fun _ => 0))]) (wc := [(h1, .inr (10, mo qm mv0))]) (As := [.int 0, .int (xs (2 : Int32).toNatClampNeg)]) (rest := []) E hB hK (c_Mod_rule0 l g H.size h1 qm mv0 0 (xs (2 : Int32).toNatClampNeg)) mc_Mod_rule mi_Mod_rule me_Mod_rule wd_1458 hP hD [0] rfl (by decide) 0 rfl rfl rfl rfl rfl (by decide) rfl hl.1 rfl (Nat.le_of_ble_eq_true rfl) (by decide) d_Law_law_376) hP hD hS hA [0] [1, 2, 3] rfl rfl (by decide) (by decide) (fun r1 u2 H locs hr1 hP hD hS => ?_)
      try dsimp only at hr1
      have hP : va_P g.1 classes [(h0, .inr (9, [.ref (q 0), .ref (q 1), .ref (q 2), .ref (q 3), .ref (q 4), .ref (q 5), .ref (q 6), .ref (q 7), .int 0])), ((q 0), .inr (2, [.ref r, .int 0])), (o, aJ g 1 (fun _ => 0)), (h1, .inr (10, mo qm (upd (upd mv0 0 1) 1 0)))] H := hP
      have hD : va_D A [(h0, .inr (9, [.ref (q 0), .ref (q 1), .ref (q 2), .ref (q 3), .ref (q 4), .ref (q 5), .ref (q 6), .ref (q 7), .int 0])), ((q 0), .inr (2, [.ref r, .int 0])), (o, aJ g 1 (fun _ => 0)), (h1, .inr (10, mo qm (upd (upd mv0 0 1) 1 0)))] := hD
      have hP : va_P g.1 classes [(h1, .inr (10, mo qm (upd (upd mv0 0 1) 1 0))), (h0, .inr (9, [.ref (q 0), .ref (q 1), .ref (q 2), .ref (q 3), .ref (q 4), .ref (q 5), .ref (q 6), .ref (q 7), .int 0])), ((q 0), .inr (2, [.ref r, .int 0])), (o, aJ g 1 (fun _ => 0))] H := hP.sub [3, 0, 1, 2] rfl
      have hD : va_D A [(h1, .inr (10, mo qm (upd (upd mv0 0 1) 1 0))), (h0, .inr (9, [.ref (q 0), .ref (q 1), .ref (q 2), .ref (q 3), .ref (q 4), .ref (q 5), .ref (q 6), .ref (q 7), .int 0])), ((q 0), .inr (2, [.ref r, .int 0])), (o, aJ g 1 (fun _ => 0))] := hD.sub [3, 0, 1, 2] (by decide) rfl
      refine lv_istore hx hb d_Law_law_379 hl (by decide) rfl (fun ls hl => ?_)
      have hl : lv_has ls 7 [(6, .int r1), (5, .int k), (4, .int 0), (3, .ref o), (2, .ref h1), (1, .ref h0), (0, .ref b)] := hl
      refine lv_aload_n hx hb d_Law_law_381 rfl (lv_at hl 4 rfl) ?_
      refine tw_si (tw_runV (ws := [(h1, .inr (10, mo qm (upd (upd mv0 0 1) 1 0))), (h0, .inr (9, [.ref (q 0), .ref (q 1), .ref (q 2), .ref (q 3), .ref (q 4), .ref (q 5), .ref (q 6), .ref (q 7), .int 0])), ((q 0), .inr (2, [.ref r, .int 0])), (o, aJ g 1 (fun _ => 0))]) (wc := [(h1, .inr (10, mo qm (upd (upd mv0 0 1) 1 0)))]) (As := []) (rest := []) E hB hK (c_Mod_thrown l g H.size h1 qm (upd (upd mv0 0 1) 1 0) 1) mc_Mod_thrown mi_Mod_thrown me_Mod_thrown wd_1435 hP hD [0] rfl (by decide) 0 rfl rfl rfl rfl rfl (by decide) rfl hl.1 rfl (Nat.le_of_ble_eq_true rfl) (by decide) d_Law_law_382) (fun r3 hr3 => ?_)
      obtain rfl : r3 = 1 := hr3
      refine lv_iload hx hb d_Law_law_385 (lv_at hl 1 rfl) ?_
      refine lv_icmp_eq (tgt := 392) hx hb d_Law_law_387 (by decide) (fun h387 => ?_) (fun h387 => ?_)
      · refine lv_iload hx hb d_Law_law_392 (lv_at hl 1 rfl) ?_
        refine lv_if_ne (tgt := 409) hx hb d_Law_law_394 (by decide) (fun h394 => ?_) (fun h394 => ?_)
        · refine lv_goto (tgt := 818) hx hb d_Law_law_409 (by decide) ?_
          exact lp_tail l hfl g hA hA2 E hB hK hX hN hXs hbl (by decide) o h1 h0 _ _ (by decide) (by decide) H locs ls (lv_sub hl [2, 3, 4, 5, 6] rfl) hS
        · exact absurd (hk.symm.trans h394) (by decide)
      · exact absurd hk.symm h387
    · exact absurd h335 h362
  · refine lv_iconst (v := 1) hx hb d_Law_law_338 (by decide) ?_
    refine lv_goto (tgt := 343) hx hb d_Law_law_339 (by decide) ?_
    refine lv_aload_n hx hb d_Law_law_343 rfl (lv_at hl 4 rfl) ?_
    refine lv_iload hx hb d_Law_law_344 (lv_at hl 0 rfl) ?_
    refine lv_iconst (v := 2) hx hb d_Law_law_346 (by decide) ?_
    refine lv_iadd hx hb d_Law_law_347 ?_
    refine tw_ri (e2 := 2) (by decide) ?_
    refine va_sld hx hb hXs hbl hbA hS (by unfold vp_in; decide) d_Law_law_348 ?_
    refine lv_aload_n hx hb d_Law_law_349 rfl (lv_at hl 1 rfl) ?_
    refine tw_wi (wr := [(h1, .inr (10, mo qm mv0))]) (tw_runL (ws := [(h0, .inr (9, [.ref (q 0), .ref (q 1), .ref (q 2), .ref (q 3), .ref (q 4), .ref (q 5), .ref (q 6), .ref (q 7), .int 0])), ((q 0), .inr (2, [.ref r, .int 0])), (o, aJ g 1 (fun _ => 0)), (h1, .inr (10, mo qm mv0))]) (wc := [(h0, .inr (9, [.ref (q 0), .ref (q 1), .ref (q 2), .ref (q 3), .ref (q 4), .ref (q 5), .ref (q 6), .ref (q 7), .int 0])), ((q 0), .inr (2, [.ref r, .int 0])), (o, aJ g 1 (fun _ => 0))]) (As := [.ref h0, .int 1, .int (xs (2 : Int32).toNatClampNeg), .ref o]) (rest := []) E hB hK (c_Law_rule0 l hfl g H.size h0 r o q 0 1 (xs (2 : Int32).toNatClampNeg) 0) wd_1149 ⟨by decide, by decide⟩ wd_1148 wd_0 wd_1147 hP hD hS hA hX hN [0, 1, 2] rfl (by decide) rfl rfl (by decide) ln_rule hl.1 rfl (Nat.le_of_ble_eq_true rfl) (by decide) d_Law_law_350) hP hD hS hA [0, 1, 2] [3] rfl rfl (by decide) (by decide) (fun k u H locs hk hP hD hS => ?_)
    try dsimp only at hk
    have hP : va_P g.1 classes [(h1, .inr (10, mo qm mv0)), (h0, .inr (9, [.ref (q 0), .ref (q 1), .ref (q 2), .ref (q 3), .ref (q 4), .ref (q 5), .ref (q 6), .ref (q 7), .int 0])), ((q 0), .inr (2, [.ref r, .int 0])), (o, aJ g 1 (fun _ => 0))] H := hP
    have hD : va_D A [(h1, .inr (10, mo qm mv0)), (h0, .inr (9, [.ref (q 0), .ref (q 1), .ref (q 2), .ref (q 3), .ref (q 4), .ref (q 5), .ref (q 6), .ref (q 7), .int 0])), ((q 0), .inr (2, [.ref r, .int 0])), (o, aJ g 1 (fun _ => 0))] := hD
    refine W.widen (k := 87) (n := 183559) (by decide) (by decide) ?_
    refine lv_istore hx hb d_Law_law_353 hl (by decide) rfl (fun ls hl => ?_)
    have hl : lv_has ls 7 [(5, .int k), (4, .int 0), (3, .ref o), (2, .ref h1), (1, .ref h0), (0, .ref b)] := hl
    refine lv_aload_n hx hb d_Law_law_355 rfl (lv_at hl 3 rfl) ?_
    refine lv_aload_n hx hb d_Law_law_356 rfl (lv_at hl 5 rfl) ?_
    refine lv_iload hx hb d_Law_law_357 (lv_at hl 1 rfl) ?_
    refine lv_iconst (v := 1) hx hb d_Law_law_359 (by decide) ?_
    refine lv_iadd hx hb d_Law_law_360 ?_
    refine tw_ri (e2 := 1) (by decide) ?_
    refine va_sld hx hb hXs hbl hbA hS (by unfold vp_in; decide) d_Law_law_361 ?_
    refine lv_if_eq (tgt := 369) hx hb d_Law_law_362 (by decide) (fun h362 => ?_) (fun h362 => ?_)
    · exact absurd h362 h335
    · refine lv_iconst (v := 1) hx hb d_Law_law_365 (by decide) ?_
      refine lv_goto (tgt := 370) hx hb d_Law_law_366 (by decide) ?_
      refine lv_aload_n hx hb d_Law_law_370 rfl (lv_at hl 5 rfl) ?_
      refine lv_iload hx hb d_Law_law_371 (lv_at hl 1 rfl) ?_
      refine lv_iconst (v := 2) hx hb d_Law_law_373 (by decide) ?_
      refine lv_iadd hx hb d_Law_law_374 ?_
      refine tw_ri (e2 := 2) (by decide) ?_
      refine va_sld hx hb hXs hbl hbA hS (by unfold vp_in; decide) d_Law_law_375 ?_
      refine tw_wi (wr := [(h0, .inr (9, [.ref (q 0), .ref (q 1), .ref (q 2), .ref (q 3), .ref (q 4), .ref (q 5), .ref (q 6), .ref (q 7), .int 0])), ((q 0), .inr (2, [.ref r, .int 0])), (o, aJ g 1 (fun _ => 0))]) (tw_runV (ws := [(h1, .inr (10, mo qm mv0)), (h0, .inr (9, [.ref (q 0), .ref (q 1), .ref (q 2), .ref (q 3), .ref (q 4), .ref (q 5), .ref (q 6), .ref (q 7), .int 0])), ((q 0), .inr (2, [.ref r, .int 0])), (o, aJ g 1 (fun _ => 0))]) (wc := [(h1, .inr (10, mo qm mv0))]) (As := [.int 1, .int (xs (2 : Int32).toNatClampNeg)]) (rest := []) E hB hK (c_Mod_rule0 l g H.size h1 qm mv0 1 (xs (2 : Int32).toNatClampNeg)) mc_Mod_rule mi_Mod_rule me_Mod_rule wd_1458 hP hD [0] rfl (by decide) 0 rfl rfl rfl rfl rfl (by decide) rfl hl.1 rfl (Nat.le_of_ble_eq_true rfl) (by decide) d_Law_law_376) hP hD hS hA [0] [1, 2, 3] rfl rfl (by decide) (by decide) (fun r4 u5 H locs hr4 hP hD hS => ?_)
      try dsimp only at hr4
      have hP : va_P g.1 classes [(h0, .inr (9, [.ref (q 0), .ref (q 1), .ref (q 2), .ref (q 3), .ref (q 4), .ref (q 5), .ref (q 6), .ref (q 7), .int 0])), ((q 0), .inr (2, [.ref r, .int 0])), (o, aJ g 1 (fun _ => 0)), (h1, .inr (10, mo qm (upd (upd mv0 0 1) 1 0)))] H := hP
      have hD : va_D A [(h0, .inr (9, [.ref (q 0), .ref (q 1), .ref (q 2), .ref (q 3), .ref (q 4), .ref (q 5), .ref (q 6), .ref (q 7), .int 0])), ((q 0), .inr (2, [.ref r, .int 0])), (o, aJ g 1 (fun _ => 0)), (h1, .inr (10, mo qm (upd (upd mv0 0 1) 1 0)))] := hD
      have hP : va_P g.1 classes [(h1, .inr (10, mo qm (upd (upd mv0 0 1) 1 0))), (h0, .inr (9, [.ref (q 0), .ref (q 1), .ref (q 2), .ref (q 3), .ref (q 4), .ref (q 5), .ref (q 6), .ref (q 7), .int 0])), ((q 0), .inr (2, [.ref r, .int 0])), (o, aJ g 1 (fun _ => 0))] H := hP.sub [3, 0, 1, 2] rfl
      have hD : va_D A [(h1, .inr (10, mo qm (upd (upd mv0 0 1) 1 0))), (h0, .inr (9, [.ref (q 0), .ref (q 1), .ref (q 2), .ref (q 3), .ref (q 4), .ref (q 5), .ref (q 6), .ref (q 7), .int 0])), ((q 0), .inr (2, [.ref r, .int 0])), (o, aJ g 1 (fun _ => 0))] := hD.sub [3, 0, 1, 2] (by decide) rfl
      refine lv_istore hx hb d_Law_law_379 hl (by decide) rfl (fun ls hl => ?_)
      have hl : lv_has ls 7 [(6, .int r4), (5, .int k), (4, .int 0), (3, .ref o), (2, .ref h1), (1, .ref h0), (0, .ref b)] := hl
      refine lv_aload_n hx hb d_Law_law_381 rfl (lv_at hl 4 rfl) ?_
      refine tw_si (tw_runV (ws := [(h1, .inr (10, mo qm (upd (upd mv0 0 1) 1 0))), (h0, .inr (9, [.ref (q 0), .ref (q 1), .ref (q 2), .ref (q 3), .ref (q 4), .ref (q 5), .ref (q 6), .ref (q 7), .int 0])), ((q 0), .inr (2, [.ref r, .int 0])), (o, aJ g 1 (fun _ => 0))]) (wc := [(h1, .inr (10, mo qm (upd (upd mv0 0 1) 1 0)))]) (As := []) (rest := []) E hB hK (c_Mod_thrown l g H.size h1 qm (upd (upd mv0 0 1) 1 0) 1) mc_Mod_thrown mi_Mod_thrown me_Mod_thrown wd_1435 hP hD [0] rfl (by decide) 0 rfl rfl rfl rfl rfl (by decide) rfl hl.1 rfl (Nat.le_of_ble_eq_true rfl) (by decide) d_Law_law_382) (fun r6 hr6 => ?_)
      obtain rfl : r6 = 1 := hr6
      refine lv_iload hx hb d_Law_law_385 (lv_at hl 1 rfl) ?_
      refine lv_icmp_eq (tgt := 392) hx hb d_Law_law_387 (by decide) (fun h387 => ?_) (fun h387 => ?_)
      · refine lv_iload hx hb d_Law_law_392 (lv_at hl 1 rfl) ?_
        refine lv_if_ne (tgt := 409) hx hb d_Law_law_394 (by decide) (fun h394 => ?_) (fun h394 => ?_)
        · refine lv_goto (tgt := 818) hx hb d_Law_law_409 (by decide) ?_
          exact lp_tail l hfl g hA hA2 E hB hK hX hN hXs hbl (by decide) o h1 h0 _ _ (by decide) (by decide) H locs ls (lv_sub hl [2, 3, 4, 5, 6] rfl) hS
        · exact absurd (hk.symm.trans h394) (by decide)
      · exact absurd hk.symm h387
set_option maxHeartbeats 4000000 in
set_option maxRecDepth 100000 in
theorem lp_case4 {p : Program} {e : Env} {s : State} {m : MethodId} {below : List Frame} {meth : Method} {c : Code} (l : Launch) (hfl : l.flags = flags0) (g : tw_G) {b L : Nat} {xs : Nat → Int32} {A : Nat → Prop} (hA : ∀ q, s.heap.size ≤ q → A q) (hA2 : ∀ q, A q → s.heap.size ≤ q) (E : tw_E p s m #[Value.ref b] meth c code 7 ret "ShippedClassLaw" meth.name) (hB : tw_B s) (hK : va_K g.1 classes (tw_ty g) s) (hX : tw_X A s s.heap) (hN : tw_N s) (hXs : va_X b L xs s s.heap) (hbl : b < s.heap.size) (hL : 6 = L) (h0 h1 o r p0 p1 p2 : Nat) (q w qm : Nat → Nat) (H : Heap) (locs : List Loc) (ls : Array Slot) (hl : lv_has ls 7 [(4, .int 0), (3, .ref o), (2, .ref h1), (1, .ref h0), (0, .ref b)]) (hP : va_P g.1 classes [(h0, .inr (9, [.ref (q 0), .ref (q 1), .ref (q 2), .ref (q 3), .ref (q 4), .ref (q 5), .ref (q 6), .ref (q 7), .int 0])), ((q 2), .inr (6, [.ref p0, .ref p1, .ref p2, .int 16, .int 200])), (o, aJ g 1 (fun _ => 0)), (h1, .inr (10, mo qm mv0))] H) (hD : va_D A [(h0, .inr (9, [.ref (q 0), .ref (q 1), .ref (q 2), .ref (q 3), .ref (q 4), .ref (q 5), .ref (q 6), .ref (q 7), .int 0])), ((q 2), .inr (6, [.ref p0, .ref p1, .ref p2, .int 16, .int 200])), (o, aJ g 1 (fun _ => 0)), (h1, .inr (10, mo qm mv0))]) (hS : va_S A s.heap H locs) : W p l e room_1 s m #[Value.ref b] below meth c H locs 86 183553 (lw_Z below #[Value.ref b] s) (F0 m 412 ls []) := by
  obtain ⟨hx, hb, hml, hr, hown, hts, hlocks, hin⟩ := id E
  have hbA : ¬ A b := fun h => absurd (hA2 b h) (by omega)
  subst hL
  refine lv_aload_n hx hb d_Law_law_412 rfl (lv_at hl 3 rfl) ?_
  refine lv_aload_n hx hb d_Law_law_413 rfl (lv_at hl 4 rfl) ?_
  refine lv_iload hx hb d_Law_law_414 (lv_at hl 0 rfl) ?_
  refine lv_iconst (v := 1) hx hb d_Law_law_416 (by decide) ?_
  refine lv_iadd hx hb d_Law_law_417 ?_
  refine tw_ri (e2 := 1) (by decide) ?_
  refine va_sld hx hb hXs hbl hbA hS (by unfold vp_in; decide) d_Law_law_418 ?_
  refine lv_aload_n hx hb d_Law_law_419 rfl (lv_at hl 4 rfl) ?_
  refine lv_iload hx hb d_Law_law_420 (lv_at hl 0 rfl) ?_
  refine lv_iconst (v := 2) hx hb d_Law_law_422 (by decide) ?_
  refine lv_iadd hx hb d_Law_law_423 ?_
  refine tw_ri (e2 := 2) (by decide) ?_
  refine va_sld hx hb hXs hbl hbA hS (by unfold vp_in; decide) d_Law_law_424 ?_
  refine lv_aload_n hx hb d_Law_law_425 rfl (lv_at hl 1 rfl) ?_
  refine tw_wi (wr := [(h1, .inr (10, mo qm mv0))]) (tw_runL (ws := [(h0, .inr (9, [.ref (q 0), .ref (q 1), .ref (q 2), .ref (q 3), .ref (q 4), .ref (q 5), .ref (q 6), .ref (q 7), .int 0])), ((q 2), .inr (6, [.ref p0, .ref p1, .ref p2, .int 16, .int 200])), (o, aJ g 1 (fun _ => 0)), (h1, .inr (10, mo qm mv0))]) (wc := [(h0, .inr (9, [.ref (q 0), .ref (q 1), .ref (q 2), .ref (q 3), .ref (q 4), .ref (q 5), .ref (q 6), .ref (q 7), .int 0])), ((q 2), .inr (6, [.ref p0, .ref p1, .ref p2, .int 16, .int 200])), (o, aJ g 1 (fun _ => 0))]) (As := [.ref h0, .int (xs (1 : Int32).toNatClampNeg), .int (xs (2 : Int32).toNatClampNeg), .ref o]) (rest := []) E hB hK (c_Law_limit l hfl g H.size h0 p0 p1 p2 o q 0 16 200 (xs (1 : Int32).toNatClampNeg) (xs (2 : Int32).toNatClampNeg) 0) wd_1168 ⟨by decide, by decide⟩ wd_1167 wd_0 wd_1166 hP hD hS hA hX hN [0, 1, 2] rfl (by decide) rfl rfl (by decide) ln_limit hl.1 rfl (Nat.le_of_ble_eq_true rfl) (by decide) d_Law_law_426) hP hD hS hA [0, 1, 2] [3] rfl rfl (by decide) (by decide) (fun k u H locs hk hP hD hS => ?_)
  try dsimp only at hk
  have hP : va_P g.1 classes [(h1, .inr (10, mo qm mv0)), (h0, .inr (9, [.ref (q 0), .ref (q 1), .ref (q 2), .ref (q 3), .ref (q 4), .ref (q 5), .ref (q 6), .ref (q 7), .int 0])), ((q 2), .inr (6, [.ref p0, .ref p1, .ref p2, .int u.1.1, .int u.1.2])), (o, aJ g 1 (fun _ => u.2))] H := hP
  have hD : va_D A [(h1, .inr (10, mo qm mv0)), (h0, .inr (9, [.ref (q 0), .ref (q 1), .ref (q 2), .ref (q 3), .ref (q 4), .ref (q 5), .ref (q 6), .ref (q 7), .int 0])), ((q 2), .inr (6, [.ref p0, .ref p1, .ref p2, .int u.1.1, .int u.1.2])), (o, aJ g 1 (fun _ => u.2))] := hD
  refine W.widen (k := 87) (n := 183559) (by decide) (by decide) ?_
  refine lv_istore hx hb d_Law_law_429 hl (by decide) rfl (fun ls hl => ?_)
  have hl : lv_has ls 7 [(5, .int k), (4, .int 0), (3, .ref o), (2, .ref h1), (1, .ref h0), (0, .ref b)] := hl
  refine lv_aload_n hx hb d_Law_law_431 rfl (lv_at hl 3 rfl) ?_
  refine lv_aload_n hx hb d_Law_law_432 rfl (lv_at hl 5 rfl) ?_
  refine lv_iload hx hb d_Law_law_433 (lv_at hl 1 rfl) ?_
  refine lv_iconst (v := 1) hx hb d_Law_law_435 (by decide) ?_
  refine lv_iadd hx hb d_Law_law_436 ?_
  refine tw_ri (e2 := 1) (by decide) ?_
  refine va_sld hx hb hXs hbl hbA hS (by unfold vp_in; decide) d_Law_law_437 ?_
  refine lv_aload_n hx hb d_Law_law_438 rfl (lv_at hl 5 rfl) ?_
  refine lv_iload hx hb d_Law_law_439 (lv_at hl 1 rfl) ?_
  refine lv_iconst (v := 2) hx hb d_Law_law_441 (by decide) ?_
  refine lv_iadd hx hb d_Law_law_442 ?_
  refine tw_ri (e2 := 2) (by decide) ?_
  refine va_sld hx hb hXs hbl hbA hS (by unfold vp_in; decide) d_Law_law_443 ?_
  refine tw_wi (wr := [(h0, .inr (9, [.ref (q 0), .ref (q 1), .ref (q 2), .ref (q 3), .ref (q 4), .ref (q 5), .ref (q 6), .ref (q 7), .int 0])), ((q 2), .inr (6, [.ref p0, .ref p1, .ref p2, .int u.1.1, .int u.1.2])), (o, aJ g 1 (fun _ => u.2))]) (tw_runV (ws := [(h1, .inr (10, mo qm mv0)), (h0, .inr (9, [.ref (q 0), .ref (q 1), .ref (q 2), .ref (q 3), .ref (q 4), .ref (q 5), .ref (q 6), .ref (q 7), .int 0])), ((q 2), .inr (6, [.ref p0, .ref p1, .ref p2, .int u.1.1, .int u.1.2])), (o, aJ g 1 (fun _ => u.2))]) (wc := [(h1, .inr (10, mo qm mv0))]) (As := [.int (xs (1 : Int32).toNatClampNeg), .int (xs (2 : Int32).toNatClampNeg)]) (rest := []) E hB hK (c_Mod_limit l g H.size h1 qm mv0 16 200 (xs (1 : Int32).toNatClampNeg) (xs (2 : Int32).toNatClampNeg)) mc_Mod_limit mi_Mod_limit me_Mod_limit wd_1462 hP hD [0] rfl (by decide) 0 rfl rfl rfl rfl rfl (by decide) rfl hl.1 rfl (Nat.le_of_ble_eq_true rfl) (by decide) d_Law_law_444) hP hD hS hA [0] [1, 2, 3] rfl rfl (by decide) (by decide) (fun r1 u2 H locs hr1 hP hD hS => ?_)
  try dsimp only at hr1
  have hP : va_P g.1 classes [(h0, .inr (9, [.ref (q 0), .ref (q 1), .ref (q 2), .ref (q 3), .ref (q 4), .ref (q 5), .ref (q 6), .ref (q 7), .int 0])), ((q 2), .inr (6, [.ref p0, .ref p1, .ref p2, .int u.1.1, .int u.1.2])), (o, aJ g 1 (fun _ => u.2)), (h1, .inr (10, mo qm (upd (upd (upd mv0 0 u2.1) 6 u2.2.1) 7 u2.2.2)))] H := hP
  have hD : va_D A [(h0, .inr (9, [.ref (q 0), .ref (q 1), .ref (q 2), .ref (q 3), .ref (q 4), .ref (q 5), .ref (q 6), .ref (q 7), .int 0])), ((q 2), .inr (6, [.ref p0, .ref p1, .ref p2, .int u.1.1, .int u.1.2])), (o, aJ g 1 (fun _ => u.2)), (h1, .inr (10, mo qm (upd (upd (upd mv0 0 u2.1) 6 u2.2.1) 7 u2.2.2)))] := hD
  have hP : va_P g.1 classes [(h1, .inr (10, mo qm (upd (upd (upd mv0 0 u2.1) 6 u2.2.1) 7 u2.2.2))), (h0, .inr (9, [.ref (q 0), .ref (q 1), .ref (q 2), .ref (q 3), .ref (q 4), .ref (q 5), .ref (q 6), .ref (q 7), .int 0])), ((q 2), .inr (6, [.ref p0, .ref p1, .ref p2, .int u.1.1, .int u.1.2])), (o, aJ g 1 (fun _ => u.2))] H := hP.sub [3, 0, 1, 2] rfl
  have hD : va_D A [(h1, .inr (10, mo qm (upd (upd (upd mv0 0 u2.1) 6 u2.2.1) 7 u2.2.2))), (h0, .inr (9, [.ref (q 0), .ref (q 1), .ref (q 2), .ref (q 3), .ref (q 4), .ref (q 5), .ref (q 6), .ref (q 7), .int 0])), ((q 2), .inr (6, [.ref p0, .ref p1, .ref p2, .int u.1.1, .int u.1.2])), (o, aJ g 1 (fun _ => u.2))] := hD.sub [3, 0, 1, 2] (by decide) rfl
  refine lv_istore hx hb d_Law_law_447 hl (by decide) rfl (fun ls hl => ?_)
  have hl : lv_has ls 7 [(6, .int r1), (5, .int k), (4, .int 0), (3, .ref o), (2, .ref h1), (1, .ref h0), (0, .ref b)] := hl
  refine lv_aload_n hx hb d_Law_law_449 rfl (lv_at hl 4 rfl) ?_
  refine tw_si (tw_runV (ws := [(h1, .inr (10, mo qm (upd (upd (upd mv0 0 u2.1) 6 u2.2.1) 7 u2.2.2))), (h0, .inr (9, [.ref (q 0), .ref (q 1), .ref (q 2), .ref (q 3), .ref (q 4), .ref (q 5), .ref (q 6), .ref (q 7), .int 0])), ((q 2), .inr (6, [.ref p0, .ref p1, .ref p2, .int u.1.1, .int u.1.2])), (o, aJ g 1 (fun _ => u.2))]) (wc := [(h1, .inr (10, mo qm (upd (upd (upd mv0 0 u2.1) 6 u2.2.1) 7 u2.2.2)))]) (As := []) (rest := []) E hB hK (c_Mod_thrown l g H.size h1 qm (upd (upd (upd mv0 0 u2.1) 6 u2.2.1) 7 u2.2.2) u2.1) mc_Mod_thrown mi_Mod_thrown me_Mod_thrown wd_1435 hP hD [0] rfl (by decide) 0 rfl rfl rfl rfl rfl (by decide) rfl hl.1 rfl (Nat.le_of_ble_eq_true rfl) (by decide) d_Law_law_450) (fun r3 hr3 => ?_)
  obtain rfl : r3 = u2.1 := hr3
  refine lv_iload hx hb d_Law_law_453 (lv_at hl 1 rfl) ?_
  refine lv_icmp_eq (tgt := 460) hx hb d_Law_law_455 (by decide) (fun h455 => ?_) (fun h455 => ?_)
  · refine lv_iload hx hb d_Law_law_460 (lv_at hl 1 rfl) ?_
    refine lv_if_ne (tgt := 477) hx hb d_Law_law_462 (by decide) (fun h462 => ?_) (fun h462 => ?_)
    · refine lv_goto (tgt := 818) hx hb d_Law_law_477 (by decide) ?_
      exact lp_tail l hfl g hA hA2 E hB hK hX hN hXs hbl (by decide) o h1 h0 _ _ (by decide) (by decide) H locs ls (lv_sub hl [2, 3, 4, 5, 6] rfl) hS
    · refine lv_aload_n hx hb d_Law_law_465 rfl (lv_at hl 3 rfl) ?_
      refine lv_iconst (v := 0) hx hb d_Law_law_466 (by decide) ?_
      refine va_lald hx hb hK hP 3 2 rfl rfl (vp_in_nI (n := 0) (by decide) (by decide)) d_Law_law_467 ?_
      refine lv_iload hx hb d_Law_law_468 (lv_at hl 0 rfl) ?_
      refine lv_i2l (v := r1.toInt64) hx hb d_Law_law_470 rfl ?_
      refine W.lcmp hx hb d_Law_law_471 ?_
      refine lv_if_eq (tgt := 477) hx hb d_Law_law_472 (by decide) (fun h472 => ?_) (fun h472 => ?_)
      · refine lv_goto (tgt := 818) hx hb d_Law_law_477 (by decide) ?_
        exact lp_tail l hfl g hA hA2 E hB hK hX hN hXs hbl (by decide) o h1 h0 _ _ (by decide) (by decide) H locs ls (lv_sub hl [2, 3, 4, 5, 6] rfl) hS
      · exact absurd ((lg_cmp_eq _ _).mpr ((ag_limit hk hr1).2 h462)) h472
  · exact absurd (ag_limit hk hr1).1 h455
set_option maxHeartbeats 4000000 in
set_option maxRecDepth 100000 in
theorem lp_case5 {p : Program} {e : Env} {s : State} {m : MethodId} {below : List Frame} {meth : Method} {c : Code} (l : Launch) (hfl : l.flags = flags0) (g : tw_G) {b L : Nat} {xs : Nat → Int32} {A : Nat → Prop} (hA : ∀ q, s.heap.size ≤ q → A q) (hA2 : ∀ q, A q → s.heap.size ≤ q) (E : tw_E p s m #[Value.ref b] meth c code 7 ret "ShippedClassLaw" meth.name) (hB : tw_B s) (hK : va_K g.1 classes (tw_ty g) s) (hX : tw_X A s s.heap) (hN : tw_N s) (hXs : va_X b L xs s s.heap) (hbl : b < s.heap.size) (hL : 6 = L) (h0 h1 o r p0 p1 p2 : Nat) (q w qm : Nat → Nat) (H : Heap) (locs : List Loc) (ls : Array Slot) (hl : lv_has ls 7 [(4, .int 0), (3, .ref o), (2, .ref h1), (1, .ref h0), (0, .ref b)]) (hP : va_P g.1 classes [(h0, .inr (9, [.ref (q 0), .ref (q 1), .ref (q 2), .ref (q 3), .ref (q 4), .ref (q 5), .ref (q 6), .ref (q 7), .int 0])), ((q 0), .inr (2, [.ref r, .int 0])), (r, aB g 600 (fun _ => 0)), ((q 1), .inr (0, [.int 0, .int (-1)])), ((q 3), .inr (7, [.null, .null, .null, .int 0])), ((q 6), .inr (3, [.ref (w 0), .ref (w 2), .ref (w 7), .ref (w 8), .ref (w 9), .ref (w 10), .ref (w 11), .ref (w 12), .ref (w 13), .int 0, .int 0, .int 0, .int 0, .int 0, .int 0])), ((w 0), .inr (2, [.ref (w 1), .int 0])), ((w 1), aB g 600 (fun _ => 0)), ((w 2), .inr (1, [.ref (w 3), .ref (w 4), .ref (w 5), .ref (w 6), .int 0])), ((w 4), aB g 600 (fun _ => 0)), ((w 5), aB g 600 (fun _ => 0)), ((w 6), aB g 600 (fun _ => 0)), ((w 7), aI g 200 (fun _ => 0)), ((w 13), aI g 75 (fun _ => 0)), (h1, .inr (10, mo qm mv0)), ((qm 14), aI g 620 (fun _ => 0))] H) (hD : va_D A [(h0, .inr (9, [.ref (q 0), .ref (q 1), .ref (q 2), .ref (q 3), .ref (q 4), .ref (q 5), .ref (q 6), .ref (q 7), .int 0])), ((q 0), .inr (2, [.ref r, .int 0])), (r, aB g 600 (fun _ => 0)), ((q 1), .inr (0, [.int 0, .int (-1)])), ((q 3), .inr (7, [.null, .null, .null, .int 0])), ((q 6), .inr (3, [.ref (w 0), .ref (w 2), .ref (w 7), .ref (w 8), .ref (w 9), .ref (w 10), .ref (w 11), .ref (w 12), .ref (w 13), .int 0, .int 0, .int 0, .int 0, .int 0, .int 0])), ((w 0), .inr (2, [.ref (w 1), .int 0])), ((w 1), aB g 600 (fun _ => 0)), ((w 2), .inr (1, [.ref (w 3), .ref (w 4), .ref (w 5), .ref (w 6), .int 0])), ((w 4), aB g 600 (fun _ => 0)), ((w 5), aB g 600 (fun _ => 0)), ((w 6), aB g 600 (fun _ => 0)), ((w 7), aI g 200 (fun _ => 0)), ((w 13), aI g 75 (fun _ => 0)), (h1, .inr (10, mo qm mv0)), ((qm 14), aI g 620 (fun _ => 0))]) (hS : va_S A s.heap H locs) : W p l e room_1 s m #[Value.ref b] below meth c H locs 86 183553 (lw_Z below #[Value.ref b] s) (F0 m 480 ls []) := by
  obtain ⟨hx, hb, hml, hr, hown, hts, hlocks, hin⟩ := id E
  have hbA : ¬ A b := fun h => absurd (hA2 b h) (by omega)
  subst hL
  refine lv_aload_n hx hb d_Law_law_480 rfl (lv_at hl 3 rfl) ?_
  refine tw_wi (wr := [(h1, .inr (10, mo qm mv0)), ((qm 14), aI g 620 (fun _ => 0))]) (tw_runV (ws := [(h0, .inr (9, [.ref (q 0), .ref (q 1), .ref (q 2), .ref (q 3), .ref (q 4), .ref (q 5), .ref (q 6), .ref (q 7), .int 0])), ((q 0), .inr (2, [.ref r, .int 0])), (r, aB g 600 (fun _ => 0)), ((q 1), .inr (0, [.int 0, .int (-1)])), ((q 3), .inr (7, [.null, .null, .null, .int 0])), ((q 6), .inr (3, [.ref (w 0), .ref (w 2), .ref (w 7), .ref (w 8), .ref (w 9), .ref (w 10), .ref (w 11), .ref (w 12), .ref (w 13), .int 0, .int 0, .int 0, .int 0, .int 0, .int 0])), ((w 0), .inr (2, [.ref (w 1), .int 0])), ((w 1), aB g 600 (fun _ => 0)), ((w 2), .inr (1, [.ref (w 3), .ref (w 4), .ref (w 5), .ref (w 6), .int 0])), ((w 4), aB g 600 (fun _ => 0)), ((w 5), aB g 600 (fun _ => 0)), ((w 6), aB g 600 (fun _ => 0)), ((w 7), aI g 200 (fun _ => 0)), ((w 13), aI g 75 (fun _ => 0)), (h1, .inr (10, mo qm mv0)), ((qm 14), aI g 620 (fun _ => 0))]) (wc := [(h0, .inr (9, [.ref (q 0), .ref (q 1), .ref (q 2), .ref (q 3), .ref (q 4), .ref (q 5), .ref (q 6), .ref (q 7), .int 0])), ((q 0), .inr (2, [.ref r, .int 0])), (r, aB g 600 (fun _ => 0)), ((q 1), .inr (0, [.int 0, .int (-1)])), ((q 3), .inr (7, [.null, .null, .null, .int 0])), ((q 6), .inr (3, [.ref (w 0), .ref (w 2), .ref (w 7), .ref (w 8), .ref (w 9), .ref (w 10), .ref (w 11), .ref (w 12), .ref (w 13), .int 0, .int 0, .int 0, .int 0, .int 0, .int 0])), ((w 0), .inr (2, [.ref (w 1), .int 0])), ((w 1), aB g 600 (fun _ => 0)), ((w 2), .inr (1, [.ref (w 3), .ref (w 4), .ref (w 5), .ref (w 6), .int 0])), ((w 4), aB g 600 (fun _ => 0)), ((w 5), aB g 600 (fun _ => 0)), ((w 6), aB g 600 (fun _ => 0)), ((w 7), aI g 200 (fun _ => 0)), ((w 13), aI g 75 (fun _ => 0))]) (As := []) (rest := []) E hB hK (c_Ship_audit0 l g H.size h0 r q w .null .null .null (.int 0) 0 0 0 0 (-1) (fun _ => 0) (fun _ => 0) (fun _ => 0) (fun _ => 0) (fun _ => 0) (fun _ => 0) (fun _ => 0) (fun _ => 0) (fun _ _ => rfl)) mc_Ship_audit mi_Ship_audit me_Ship_audit wd_340 hP hD [0, 1, 2, 3, 4, 5, 6, 7, 8, 9, 10, 11, 12, 13] rfl (by decide) 0 rfl rfl rfl rfl rfl (by decide) rfl hl.1 rfl (Nat.le_of_ble_eq_true rfl) (by decide) d_Law_law_481) hP hD hS hA [0, 1, 2, 3, 4, 5, 6, 7, 8, 9, 10, 11, 12, 13] [14, 15] rfl rfl (by decide) (by decide) (fun r1 u2 H locs hr1 hP hD hS => ?_)
  try dsimp only at hr1
  have hP : va_P g.1 classes [(h1, .inr (10, mo qm mv0)), ((qm 14), aI g 620 (fun _ => 0))] H := hP.sub [0, 1] rfl
  have hD : va_D A [(h1, .inr (10, mo qm mv0)), ((qm 14), aI g 620 (fun _ => 0))] := hD.sub [0, 1] (by decide) rfl
  obtain rfl : r1 = 1 := hr1
  refine lv_aload_n hx hb d_Law_law_484 rfl (lv_at hl 2 rfl) ?_
  refine tw_wi (wr := []) (tw_runV (ws := [(h1, .inr (10, mo qm mv0)), ((qm 14), aI g 620 (fun _ => 0))]) (wc := [(h1, .inr (10, mo qm mv0)), ((qm 14), aI g 620 (fun _ => 0))]) (As := []) (rest := [.int 1]) E hB hK (c_Mod_audit0 l g H.size h1 qm mv0 (fun _ => 0)) mc_Mod_audit mi_Mod_audit me_Mod_audit wd_1466 hP hD [0, 1] rfl (by decide) 0 rfl rfl rfl rfl rfl (by decide) rfl hl.1 rfl (Nat.le_of_ble_eq_true rfl) (by decide) d_Law_law_485) hP hD hS hA [0, 1] [] rfl rfl (by decide) (by decide) (fun r3 u4 H locs hr3 hP hD hS => ?_)
  try dsimp only at hr3
  have hP : va_P g.1 classes [] H := hP.sub [] rfl
  have hD : va_D A [] := hD.sub [] (by decide) rfl
  obtain rfl : r3 = 1 := hr3
  refine lv_icmp_eq (tgt := 818) hx hb d_Law_law_488 (by decide) (fun h488 => ?_) (fun h488 => ?_)
  · exact lp_tail l hfl g hA hA2 E hB hK hX hN hXs hbl (by decide) o h1 h0 _ _ (by decide) (by decide) H locs ls (lv_sub hl [0, 1, 2, 3, 4] rfl) hS
  · exact absurd rfl h488
set_option maxHeartbeats 4000000 in
set_option maxRecDepth 100000 in
theorem lp_case6 {p : Program} {e : Env} {s : State} {m : MethodId} {below : List Frame} {meth : Method} {c : Code} (l : Launch) (hfl : l.flags = flags0) (g : tw_G) {b L : Nat} {xs : Nat → Int32} {A : Nat → Prop} (hA : ∀ q, s.heap.size ≤ q → A q) (hA2 : ∀ q, A q → s.heap.size ≤ q) (E : tw_E p s m #[Value.ref b] meth c code 7 ret "ShippedClassLaw" meth.name) (hB : tw_B s) (hK : va_K g.1 classes (tw_ty g) s) (hX : tw_X A s s.heap) (hN : tw_N s) (hXs : va_X b L xs s s.heap) (hbl : b < s.heap.size) (hL : 6 = L) (h0 h1 o r p0 p1 p2 : Nat) (q w qm : Nat → Nat) (H : Heap) (locs : List Loc) (ls : Array Slot) (hl : lv_has ls 7 [(4, .int 0), (3, .ref o), (2, .ref h1), (1, .ref h0), (0, .ref b)]) (hP : va_P g.1 classes [(h0, .inr (9, [.ref (q 0), .ref (q 1), .ref (q 2), .ref (q 3), .ref (q 4), .ref (q 5), .ref (q 6), .ref (q 7), .int 0])), ((q 1), .inr (0, [.int 0, .int (-1)])), (h1, .inr (10, mo qm mv0))] H) (hD : va_D A [(h0, .inr (9, [.ref (q 0), .ref (q 1), .ref (q 2), .ref (q 3), .ref (q 4), .ref (q 5), .ref (q 6), .ref (q 7), .int 0])), ((q 1), .inr (0, [.int 0, .int (-1)])), (h1, .inr (10, mo qm mv0))]) (hS : va_S A s.heap H locs) : W p l e room_1 s m #[Value.ref b] below meth c H locs 86 183553 (lw_Z below #[Value.ref b] s) (F0 m 493 ls []) := by
  obtain ⟨hx, hb, hml, hr, hown, hts, hlocks, hin⟩ := id E
  have hbA : ¬ A b := fun h => absurd (hA2 b h) (by omega)
  subst hL
  refine lv_aload_n hx hb d_Law_law_493 rfl (lv_at hl 3 rfl) ?_
  refine tw_si (tw_runV (ws := [(h0, .inr (9, [.ref (q 0), .ref (q 1), .ref (q 2), .ref (q 3), .ref (q 4), .ref (q 5), .ref (q 6), .ref (q 7), .int 0])), ((q 1), .inr (0, [.int 0, .int (-1)])), (h1, .inr (10, mo qm mv0))]) (wc := [(h0, .inr (9, [.ref (q 0), .ref (q 1), .ref (q 2), .ref (q 3), .ref (q 4), .ref (q 5), .ref (q 6), .ref (q 7), .int 0])), ((q 1), .inr (0, [.int 0, .int (-1)]))]) (As := []) (rest := []) E hB hK (c_Ship_place l g H.size h0 q 0 0 (-1)) mc_Ship_place mi_Ship_place me_Ship_place wd_1017 hP hD [0, 1] rfl (by decide) 0 rfl rfl rfl rfl rfl (by decide) rfl hl.1 rfl (Nat.le_of_ble_eq_true rfl) (by decide) d_Law_law_494) (fun r1 hr1 => ?_)
  obtain rfl : r1 = (-1) := hr1
  refine lv_aload_n hx hb d_Law_law_497 rfl (lv_at hl 2 rfl) ?_
  refine tw_wi (wr := [(h0, .inr (9, [.ref (q 0), .ref (q 1), .ref (q 2), .ref (q 3), .ref (q 4), .ref (q 5), .ref (q 6), .ref (q 7), .int 0])), ((q 1), .inr (0, [.int 0, .int (-1)]))]) (tw_runV (ws := [(h0, .inr (9, [.ref (q 0), .ref (q 1), .ref (q 2), .ref (q 3), .ref (q 4), .ref (q 5), .ref (q 6), .ref (q 7), .int 0])), ((q 1), .inr (0, [.int 0, .int (-1)])), (h1, .inr (10, mo qm mv0))]) (wc := [(h1, .inr (10, mo qm mv0))]) (As := []) (rest := [.int (-1)]) E hB hK (c_Mod_place l g H.size h1 qm mv0 (-1)) mc_Mod_place mi_Mod_place me_Mod_place wd_1728 hP hD [2] rfl (by decide) 0 rfl rfl rfl rfl rfl (by decide) rfl hl.1 rfl (Nat.le_of_ble_eq_true rfl) (by decide) d_Law_law_498) hP hD hS hA [2] [0, 1] rfl rfl (by decide) (by decide) (fun r2 u3 H locs hr2 hP hD hS => ?_)
  try dsimp only at hr2
  have hP : va_P g.1 classes [(h0, .inr (9, [.ref (q 0), .ref (q 1), .ref (q 2), .ref (q 3), .ref (q 4), .ref (q 5), .ref (q 6), .ref (q 7), .int 0])), ((q 1), .inr (0, [.int 0, .int (-1)]))] H := hP.sub [0, 1] rfl
  have hD : va_D A [(h0, .inr (9, [.ref (q 0), .ref (q 1), .ref (q 2), .ref (q 3), .ref (q 4), .ref (q 5), .ref (q 6), .ref (q 7), .int 0])), ((q 1), .inr (0, [.int 0, .int (-1)]))] := hD.sub [0, 1] (by decide) rfl
  obtain rfl : r2 = (-1) := hr2
  refine lv_icmp_eq (tgt := 818) hx hb d_Law_law_501 (by decide) (fun h501 => ?_) (fun h501 => ?_)
  · exact lp_tail l hfl g hA hA2 E hB hK hX hN hXs hbl (by decide) o h1 h0 _ _ (by decide) (by decide) H locs ls (lv_sub hl [0, 1, 2, 3, 4] rfl) hS
  · exact absurd rfl h501
set_option maxHeartbeats 4000000 in
set_option maxRecDepth 100000 in
theorem lp_case7 {p : Program} {e : Env} {s : State} {m : MethodId} {below : List Frame} {meth : Method} {c : Code} (l : Launch) (hfl : l.flags = flags0) (g : tw_G) {b L : Nat} {xs : Nat → Int32} {A : Nat → Prop} (hA : ∀ q, s.heap.size ≤ q → A q) (hA2 : ∀ q, A q → s.heap.size ≤ q) (E : tw_E p s m #[Value.ref b] meth c code 7 ret "ShippedClassLaw" meth.name) (hB : tw_B s) (hK : va_K g.1 classes (tw_ty g) s) (hX : tw_X A s s.heap) (hN : tw_N s) (hXs : va_X b L xs s s.heap) (hbl : b < s.heap.size) (hL : 6 = L) (h0 h1 o r p0 p1 p2 : Nat) (q w qm : Nat → Nat) (H : Heap) (locs : List Loc) (ls : Array Slot) (hl : lv_has ls 7 [(4, .int 0), (3, .ref o), (2, .ref h1), (1, .ref h0), (0, .ref b)]) (hP : va_P g.1 classes [(h0, .inr (9, [.ref (q 0), .ref (q 1), .ref (q 2), .ref (q 3), .ref (q 4), .ref (q 5), .ref (q 6), .ref (q 7), .int 0])), (o, aJ g 1 (fun _ => 0)), (h1, .inr (10, mo qm mv0))] H) (hD : va_D A [(h0, .inr (9, [.ref (q 0), .ref (q 1), .ref (q 2), .ref (q 3), .ref (q 4), .ref (q 5), .ref (q 6), .ref (q 7), .int 0])), (o, aJ g 1 (fun _ => 0)), (h1, .inr (10, mo qm mv0))]) (hS : va_S A s.heap H locs) : W p l e room_1 s m #[Value.ref b] below meth c H locs 86 183553 (lw_Z below #[Value.ref b] s) (F0 m 506 ls []) := by
  obtain ⟨hx, hb, hml, hr, hown, hts, hlocks, hin⟩ := id E
  have hbA : ¬ A b := fun h => absurd (hA2 b h) (by omega)
  subst hL
  refine lv_aload_n hx hb d_Law_law_506 rfl (lv_at hl 3 rfl) ?_
  refine lv_aload_n hx hb d_Law_law_507 rfl (lv_at hl 4 rfl) ?_
  refine lv_iload hx hb d_Law_law_508 (lv_at hl 0 rfl) ?_
  refine lv_iconst (v := 1) hx hb d_Law_law_510 (by decide) ?_
  refine lv_iadd hx hb d_Law_law_511 ?_
  refine tw_ri (e2 := 1) (by decide) ?_
  refine va_sld hx hb hXs hbl hbA hS (by unfold vp_in; decide) d_Law_law_512 ?_
  refine lv_aload_n hx hb d_Law_law_513 rfl (lv_at hl 1 rfl) ?_
  refine tw_wi (wr := [(h1, .inr (10, mo qm mv0))]) (tw_runL (ws := [(h0, .inr (9, [.ref (q 0), .ref (q 1), .ref (q 2), .ref (q 3), .ref (q 4), .ref (q 5), .ref (q 6), .ref (q 7), .int 0])), (o, aJ g 1 (fun _ => 0)), (h1, .inr (10, mo qm mv0))]) (wc := [(h0, .inr (9, [.ref (q 0), .ref (q 1), .ref (q 2), .ref (q 3), .ref (q 4), .ref (q 5), .ref (q 6), .ref (q 7), .int 0])), (o, aJ g 1 (fun _ => 0))]) (As := [.ref h0, .int (xs (1 : Int32).toNatClampNeg), .ref o]) (rest := []) E hB hK (c_Law_count0 l hfl g H.size h0 o q (xs (1 : Int32).toNatClampNeg) 0) wd_1175 ⟨by decide, by decide⟩ wd_1174 wd_0 wd_1173 hP hD hS hA hX hN [0, 1] rfl (by decide) rfl rfl (by decide) ln_count hl.1 rfl (Nat.le_of_ble_eq_true rfl) (by decide) d_Law_law_514) hP hD hS hA [0, 1] [2] rfl rfl (by decide) (by decide) (fun k u H locs hk hP hD hS => ?_)
  try dsimp only at hk
  have hP : va_P g.1 classes [(h1, .inr (10, mo qm mv0)), (h0, .inr (9, [.ref (q 0), .ref (q 1), .ref (q 2), .ref (q 3), .ref (q 4), .ref (q 5), .ref (q 6), .ref (q 7), .int 0])), (o, aJ g 1 (fun _ => 0))] H := hP
  have hD : va_D A [(h1, .inr (10, mo qm mv0)), (h0, .inr (9, [.ref (q 0), .ref (q 1), .ref (q 2), .ref (q 3), .ref (q 4), .ref (q 5), .ref (q 6), .ref (q 7), .int 0])), (o, aJ g 1 (fun _ => 0))] := hD
  refine W.widen (k := 87) (n := 183559) (by decide) (by decide) ?_
  refine lv_istore hx hb d_Law_law_517 hl (by decide) rfl (fun ls hl => ?_)
  have hl : lv_has ls 7 [(5, .int k), (4, .int 0), (3, .ref o), (2, .ref h1), (1, .ref h0), (0, .ref b)] := hl
  refine lv_aload_n hx hb d_Law_law_519 rfl (lv_at hl 3 rfl) ?_
  refine lv_aload_n hx hb d_Law_law_520 rfl (lv_at hl 5 rfl) ?_
  refine lv_iload hx hb d_Law_law_521 (lv_at hl 1 rfl) ?_
  refine lv_iconst (v := 1) hx hb d_Law_law_523 (by decide) ?_
  refine lv_iadd hx hb d_Law_law_524 ?_
  refine tw_ri (e2 := 1) (by decide) ?_
  refine va_sld hx hb hXs hbl hbA hS (by unfold vp_in; decide) d_Law_law_525 ?_
  refine tw_wi (wr := [(h0, .inr (9, [.ref (q 0), .ref (q 1), .ref (q 2), .ref (q 3), .ref (q 4), .ref (q 5), .ref (q 6), .ref (q 7), .int 0])), (o, aJ g 1 (fun _ => 0))]) (tw_runV (ws := [(h1, .inr (10, mo qm mv0)), (h0, .inr (9, [.ref (q 0), .ref (q 1), .ref (q 2), .ref (q 3), .ref (q 4), .ref (q 5), .ref (q 6), .ref (q 7), .int 0])), (o, aJ g 1 (fun _ => 0))]) (wc := [(h1, .inr (10, mo qm mv0))]) (As := [.int (xs (1 : Int32).toNatClampNeg)]) (rest := []) E hB hK (c_Mod_count0 l g H.size h1 qm mv0 (xs (1 : Int32).toNatClampNeg)) mc_Mod_count mi_Mod_count me_Mod_count wd_1732 hP hD [0] rfl (by decide) 0 rfl rfl rfl rfl rfl (by decide) rfl hl.1 rfl (Nat.le_of_ble_eq_true rfl) (by decide) d_Law_law_526) hP hD hS hA [0] [1, 2] rfl rfl (by decide) (by decide) (fun r1 u2 H locs hr1 hP hD hS => ?_)
  try dsimp only at hr1
  have hP : va_P g.1 classes [(h0, .inr (9, [.ref (q 0), .ref (q 1), .ref (q 2), .ref (q 3), .ref (q 4), .ref (q 5), .ref (q 6), .ref (q 7), .int 0])), (o, aJ g 1 (fun _ => 0)), (h1, .inr (10, mo qm (upd (upd mv0 0 1) 52 0)))] H := hP
  have hD : va_D A [(h0, .inr (9, [.ref (q 0), .ref (q 1), .ref (q 2), .ref (q 3), .ref (q 4), .ref (q 5), .ref (q 6), .ref (q 7), .int 0])), (o, aJ g 1 (fun _ => 0)), (h1, .inr (10, mo qm (upd (upd mv0 0 1) 52 0)))] := hD
  have hP : va_P g.1 classes [(h1, .inr (10, mo qm (upd (upd mv0 0 1) 52 0))), (h0, .inr (9, [.ref (q 0), .ref (q 1), .ref (q 2), .ref (q 3), .ref (q 4), .ref (q 5), .ref (q 6), .ref (q 7), .int 0])), (o, aJ g 1 (fun _ => 0))] H := hP.sub [2, 0, 1] rfl
  have hD : va_D A [(h1, .inr (10, mo qm (upd (upd mv0 0 1) 52 0))), (h0, .inr (9, [.ref (q 0), .ref (q 1), .ref (q 2), .ref (q 3), .ref (q 4), .ref (q 5), .ref (q 6), .ref (q 7), .int 0])), (o, aJ g 1 (fun _ => 0))] := hD.sub [2, 0, 1] (by decide) rfl
  refine lv_istore hx hb d_Law_law_529 hl (by decide) rfl (fun ls hl => ?_)
  have hl : lv_has ls 7 [(6, .int r1), (5, .int k), (4, .int 0), (3, .ref o), (2, .ref h1), (1, .ref h0), (0, .ref b)] := hl
  refine lv_aload_n hx hb d_Law_law_531 rfl (lv_at hl 4 rfl) ?_
  refine tw_si (tw_runV (ws := [(h1, .inr (10, mo qm (upd (upd mv0 0 1) 52 0))), (h0, .inr (9, [.ref (q 0), .ref (q 1), .ref (q 2), .ref (q 3), .ref (q 4), .ref (q 5), .ref (q 6), .ref (q 7), .int 0])), (o, aJ g 1 (fun _ => 0))]) (wc := [(h1, .inr (10, mo qm (upd (upd mv0 0 1) 52 0)))]) (As := []) (rest := []) E hB hK (c_Mod_thrown l g H.size h1 qm (upd (upd mv0 0 1) 52 0) 1) mc_Mod_thrown mi_Mod_thrown me_Mod_thrown wd_1435 hP hD [0] rfl (by decide) 0 rfl rfl rfl rfl rfl (by decide) rfl hl.1 rfl (Nat.le_of_ble_eq_true rfl) (by decide) d_Law_law_532) (fun r3 hr3 => ?_)
  obtain rfl : r3 = 1 := hr3
  refine lv_iload hx hb d_Law_law_535 (lv_at hl 1 rfl) ?_
  refine lv_icmp_eq (tgt := 542) hx hb d_Law_law_537 (by decide) (fun h537 => ?_) (fun h537 => ?_)
  · refine lv_iload hx hb d_Law_law_542 (lv_at hl 1 rfl) ?_
    refine lv_if_ne (tgt := 559) hx hb d_Law_law_544 (by decide) (fun h544 => ?_) (fun h544 => ?_)
    · refine lv_goto (tgt := 818) hx hb d_Law_law_559 (by decide) ?_
      exact lp_tail l hfl g hA hA2 E hB hK hX hN hXs hbl (by decide) o h1 h0 _ _ (by decide) (by decide) H locs ls (lv_sub hl [2, 3, 4, 5, 6] rfl) hS
    · exact absurd (hk.symm.trans h544) (by decide)
  · exact absurd hk.symm h537
set_option maxHeartbeats 4000000 in
set_option maxRecDepth 100000 in
theorem lp_case8 {p : Program} {e : Env} {s : State} {m : MethodId} {below : List Frame} {meth : Method} {c : Code} (l : Launch) (hfl : l.flags = flags0) (g : tw_G) {b L : Nat} {xs : Nat → Int32} {A : Nat → Prop} (hA : ∀ q, s.heap.size ≤ q → A q) (hA2 : ∀ q, A q → s.heap.size ≤ q) (E : tw_E p s m #[Value.ref b] meth c code 7 ret "ShippedClassLaw" meth.name) (hB : tw_B s) (hK : va_K g.1 classes (tw_ty g) s) (hX : tw_X A s s.heap) (hN : tw_N s) (hXs : va_X b L xs s s.heap) (hbl : b < s.heap.size) (hL : 6 = L) (h0 h1 o r p0 p1 p2 : Nat) (q w qm : Nat → Nat) (H : Heap) (locs : List Loc) (ls : Array Slot) (hl : lv_has ls 7 [(4, .int 0), (3, .ref o), (2, .ref h1), (1, .ref h0), (0, .ref b)]) (hP : va_P g.1 classes [(h0, .inr (9, [.ref (q 0), .ref (q 1), .ref (q 2), .ref (q 3), .ref (q 4), .ref (q 5), .ref (q 6), .ref (q 7), .int 0])), (o, aJ g 1 (fun _ => 0)), (h1, .inr (10, mo qm mv0))] H) (hD : va_D A [(h0, .inr (9, [.ref (q 0), .ref (q 1), .ref (q 2), .ref (q 3), .ref (q 4), .ref (q 5), .ref (q 6), .ref (q 7), .int 0])), (o, aJ g 1 (fun _ => 0)), (h1, .inr (10, mo qm mv0))]) (hS : va_S A s.heap H locs) : W p l e room_1 s m #[Value.ref b] below meth c H locs 86 183553 (lw_Z below #[Value.ref b] s) (F0 m 562 ls []) := by
  obtain ⟨hx, hb, hml, hr, hown, hts, hlocks, hin⟩ := id E
  have hbA : ¬ A b := fun h => absurd (hA2 b h) (by omega)
  subst hL
  refine lv_aload_n hx hb d_Law_law_562 rfl (lv_at hl 3 rfl) ?_
  refine lv_aload_n hx hb d_Law_law_563 rfl (lv_at hl 4 rfl) ?_
  refine lv_iload hx hb d_Law_law_564 (lv_at hl 0 rfl) ?_
  refine lv_iconst (v := 1) hx hb d_Law_law_566 (by decide) ?_
  refine lv_iadd hx hb d_Law_law_567 ?_
  refine tw_ri (e2 := 1) (by decide) ?_
  refine va_sld hx hb hXs hbl hbA hS (by unfold vp_in; decide) d_Law_law_568 ?_
  refine lv_aload_n hx hb d_Law_law_569 rfl (lv_at hl 4 rfl) ?_
  refine lv_iload hx hb d_Law_law_570 (lv_at hl 0 rfl) ?_
  refine lv_iconst (v := 2) hx hb d_Law_law_572 (by decide) ?_
  refine lv_iadd hx hb d_Law_law_573 ?_
  refine tw_ri (e2 := 2) (by decide) ?_
  refine va_sld hx hb hXs hbl hbA hS (by unfold vp_in; decide) d_Law_law_574 ?_
  refine lv_aload_n hx hb d_Law_law_575 rfl (lv_at hl 4 rfl) ?_
  refine lv_iload hx hb d_Law_law_576 (lv_at hl 0 rfl) ?_
  refine lv_iconst (v := 3) hx hb d_Law_law_578 (by decide) ?_
  refine lv_iadd hx hb d_Law_law_579 ?_
  refine tw_ri (e2 := 3) (by decide) ?_
  refine va_sld hx hb hXs hbl hbA hS (by unfold vp_in; decide) d_Law_law_580 ?_
  refine lv_aload_n hx hb d_Law_law_581 rfl (lv_at hl 1 rfl) ?_
  refine tw_wi (wr := [(h1, .inr (10, mo qm mv0))]) (tw_runL (ws := [(h0, .inr (9, [.ref (q 0), .ref (q 1), .ref (q 2), .ref (q 3), .ref (q 4), .ref (q 5), .ref (q 6), .ref (q 7), .int 0])), (o, aJ g 1 (fun _ => 0)), (h1, .inr (10, mo qm mv0))]) (wc := [(h0, .inr (9, [.ref (q 0), .ref (q 1), .ref (q 2), .ref (q 3), .ref (q 4), .ref (q 5), .ref (q 6), .ref (q 7), .int 0])), (o, aJ g 1 (fun _ => 0))]) (As := [.ref h0, .int (xs (1 : Int32).toNatClampNeg), .int (xs (2 : Int32).toNatClampNeg), .int (xs (3 : Int32).toNatClampNeg), .ref o]) (rest := []) E hB hK (c_Law_text0 l hfl g H.size h0 o q (xs (1 : Int32).toNatClampNeg) (xs (2 : Int32).toNatClampNeg) (xs (3 : Int32).toNatClampNeg) 0) wd_1197 ⟨by decide, by decide⟩ wd_1196 wd_0 wd_1195 hP hD hS hA hX hN [0, 1] rfl (by decide) rfl rfl (by decide) ln_text hl.1 rfl (Nat.le_of_ble_eq_true rfl) (by decide) d_Law_law_582) hP hD hS hA [0, 1] [2] rfl rfl (by decide) (by decide) (fun k u H locs hk hP hD hS => ?_)
  try dsimp only at hk
  have hP : va_P g.1 classes [(h1, .inr (10, mo qm mv0)), (h0, .inr (9, [.ref (q 0), .ref (q 1), .ref (q 2), .ref (q 3), .ref (q 4), .ref (q 5), .ref (q 6), .ref (q 7), .int 0])), (o, aJ g 1 (fun _ => 0))] H := hP
  have hD : va_D A [(h1, .inr (10, mo qm mv0)), (h0, .inr (9, [.ref (q 0), .ref (q 1), .ref (q 2), .ref (q 3), .ref (q 4), .ref (q 5), .ref (q 6), .ref (q 7), .int 0])), (o, aJ g 1 (fun _ => 0))] := hD
  refine W.widen (k := 87) (n := 183559) (by decide) (by decide) ?_
  refine lv_istore hx hb d_Law_law_585 hl (by decide) rfl (fun ls hl => ?_)
  have hl : lv_has ls 7 [(5, .int k), (4, .int 0), (3, .ref o), (2, .ref h1), (1, .ref h0), (0, .ref b)] := hl
  refine lv_aload_n hx hb d_Law_law_587 rfl (lv_at hl 3 rfl) ?_
  refine lv_aload_n hx hb d_Law_law_588 rfl (lv_at hl 5 rfl) ?_
  refine lv_iload hx hb d_Law_law_589 (lv_at hl 1 rfl) ?_
  refine lv_iconst (v := 1) hx hb d_Law_law_591 (by decide) ?_
  refine lv_iadd hx hb d_Law_law_592 ?_
  refine tw_ri (e2 := 1) (by decide) ?_
  refine va_sld hx hb hXs hbl hbA hS (by unfold vp_in; decide) d_Law_law_593 ?_
  refine lv_aload_n hx hb d_Law_law_594 rfl (lv_at hl 5 rfl) ?_
  refine lv_iload hx hb d_Law_law_595 (lv_at hl 1 rfl) ?_
  refine lv_iconst (v := 2) hx hb d_Law_law_597 (by decide) ?_
  refine lv_iadd hx hb d_Law_law_598 ?_
  refine tw_ri (e2 := 2) (by decide) ?_
  refine va_sld hx hb hXs hbl hbA hS (by unfold vp_in; decide) d_Law_law_599 ?_
  refine lv_aload_n hx hb d_Law_law_600 rfl (lv_at hl 5 rfl) ?_
  refine lv_iload hx hb d_Law_law_601 (lv_at hl 1 rfl) ?_
  refine lv_iconst (v := 3) hx hb d_Law_law_603 (by decide) ?_
  refine lv_iadd hx hb d_Law_law_604 ?_
  refine tw_ri (e2 := 3) (by decide) ?_
  refine va_sld hx hb hXs hbl hbA hS (by unfold vp_in; decide) d_Law_law_605 ?_
  refine tw_wi (wr := [(h0, .inr (9, [.ref (q 0), .ref (q 1), .ref (q 2), .ref (q 3), .ref (q 4), .ref (q 5), .ref (q 6), .ref (q 7), .int 0])), (o, aJ g 1 (fun _ => 0))]) (tw_runV (ws := [(h1, .inr (10, mo qm mv0)), (h0, .inr (9, [.ref (q 0), .ref (q 1), .ref (q 2), .ref (q 3), .ref (q 4), .ref (q 5), .ref (q 6), .ref (q 7), .int 0])), (o, aJ g 1 (fun _ => 0))]) (wc := [(h1, .inr (10, mo qm mv0))]) (As := [.int (xs (1 : Int32).toNatClampNeg), .int (xs (2 : Int32).toNatClampNeg), .int (xs (3 : Int32).toNatClampNeg)]) (rest := []) E hB hK (c_Mod_text0 l g H.size h1 qm mv0 (xs (1 : Int32).toNatClampNeg) (xs (2 : Int32).toNatClampNeg) (xs (3 : Int32).toNatClampNeg)) mc_Mod_text mi_Mod_text me_Mod_text wd_1736 hP hD [0] rfl (by decide) 0 rfl rfl rfl rfl rfl (by decide) rfl hl.1 rfl (Nat.le_of_ble_eq_true rfl) (by decide) d_Law_law_606) hP hD hS hA [0] [1, 2] rfl rfl (by decide) (by decide) (fun r1 u2 H locs hr1 hP hD hS => ?_)
  try dsimp only at hr1
  have hP : va_P g.1 classes [(h0, .inr (9, [.ref (q 0), .ref (q 1), .ref (q 2), .ref (q 3), .ref (q 4), .ref (q 5), .ref (q 6), .ref (q 7), .int 0])), (o, aJ g 1 (fun _ => 0)), (h1, .inr (10, mo qm (upd (upd mv0 0 1) 52 0)))] H := hP
  have hD : va_D A [(h0, .inr (9, [.ref (q 0), .ref (q 1), .ref (q 2), .ref (q 3), .ref (q 4), .ref (q 5), .ref (q 6), .ref (q 7), .int 0])), (o, aJ g 1 (fun _ => 0)), (h1, .inr (10, mo qm (upd (upd mv0 0 1) 52 0)))] := hD
  have hP : va_P g.1 classes [(h1, .inr (10, mo qm (upd (upd mv0 0 1) 52 0))), (h0, .inr (9, [.ref (q 0), .ref (q 1), .ref (q 2), .ref (q 3), .ref (q 4), .ref (q 5), .ref (q 6), .ref (q 7), .int 0])), (o, aJ g 1 (fun _ => 0))] H := hP.sub [2, 0, 1] rfl
  have hD : va_D A [(h1, .inr (10, mo qm (upd (upd mv0 0 1) 52 0))), (h0, .inr (9, [.ref (q 0), .ref (q 1), .ref (q 2), .ref (q 3), .ref (q 4), .ref (q 5), .ref (q 6), .ref (q 7), .int 0])), (o, aJ g 1 (fun _ => 0))] := hD.sub [2, 0, 1] (by decide) rfl
  refine lv_istore hx hb d_Law_law_609 hl (by decide) rfl (fun ls hl => ?_)
  have hl : lv_has ls 7 [(6, .int r1), (5, .int k), (4, .int 0), (3, .ref o), (2, .ref h1), (1, .ref h0), (0, .ref b)] := hl
  refine lv_aload_n hx hb d_Law_law_611 rfl (lv_at hl 4 rfl) ?_
  refine tw_si (tw_runV (ws := [(h1, .inr (10, mo qm (upd (upd mv0 0 1) 52 0))), (h0, .inr (9, [.ref (q 0), .ref (q 1), .ref (q 2), .ref (q 3), .ref (q 4), .ref (q 5), .ref (q 6), .ref (q 7), .int 0])), (o, aJ g 1 (fun _ => 0))]) (wc := [(h1, .inr (10, mo qm (upd (upd mv0 0 1) 52 0)))]) (As := []) (rest := []) E hB hK (c_Mod_thrown l g H.size h1 qm (upd (upd mv0 0 1) 52 0) 1) mc_Mod_thrown mi_Mod_thrown me_Mod_thrown wd_1435 hP hD [0] rfl (by decide) 0 rfl rfl rfl rfl rfl (by decide) rfl hl.1 rfl (Nat.le_of_ble_eq_true rfl) (by decide) d_Law_law_612) (fun r3 hr3 => ?_)
  obtain rfl : r3 = 1 := hr3
  refine lv_iload hx hb d_Law_law_615 (lv_at hl 1 rfl) ?_
  refine lv_icmp_eq (tgt := 622) hx hb d_Law_law_617 (by decide) (fun h617 => ?_) (fun h617 => ?_)
  · refine lv_iload hx hb d_Law_law_622 (lv_at hl 1 rfl) ?_
    refine lv_if_ne (tgt := 639) hx hb d_Law_law_624 (by decide) (fun h624 => ?_) (fun h624 => ?_)
    · refine lv_goto (tgt := 818) hx hb d_Law_law_639 (by decide) ?_
      exact lp_tail l hfl g hA hA2 E hB hK hX hN hXs hbl (by decide) o h1 h0 _ _ (by decide) (by decide) H locs ls (lv_sub hl [2, 3, 4, 5, 6] rfl) hS
    · exact absurd (hk.symm.trans h624) (by decide)
  · exact absurd hk.symm h617
set_option maxHeartbeats 4000000 in
set_option maxRecDepth 100000 in
theorem lp_case9 {p : Program} {e : Env} {s : State} {m : MethodId} {below : List Frame} {meth : Method} {c : Code} (l : Launch) (hfl : l.flags = flags0) (g : tw_G) {b L : Nat} {xs : Nat → Int32} {A : Nat → Prop} (hA : ∀ q, s.heap.size ≤ q → A q) (hA2 : ∀ q, A q → s.heap.size ≤ q) (E : tw_E p s m #[Value.ref b] meth c code 7 ret "ShippedClassLaw" meth.name) (hB : tw_B s) (hK : va_K g.1 classes (tw_ty g) s) (hX : tw_X A s s.heap) (hN : tw_N s) (hXs : va_X b L xs s s.heap) (hbl : b < s.heap.size) (hL : 6 = L) (h0 h1 o r p0 p1 p2 : Nat) (q w qm : Nat → Nat) (H : Heap) (locs : List Loc) (ls : Array Slot) (hl : lv_has ls 7 [(4, .int 0), (3, .ref o), (2, .ref h1), (1, .ref h0), (0, .ref b)]) (hP : va_P g.1 classes [(h0, .inr (9, [.ref (q 0), .ref (q 1), .ref (q 2), .ref (q 3), .ref (q 4), .ref (q 5), .ref (q 6), .ref (q 7), .int 0])), (o, aJ g 1 (fun _ => 0)), (h1, .inr (10, mo qm mv0))] H) (hD : va_D A [(h0, .inr (9, [.ref (q 0), .ref (q 1), .ref (q 2), .ref (q 3), .ref (q 4), .ref (q 5), .ref (q 6), .ref (q 7), .int 0])), (o, aJ g 1 (fun _ => 0)), (h1, .inr (10, mo qm mv0))]) (hS : va_S A s.heap H locs) : W p l e room_1 s m #[Value.ref b] below meth c H locs 86 183553 (lw_Z below #[Value.ref b] s) (F0 m 642 ls []) := by
  obtain ⟨hx, hb, hml, hr, hown, hts, hlocks, hin⟩ := id E
  have hbA : ¬ A b := fun h => absurd (hA2 b h) (by omega)
  subst hL
  refine lv_aload_n hx hb d_Law_law_642 rfl (lv_at hl 3 rfl) ?_
  refine lv_aload_n hx hb d_Law_law_643 rfl (lv_at hl 4 rfl) ?_
  refine lv_iload hx hb d_Law_law_644 (lv_at hl 0 rfl) ?_
  refine lv_iconst (v := 1) hx hb d_Law_law_646 (by decide) ?_
  refine lv_iadd hx hb d_Law_law_647 ?_
  refine tw_ri (e2 := 1) (by decide) ?_
  refine va_sld hx hb hXs hbl hbA hS (by unfold vp_in; decide) d_Law_law_648 ?_
  refine lv_aload_n hx hb d_Law_law_649 rfl (lv_at hl 4 rfl) ?_
  refine lv_iload hx hb d_Law_law_650 (lv_at hl 0 rfl) ?_
  refine lv_iconst (v := 2) hx hb d_Law_law_652 (by decide) ?_
  refine lv_iadd hx hb d_Law_law_653 ?_
  refine tw_ri (e2 := 2) (by decide) ?_
  refine va_sld hx hb hXs hbl hbA hS (by unfold vp_in; decide) d_Law_law_654 ?_
  refine lv_aload_n hx hb d_Law_law_655 rfl (lv_at hl 1 rfl) ?_
  refine tw_wi (wr := [(h1, .inr (10, mo qm mv0))]) (tw_runL (ws := [(h0, .inr (9, [.ref (q 0), .ref (q 1), .ref (q 2), .ref (q 3), .ref (q 4), .ref (q 5), .ref (q 6), .ref (q 7), .int 0])), (o, aJ g 1 (fun _ => 0)), (h1, .inr (10, mo qm mv0))]) (wc := [(h0, .inr (9, [.ref (q 0), .ref (q 1), .ref (q 2), .ref (q 3), .ref (q 4), .ref (q 5), .ref (q 6), .ref (q 7), .int 0])), (o, aJ g 1 (fun _ => 0))]) (As := [.ref h0, .int (xs (1 : Int32).toNatClampNeg), .int (xs (2 : Int32).toNatClampNeg), .ref o]) (rest := []) E hB hK (c_Law_depth0 l hfl g H.size h0 o q (xs (1 : Int32).toNatClampNeg) (xs (2 : Int32).toNatClampNeg) 0) wd_1217 ⟨by decide, by decide⟩ wd_1216 wd_0 wd_1215 hP hD hS hA hX hN [0, 1] rfl (by decide) rfl rfl (by decide) ln_depth hl.1 rfl (Nat.le_of_ble_eq_true rfl) (by decide) d_Law_law_656) hP hD hS hA [0, 1] [2] rfl rfl (by decide) (by decide) (fun k u H locs hk hP hD hS => ?_)
  try dsimp only at hk
  have hP : va_P g.1 classes [(h1, .inr (10, mo qm mv0)), (h0, .inr (9, [.ref (q 0), .ref (q 1), .ref (q 2), .ref (q 3), .ref (q 4), .ref (q 5), .ref (q 6), .ref (q 7), .int 0])), (o, aJ g 1 (fun _ => 0))] H := hP
  have hD : va_D A [(h1, .inr (10, mo qm mv0)), (h0, .inr (9, [.ref (q 0), .ref (q 1), .ref (q 2), .ref (q 3), .ref (q 4), .ref (q 5), .ref (q 6), .ref (q 7), .int 0])), (o, aJ g 1 (fun _ => 0))] := hD
  refine W.widen (k := 87) (n := 183559) (by decide) (by decide) ?_
  refine lv_istore hx hb d_Law_law_659 hl (by decide) rfl (fun ls hl => ?_)
  have hl : lv_has ls 7 [(5, .int k), (4, .int 0), (3, .ref o), (2, .ref h1), (1, .ref h0), (0, .ref b)] := hl
  refine lv_aload_n hx hb d_Law_law_661 rfl (lv_at hl 3 rfl) ?_
  refine lv_aload_n hx hb d_Law_law_662 rfl (lv_at hl 5 rfl) ?_
  refine lv_iload hx hb d_Law_law_663 (lv_at hl 1 rfl) ?_
  refine lv_iconst (v := 1) hx hb d_Law_law_665 (by decide) ?_
  refine lv_iadd hx hb d_Law_law_666 ?_
  refine tw_ri (e2 := 1) (by decide) ?_
  refine va_sld hx hb hXs hbl hbA hS (by unfold vp_in; decide) d_Law_law_667 ?_
  refine lv_aload_n hx hb d_Law_law_668 rfl (lv_at hl 5 rfl) ?_
  refine lv_iload hx hb d_Law_law_669 (lv_at hl 1 rfl) ?_
  refine lv_iconst (v := 2) hx hb d_Law_law_671 (by decide) ?_
  refine lv_iadd hx hb d_Law_law_672 ?_
  refine tw_ri (e2 := 2) (by decide) ?_
  refine va_sld hx hb hXs hbl hbA hS (by unfold vp_in; decide) d_Law_law_673 ?_
  refine tw_wi (wr := [(h0, .inr (9, [.ref (q 0), .ref (q 1), .ref (q 2), .ref (q 3), .ref (q 4), .ref (q 5), .ref (q 6), .ref (q 7), .int 0])), (o, aJ g 1 (fun _ => 0))]) (tw_runV (ws := [(h1, .inr (10, mo qm mv0)), (h0, .inr (9, [.ref (q 0), .ref (q 1), .ref (q 2), .ref (q 3), .ref (q 4), .ref (q 5), .ref (q 6), .ref (q 7), .int 0])), (o, aJ g 1 (fun _ => 0))]) (wc := [(h1, .inr (10, mo qm mv0))]) (As := [.int (xs (1 : Int32).toNatClampNeg), .int (xs (2 : Int32).toNatClampNeg)]) (rest := []) E hB hK (c_Mod_depth0 l g H.size h1 qm mv0 (xs (1 : Int32).toNatClampNeg) (xs (2 : Int32).toNatClampNeg)) mc_Mod_depth mi_Mod_depth me_Mod_depth wd_1740 hP hD [0] rfl (by decide) 0 rfl rfl rfl rfl rfl (by decide) rfl hl.1 rfl (Nat.le_of_ble_eq_true rfl) (by decide) d_Law_law_674) hP hD hS hA [0] [1, 2] rfl rfl (by decide) (by decide) (fun r1 u2 H locs hr1 hP hD hS => ?_)
  try dsimp only at hr1
  have hP : va_P g.1 classes [(h0, .inr (9, [.ref (q 0), .ref (q 1), .ref (q 2), .ref (q 3), .ref (q 4), .ref (q 5), .ref (q 6), .ref (q 7), .int 0])), (o, aJ g 1 (fun _ => 0)), (h1, .inr (10, mo qm (upd (upd mv0 0 1) 52 0)))] H := hP
  have hD : va_D A [(h0, .inr (9, [.ref (q 0), .ref (q 1), .ref (q 2), .ref (q 3), .ref (q 4), .ref (q 5), .ref (q 6), .ref (q 7), .int 0])), (o, aJ g 1 (fun _ => 0)), (h1, .inr (10, mo qm (upd (upd mv0 0 1) 52 0)))] := hD
  have hP : va_P g.1 classes [(h1, .inr (10, mo qm (upd (upd mv0 0 1) 52 0))), (h0, .inr (9, [.ref (q 0), .ref (q 1), .ref (q 2), .ref (q 3), .ref (q 4), .ref (q 5), .ref (q 6), .ref (q 7), .int 0])), (o, aJ g 1 (fun _ => 0))] H := hP.sub [2, 0, 1] rfl
  have hD : va_D A [(h1, .inr (10, mo qm (upd (upd mv0 0 1) 52 0))), (h0, .inr (9, [.ref (q 0), .ref (q 1), .ref (q 2), .ref (q 3), .ref (q 4), .ref (q 5), .ref (q 6), .ref (q 7), .int 0])), (o, aJ g 1 (fun _ => 0))] := hD.sub [2, 0, 1] (by decide) rfl
  refine lv_istore hx hb d_Law_law_677 hl (by decide) rfl (fun ls hl => ?_)
  have hl : lv_has ls 7 [(6, .int r1), (5, .int k), (4, .int 0), (3, .ref o), (2, .ref h1), (1, .ref h0), (0, .ref b)] := hl
  refine lv_aload_n hx hb d_Law_law_679 rfl (lv_at hl 4 rfl) ?_
  refine tw_si (tw_runV (ws := [(h1, .inr (10, mo qm (upd (upd mv0 0 1) 52 0))), (h0, .inr (9, [.ref (q 0), .ref (q 1), .ref (q 2), .ref (q 3), .ref (q 4), .ref (q 5), .ref (q 6), .ref (q 7), .int 0])), (o, aJ g 1 (fun _ => 0))]) (wc := [(h1, .inr (10, mo qm (upd (upd mv0 0 1) 52 0)))]) (As := []) (rest := []) E hB hK (c_Mod_thrown l g H.size h1 qm (upd (upd mv0 0 1) 52 0) 1) mc_Mod_thrown mi_Mod_thrown me_Mod_thrown wd_1435 hP hD [0] rfl (by decide) 0 rfl rfl rfl rfl rfl (by decide) rfl hl.1 rfl (Nat.le_of_ble_eq_true rfl) (by decide) d_Law_law_680) (fun r3 hr3 => ?_)
  obtain rfl : r3 = 1 := hr3
  refine lv_iload hx hb d_Law_law_683 (lv_at hl 1 rfl) ?_
  refine lv_icmp_eq (tgt := 690) hx hb d_Law_law_685 (by decide) (fun h685 => ?_) (fun h685 => ?_)
  · refine lv_iload hx hb d_Law_law_690 (lv_at hl 1 rfl) ?_
    refine lv_if_ne (tgt := 707) hx hb d_Law_law_692 (by decide) (fun h692 => ?_) (fun h692 => ?_)
    · refine lv_goto (tgt := 818) hx hb d_Law_law_707 (by decide) ?_
      exact lp_tail l hfl g hA hA2 E hB hK hX hN hXs hbl (by decide) o h1 h0 _ _ (by decide) (by decide) H locs ls (lv_sub hl [2, 3, 4, 5, 6] rfl) hS
    · exact absurd (hk.symm.trans h692) (by decide)
  · exact absurd hk.symm h685
set_option maxHeartbeats 4000000 in
set_option maxRecDepth 100000 in
theorem lp_case10 {p : Program} {e : Env} {s : State} {m : MethodId} {below : List Frame} {meth : Method} {c : Code} (l : Launch) (hfl : l.flags = flags0) (g : tw_G) {b L : Nat} {xs : Nat → Int32} {A : Nat → Prop} (hA : ∀ q, s.heap.size ≤ q → A q) (hA2 : ∀ q, A q → s.heap.size ≤ q) (E : tw_E p s m #[Value.ref b] meth c code 7 ret "ShippedClassLaw" meth.name) (hB : tw_B s) (hK : va_K g.1 classes (tw_ty g) s) (hX : tw_X A s s.heap) (hN : tw_N s) (hXs : va_X b L xs s s.heap) (hbl : b < s.heap.size) (hL : 6 = L) (h0 h1 o r p0 p1 p2 : Nat) (q w qm : Nat → Nat) (H : Heap) (locs : List Loc) (ls : Array Slot) (hl : lv_has ls 7 [(4, .int 0), (3, .ref o), (2, .ref h1), (1, .ref h0), (0, .ref b)]) (hP : va_P g.1 classes [(h0, .inr (9, [.ref (q 0), .ref (q 1), .ref (q 2), .ref (q 3), .ref (q 4), .ref (q 5), .ref (q 6), .ref (q 7), .int 0])), (o, aJ g 1 (fun _ => 0)), (h1, .inr (10, mo qm mv0))] H) (hD : va_D A [(h0, .inr (9, [.ref (q 0), .ref (q 1), .ref (q 2), .ref (q 3), .ref (q 4), .ref (q 5), .ref (q 6), .ref (q 7), .int 0])), (o, aJ g 1 (fun _ => 0)), (h1, .inr (10, mo qm mv0))]) (hS : va_S A s.heap H locs) : W p l e room_1 s m #[Value.ref b] below meth c H locs 86 183553 (lw_Z below #[Value.ref b] s) (F0 m 710 ls []) := by
  obtain ⟨hx, hb, hml, hr, hown, hts, hlocks, hin⟩ := id E
  have hbA : ¬ A b := fun h => absurd (hA2 b h) (by omega)
  subst hL
  refine lv_aload_n hx hb d_Law_law_710 rfl (lv_at hl 3 rfl) ?_
  refine lv_aload_n hx hb d_Law_law_711 rfl (lv_at hl 4 rfl) ?_
  refine lv_iload hx hb d_Law_law_712 (lv_at hl 0 rfl) ?_
  refine lv_iconst (v := 1) hx hb d_Law_law_714 (by decide) ?_
  refine lv_iadd hx hb d_Law_law_715 ?_
  refine tw_ri (e2 := 1) (by decide) ?_
  refine va_sld hx hb hXs hbl hbA hS (by unfold vp_in; decide) d_Law_law_716 ?_
  refine lv_aload_n hx hb d_Law_law_717 rfl (lv_at hl 4 rfl) ?_
  refine lv_iload hx hb d_Law_law_718 (lv_at hl 0 rfl) ?_
  refine lv_iconst (v := 2) hx hb d_Law_law_720 (by decide) ?_
  refine lv_iadd hx hb d_Law_law_721 ?_
  refine tw_ri (e2 := 2) (by decide) ?_
  refine va_sld hx hb hXs hbl hbA hS (by unfold vp_in; decide) d_Law_law_722 ?_
  refine lv_aload_n hx hb d_Law_law_723 rfl (lv_at hl 4 rfl) ?_
  refine lv_iload hx hb d_Law_law_724 (lv_at hl 0 rfl) ?_
  refine lv_iconst (v := 3) hx hb d_Law_law_726 (by decide) ?_
  refine lv_iadd hx hb d_Law_law_727 ?_
  refine tw_ri (e2 := 3) (by decide) ?_
  refine va_sld hx hb hXs hbl hbA hS (by unfold vp_in; decide) d_Law_law_728 ?_
  refine lv_if_eq (tgt := 736) hx hb d_Law_law_729 (by decide) (fun h729 => ?_) (fun h729 => ?_)
  · refine lv_iconst (v := 0) hx hb d_Law_law_736 (by decide) ?_
    refine lv_aload_n hx hb d_Law_law_737 rfl (lv_at hl 4 rfl) ?_
    refine lv_iload hx hb d_Law_law_738 (lv_at hl 0 rfl) ?_
    refine lv_iconst (v := 4) hx hb d_Law_law_740 (by decide) ?_
    refine lv_iadd hx hb d_Law_law_741 ?_
    refine tw_ri (e2 := 4) (by decide) ?_
    refine va_sld hx hb hXs hbl hbA hS (by unfold vp_in; decide) d_Law_law_742 ?_
    refine lv_aload_n hx hb d_Law_law_743 rfl (lv_at hl 1 rfl) ?_
    refine tw_wi (wr := [(h1, .inr (10, mo qm mv0))]) (tw_runL (ws := [(h0, .inr (9, [.ref (q 0), .ref (q 1), .ref (q 2), .ref (q 3), .ref (q 4), .ref (q 5), .ref (q 6), .ref (q 7), .int 0])), (o, aJ g 1 (fun _ => 0)), (h1, .inr (10, mo qm mv0))]) (wc := [(h0, .inr (9, [.ref (q 0), .ref (q 1), .ref (q 2), .ref (q 3), .ref (q 4), .ref (q 5), .ref (q 6), .ref (q 7), .int 0])), (o, aJ g 1 (fun _ => 0))]) (As := [.ref h0, .int (xs (1 : Int32).toNatClampNeg), .int (xs (2 : Int32).toNatClampNeg), .int 0, .int (xs (4 : Int32).toNatClampNeg), .ref o]) (rest := []) E hB hK (c_Law_kind0 l hfl g H.size h0 o q (xs (1 : Int32).toNatClampNeg) (xs (2 : Int32).toNatClampNeg) 0 (xs (4 : Int32).toNatClampNeg) 0) wd_1233 ⟨by decide, by decide⟩ wd_1232 wd_0 wd_1231 hP hD hS hA hX hN [0, 1] rfl (by decide) rfl rfl (by decide) ln_kind hl.1 rfl (Nat.le_of_ble_eq_true rfl) (by decide) d_Law_law_744) hP hD hS hA [0, 1] [2] rfl rfl (by decide) (by decide) (fun k u H locs hk hP hD hS => ?_)
    try dsimp only at hk
    have hP : va_P g.1 classes [(h1, .inr (10, mo qm mv0)), (h0, .inr (9, [.ref (q 0), .ref (q 1), .ref (q 2), .ref (q 3), .ref (q 4), .ref (q 5), .ref (q 6), .ref (q 7), .int 0])), (o, aJ g 1 (fun _ => 0))] H := hP
    have hD : va_D A [(h1, .inr (10, mo qm mv0)), (h0, .inr (9, [.ref (q 0), .ref (q 1), .ref (q 2), .ref (q 3), .ref (q 4), .ref (q 5), .ref (q 6), .ref (q 7), .int 0])), (o, aJ g 1 (fun _ => 0))] := hD
    refine W.widen (k := 87) (n := 183559) (by decide) (by decide) ?_
    refine lv_istore hx hb d_Law_law_747 hl (by decide) rfl (fun ls hl => ?_)
    have hl : lv_has ls 7 [(5, .int k), (4, .int 0), (3, .ref o), (2, .ref h1), (1, .ref h0), (0, .ref b)] := hl
    refine lv_aload_n hx hb d_Law_law_749 rfl (lv_at hl 3 rfl) ?_
    refine lv_aload_n hx hb d_Law_law_750 rfl (lv_at hl 5 rfl) ?_
    refine lv_iload hx hb d_Law_law_751 (lv_at hl 1 rfl) ?_
    refine lv_iconst (v := 1) hx hb d_Law_law_753 (by decide) ?_
    refine lv_iadd hx hb d_Law_law_754 ?_
    refine tw_ri (e2 := 1) (by decide) ?_
    refine va_sld hx hb hXs hbl hbA hS (by unfold vp_in; decide) d_Law_law_755 ?_
    refine lv_aload_n hx hb d_Law_law_756 rfl (lv_at hl 5 rfl) ?_
    refine lv_iload hx hb d_Law_law_757 (lv_at hl 1 rfl) ?_
    refine lv_iconst (v := 2) hx hb d_Law_law_759 (by decide) ?_
    refine lv_iadd hx hb d_Law_law_760 ?_
    refine tw_ri (e2 := 2) (by decide) ?_
    refine va_sld hx hb hXs hbl hbA hS (by unfold vp_in; decide) d_Law_law_761 ?_
    refine lv_aload_n hx hb d_Law_law_762 rfl (lv_at hl 5 rfl) ?_
    refine lv_iload hx hb d_Law_law_763 (lv_at hl 1 rfl) ?_
    refine lv_iconst (v := 3) hx hb d_Law_law_765 (by decide) ?_
    refine lv_iadd hx hb d_Law_law_766 ?_
    refine tw_ri (e2 := 3) (by decide) ?_
    refine va_sld hx hb hXs hbl hbA hS (by unfold vp_in; decide) d_Law_law_767 ?_
    refine lv_if_eq (tgt := 775) hx hb d_Law_law_768 (by decide) (fun h768 => ?_) (fun h768 => ?_)
    · refine lv_iconst (v := 0) hx hb d_Law_law_775 (by decide) ?_
      refine lv_aload_n hx hb d_Law_law_776 rfl (lv_at hl 5 rfl) ?_
      refine lv_iload hx hb d_Law_law_777 (lv_at hl 1 rfl) ?_
      refine lv_iconst (v := 4) hx hb d_Law_law_779 (by decide) ?_
      refine lv_iadd hx hb d_Law_law_780 ?_
      refine tw_ri (e2 := 4) (by decide) ?_
      refine va_sld hx hb hXs hbl hbA hS (by unfold vp_in; decide) d_Law_law_781 ?_
      refine tw_wi (wr := [(h0, .inr (9, [.ref (q 0), .ref (q 1), .ref (q 2), .ref (q 3), .ref (q 4), .ref (q 5), .ref (q 6), .ref (q 7), .int 0])), (o, aJ g 1 (fun _ => 0))]) (tw_runV (ws := [(h1, .inr (10, mo qm mv0)), (h0, .inr (9, [.ref (q 0), .ref (q 1), .ref (q 2), .ref (q 3), .ref (q 4), .ref (q 5), .ref (q 6), .ref (q 7), .int 0])), (o, aJ g 1 (fun _ => 0))]) (wc := [(h1, .inr (10, mo qm mv0))]) (As := [.int (xs (1 : Int32).toNatClampNeg), .int (xs (2 : Int32).toNatClampNeg), .int 0, .int (xs (4 : Int32).toNatClampNeg)]) (rest := []) E hB hK (c_Mod_kind0 l g H.size h1 qm mv0 (xs (1 : Int32).toNatClampNeg) (xs (2 : Int32).toNatClampNeg) 0 (xs (4 : Int32).toNatClampNeg)) mc_Mod_kind mi_Mod_kind me_Mod_kind wd_1748 hP hD [0] rfl (by decide) 0 rfl rfl rfl rfl rfl (by decide) rfl hl.1 rfl (Nat.le_of_ble_eq_true rfl) (by decide) d_Law_law_782) hP hD hS hA [0] [1, 2] rfl rfl (by decide) (by decide) (fun r1 u2 H locs hr1 hP hD hS => ?_)
      try dsimp only at hr1
      have hP : va_P g.1 classes [(h0, .inr (9, [.ref (q 0), .ref (q 1), .ref (q 2), .ref (q 3), .ref (q 4), .ref (q 5), .ref (q 6), .ref (q 7), .int 0])), (o, aJ g 1 (fun _ => 0)), (h1, .inr (10, mo qm (upd (upd mv0 0 1) 52 0)))] H := hP
      have hD : va_D A [(h0, .inr (9, [.ref (q 0), .ref (q 1), .ref (q 2), .ref (q 3), .ref (q 4), .ref (q 5), .ref (q 6), .ref (q 7), .int 0])), (o, aJ g 1 (fun _ => 0)), (h1, .inr (10, mo qm (upd (upd mv0 0 1) 52 0)))] := hD
      have hP : va_P g.1 classes [(h1, .inr (10, mo qm (upd (upd mv0 0 1) 52 0))), (h0, .inr (9, [.ref (q 0), .ref (q 1), .ref (q 2), .ref (q 3), .ref (q 4), .ref (q 5), .ref (q 6), .ref (q 7), .int 0])), (o, aJ g 1 (fun _ => 0))] H := hP.sub [2, 0, 1] rfl
      have hD : va_D A [(h1, .inr (10, mo qm (upd (upd mv0 0 1) 52 0))), (h0, .inr (9, [.ref (q 0), .ref (q 1), .ref (q 2), .ref (q 3), .ref (q 4), .ref (q 5), .ref (q 6), .ref (q 7), .int 0])), (o, aJ g 1 (fun _ => 0))] := hD.sub [2, 0, 1] (by decide) rfl
      refine lv_istore hx hb d_Law_law_785 hl (by decide) rfl (fun ls hl => ?_)
      have hl : lv_has ls 7 [(6, .int r1), (5, .int k), (4, .int 0), (3, .ref o), (2, .ref h1), (1, .ref h0), (0, .ref b)] := hl
      refine lv_aload_n hx hb d_Law_law_787 rfl (lv_at hl 4 rfl) ?_
      refine tw_si (tw_runV (ws := [(h1, .inr (10, mo qm (upd (upd mv0 0 1) 52 0))), (h0, .inr (9, [.ref (q 0), .ref (q 1), .ref (q 2), .ref (q 3), .ref (q 4), .ref (q 5), .ref (q 6), .ref (q 7), .int 0])), (o, aJ g 1 (fun _ => 0))]) (wc := [(h1, .inr (10, mo qm (upd (upd mv0 0 1) 52 0)))]) (As := []) (rest := []) E hB hK (c_Mod_thrown l g H.size h1 qm (upd (upd mv0 0 1) 52 0) 1) mc_Mod_thrown mi_Mod_thrown me_Mod_thrown wd_1435 hP hD [0] rfl (by decide) 0 rfl rfl rfl rfl rfl (by decide) rfl hl.1 rfl (Nat.le_of_ble_eq_true rfl) (by decide) d_Law_law_788) (fun r3 hr3 => ?_)
      obtain rfl : r3 = 1 := hr3
      refine lv_iload hx hb d_Law_law_791 (lv_at hl 1 rfl) ?_
      refine lv_icmp_eq (tgt := 798) hx hb d_Law_law_793 (by decide) (fun h793 => ?_) (fun h793 => ?_)
      · refine lv_iload hx hb d_Law_law_798 (lv_at hl 1 rfl) ?_
        refine lv_if_ne (tgt := 815) hx hb d_Law_law_800 (by decide) (fun h800 => ?_) (fun h800 => ?_)
        · refine lv_goto (tgt := 818) hx hb d_Law_law_815 (by decide) ?_
          exact lp_tail l hfl g hA hA2 E hB hK hX hN hXs hbl (by decide) o h1 h0 _ _ (by decide) (by decide) H locs ls (lv_sub hl [2, 3, 4, 5, 6] rfl) hS
        · exact absurd (hk.symm.trans h800) (by decide)
      · exact absurd hk.symm h793
    · exact absurd h729 h768
  · refine lv_iconst (v := 1) hx hb d_Law_law_732 (by decide) ?_
    refine lv_goto (tgt := 737) hx hb d_Law_law_733 (by decide) ?_
    refine lv_aload_n hx hb d_Law_law_737 rfl (lv_at hl 4 rfl) ?_
    refine lv_iload hx hb d_Law_law_738 (lv_at hl 0 rfl) ?_
    refine lv_iconst (v := 4) hx hb d_Law_law_740 (by decide) ?_
    refine lv_iadd hx hb d_Law_law_741 ?_
    refine tw_ri (e2 := 4) (by decide) ?_
    refine va_sld hx hb hXs hbl hbA hS (by unfold vp_in; decide) d_Law_law_742 ?_
    refine lv_aload_n hx hb d_Law_law_743 rfl (lv_at hl 1 rfl) ?_
    refine tw_wi (wr := [(h1, .inr (10, mo qm mv0))]) (tw_runL (ws := [(h0, .inr (9, [.ref (q 0), .ref (q 1), .ref (q 2), .ref (q 3), .ref (q 4), .ref (q 5), .ref (q 6), .ref (q 7), .int 0])), (o, aJ g 1 (fun _ => 0)), (h1, .inr (10, mo qm mv0))]) (wc := [(h0, .inr (9, [.ref (q 0), .ref (q 1), .ref (q 2), .ref (q 3), .ref (q 4), .ref (q 5), .ref (q 6), .ref (q 7), .int 0])), (o, aJ g 1 (fun _ => 0))]) (As := [.ref h0, .int (xs (1 : Int32).toNatClampNeg), .int (xs (2 : Int32).toNatClampNeg), .int 1, .int (xs (4 : Int32).toNatClampNeg), .ref o]) (rest := []) E hB hK (c_Law_kind0 l hfl g H.size h0 o q (xs (1 : Int32).toNatClampNeg) (xs (2 : Int32).toNatClampNeg) 1 (xs (4 : Int32).toNatClampNeg) 0) wd_1233 ⟨by decide, by decide⟩ wd_1232 wd_0 wd_1231 hP hD hS hA hX hN [0, 1] rfl (by decide) rfl rfl (by decide) ln_kind hl.1 rfl (Nat.le_of_ble_eq_true rfl) (by decide) d_Law_law_744) hP hD hS hA [0, 1] [2] rfl rfl (by decide) (by decide) (fun k u H locs hk hP hD hS => ?_)
    try dsimp only at hk
    have hP : va_P g.1 classes [(h1, .inr (10, mo qm mv0)), (h0, .inr (9, [.ref (q 0), .ref (q 1), .ref (q 2), .ref (q 3), .ref (q 4), .ref (q 5), .ref (q 6), .ref (q 7), .int 0])), (o, aJ g 1 (fun _ => 0))] H := hP
    have hD : va_D A [(h1, .inr (10, mo qm mv0)), (h0, .inr (9, [.ref (q 0), .ref (q 1), .ref (q 2), .ref (q 3), .ref (q 4), .ref (q 5), .ref (q 6), .ref (q 7), .int 0])), (o, aJ g 1 (fun _ => 0))] := hD
    refine W.widen (k := 87) (n := 183559) (by decide) (by decide) ?_
    refine lv_istore hx hb d_Law_law_747 hl (by decide) rfl (fun ls hl => ?_)
    have hl : lv_has ls 7 [(5, .int k), (4, .int 0), (3, .ref o), (2, .ref h1), (1, .ref h0), (0, .ref b)] := hl
    refine lv_aload_n hx hb d_Law_law_749 rfl (lv_at hl 3 rfl) ?_
    refine lv_aload_n hx hb d_Law_law_750 rfl (lv_at hl 5 rfl) ?_
    refine lv_iload hx hb d_Law_law_751 (lv_at hl 1 rfl) ?_
    refine lv_iconst (v := 1) hx hb d_Law_law_753 (by decide) ?_
    refine lv_iadd hx hb d_Law_law_754 ?_
    refine tw_ri (e2 := 1) (by decide) ?_
    refine va_sld hx hb hXs hbl hbA hS (by unfold vp_in; decide) d_Law_law_755 ?_
    refine lv_aload_n hx hb d_Law_law_756 rfl (lv_at hl 5 rfl) ?_
    refine lv_iload hx hb d_Law_law_757 (lv_at hl 1 rfl) ?_
    refine lv_iconst (v := 2) hx hb d_Law_law_759 (by decide) ?_
    refine lv_iadd hx hb d_Law_law_760 ?_
    refine tw_ri (e2 := 2) (by decide) ?_
    refine va_sld hx hb hXs hbl hbA hS (by unfold vp_in; decide) d_Law_law_761 ?_
    refine lv_aload_n hx hb d_Law_law_762 rfl (lv_at hl 5 rfl) ?_
    refine lv_iload hx hb d_Law_law_763 (lv_at hl 1 rfl) ?_
    refine lv_iconst (v := 3) hx hb d_Law_law_765 (by decide) ?_
    refine lv_iadd hx hb d_Law_law_766 ?_
    refine tw_ri (e2 := 3) (by decide) ?_
    refine va_sld hx hb hXs hbl hbA hS (by unfold vp_in; decide) d_Law_law_767 ?_
    refine lv_if_eq (tgt := 775) hx hb d_Law_law_768 (by decide) (fun h768 => ?_) (fun h768 => ?_)
    · exact absurd h768 h729
    · refine lv_iconst (v := 1) hx hb d_Law_law_771 (by decide) ?_
      refine lv_goto (tgt := 776) hx hb d_Law_law_772 (by decide) ?_
      refine lv_aload_n hx hb d_Law_law_776 rfl (lv_at hl 5 rfl) ?_
      refine lv_iload hx hb d_Law_law_777 (lv_at hl 1 rfl) ?_
      refine lv_iconst (v := 4) hx hb d_Law_law_779 (by decide) ?_
      refine lv_iadd hx hb d_Law_law_780 ?_
      refine tw_ri (e2 := 4) (by decide) ?_
      refine va_sld hx hb hXs hbl hbA hS (by unfold vp_in; decide) d_Law_law_781 ?_
      refine tw_wi (wr := [(h0, .inr (9, [.ref (q 0), .ref (q 1), .ref (q 2), .ref (q 3), .ref (q 4), .ref (q 5), .ref (q 6), .ref (q 7), .int 0])), (o, aJ g 1 (fun _ => 0))]) (tw_runV (ws := [(h1, .inr (10, mo qm mv0)), (h0, .inr (9, [.ref (q 0), .ref (q 1), .ref (q 2), .ref (q 3), .ref (q 4), .ref (q 5), .ref (q 6), .ref (q 7), .int 0])), (o, aJ g 1 (fun _ => 0))]) (wc := [(h1, .inr (10, mo qm mv0))]) (As := [.int (xs (1 : Int32).toNatClampNeg), .int (xs (2 : Int32).toNatClampNeg), .int 1, .int (xs (4 : Int32).toNatClampNeg)]) (rest := []) E hB hK (c_Mod_kind0 l g H.size h1 qm mv0 (xs (1 : Int32).toNatClampNeg) (xs (2 : Int32).toNatClampNeg) 1 (xs (4 : Int32).toNatClampNeg)) mc_Mod_kind mi_Mod_kind me_Mod_kind wd_1748 hP hD [0] rfl (by decide) 0 rfl rfl rfl rfl rfl (by decide) rfl hl.1 rfl (Nat.le_of_ble_eq_true rfl) (by decide) d_Law_law_782) hP hD hS hA [0] [1, 2] rfl rfl (by decide) (by decide) (fun r4 u5 H locs hr4 hP hD hS => ?_)
      try dsimp only at hr4
      have hP : va_P g.1 classes [(h0, .inr (9, [.ref (q 0), .ref (q 1), .ref (q 2), .ref (q 3), .ref (q 4), .ref (q 5), .ref (q 6), .ref (q 7), .int 0])), (o, aJ g 1 (fun _ => 0)), (h1, .inr (10, mo qm (upd (upd mv0 0 1) 52 0)))] H := hP
      have hD : va_D A [(h0, .inr (9, [.ref (q 0), .ref (q 1), .ref (q 2), .ref (q 3), .ref (q 4), .ref (q 5), .ref (q 6), .ref (q 7), .int 0])), (o, aJ g 1 (fun _ => 0)), (h1, .inr (10, mo qm (upd (upd mv0 0 1) 52 0)))] := hD
      have hP : va_P g.1 classes [(h1, .inr (10, mo qm (upd (upd mv0 0 1) 52 0))), (h0, .inr (9, [.ref (q 0), .ref (q 1), .ref (q 2), .ref (q 3), .ref (q 4), .ref (q 5), .ref (q 6), .ref (q 7), .int 0])), (o, aJ g 1 (fun _ => 0))] H := hP.sub [2, 0, 1] rfl
      have hD : va_D A [(h1, .inr (10, mo qm (upd (upd mv0 0 1) 52 0))), (h0, .inr (9, [.ref (q 0), .ref (q 1), .ref (q 2), .ref (q 3), .ref (q 4), .ref (q 5), .ref (q 6), .ref (q 7), .int 0])), (o, aJ g 1 (fun _ => 0))] := hD.sub [2, 0, 1] (by decide) rfl
      refine lv_istore hx hb d_Law_law_785 hl (by decide) rfl (fun ls hl => ?_)
      have hl : lv_has ls 7 [(6, .int r4), (5, .int k), (4, .int 0), (3, .ref o), (2, .ref h1), (1, .ref h0), (0, .ref b)] := hl
      refine lv_aload_n hx hb d_Law_law_787 rfl (lv_at hl 4 rfl) ?_
      refine tw_si (tw_runV (ws := [(h1, .inr (10, mo qm (upd (upd mv0 0 1) 52 0))), (h0, .inr (9, [.ref (q 0), .ref (q 1), .ref (q 2), .ref (q 3), .ref (q 4), .ref (q 5), .ref (q 6), .ref (q 7), .int 0])), (o, aJ g 1 (fun _ => 0))]) (wc := [(h1, .inr (10, mo qm (upd (upd mv0 0 1) 52 0)))]) (As := []) (rest := []) E hB hK (c_Mod_thrown l g H.size h1 qm (upd (upd mv0 0 1) 52 0) 1) mc_Mod_thrown mi_Mod_thrown me_Mod_thrown wd_1435 hP hD [0] rfl (by decide) 0 rfl rfl rfl rfl rfl (by decide) rfl hl.1 rfl (Nat.le_of_ble_eq_true rfl) (by decide) d_Law_law_788) (fun r6 hr6 => ?_)
      obtain rfl : r6 = 1 := hr6
      refine lv_iload hx hb d_Law_law_791 (lv_at hl 1 rfl) ?_
      refine lv_icmp_eq (tgt := 798) hx hb d_Law_law_793 (by decide) (fun h793 => ?_) (fun h793 => ?_)
      · refine lv_iload hx hb d_Law_law_798 (lv_at hl 1 rfl) ?_
        refine lv_if_ne (tgt := 815) hx hb d_Law_law_800 (by decide) (fun h800 => ?_) (fun h800 => ?_)
        · refine lv_goto (tgt := 818) hx hb d_Law_law_815 (by decide) ?_
          exact lp_tail l hfl g hA hA2 E hB hK hX hN hXs hbl (by decide) o h1 h0 _ _ (by decide) (by decide) H locs ls (lv_sub hl [2, 3, 4, 5, 6] rfl) hS
        · exact absurd (hk.symm.trans h800) (by decide)
      · exact absurd hk.symm h793
