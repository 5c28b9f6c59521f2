set_option maxHeartbeats 4000000 in
set_option maxRecDepth 100000 in
theorem s_Frames_meetWord (l : Launch) (g : tw_G) (sz : Nat) (f0 ra : Nat) (w : Nat → Nat) (rf : Nat → Int64) (lo : Nat) (bg wt dp : Nat → Int32) (rw : Nat → Int64) (bs wn : Nat) (hF : FI lo rw wt dp) (hb8 : bs % 8 = 0) (hbs : bs + 8 ≤ 4800) (hw4 : 4 ≤ wn) (hw7 : wn < 8) : Met l y_Frames_meetWord [.code y_Frames_meetWord b_Frames_meetWord 7 (some .boolean)] ({ frames := 1, cells := 0, slots := 0, locals := 25 }) (tw_P g [.ref f0, .int (nI bs), .ref ra, .int (nI wn)] [(f0, .inr (1, [.ref (w 3), .ref (w 4), .ref (w 5), .ref (w 6), .int (nI lo)])), ((w 3), aJ g 4800 rw), ((w 4), aB g 600 bg), ((w 5), aB g 600 wt), ((w 6), aB g 600 dp), (ra, aJ g 8 rf)] sz) (tw_Qi g (fun r (u : (Nat → Int64)) => (r = 0 ∨ r = 1) ∧ FI lo u wt dp) (fun u : (Nat → Int64) => [(f0, .inr (1, [.ref (w 3), .ref (w 4), .ref (w 5), .ref (w 6), .int (nI lo)])), ((w 3), aJ g 4800 u), ((w 4), aB g 600 bg), ((w 5), aB g 600 wt), ((w 6), aB g 600 dp), (ra, aJ g 8 rf)]) (va_A [(f0, .inr (1, [.ref (w 3), .ref (w 4), .ref (w 5), .ref (w 6), .int (nI lo)])), ((w 3), aJ g 4800 rw), ((w 4), aB g 600 bg), ((w 5), aB g 600 wt), ((w 6), aB g 600 dp), (ra, aJ g 8 rf)] sz)) 0 0 (va_A [(f0, .inr (1, [.ref (w 3), .ref (w 4), .ref (w 5), .ref (w 6), .int (nI lo)])), ((w 3), aJ g 4800 rw), ((w 4), aB g 600 bg), ((w 5), aB g 600 wt), ((w 6), aB g 600 dp), (ra, aJ g 8 rf)] sz) := by
  refine tw_metW (l := l) (g := g) (y := y_Frames_meetWord) (cc := b_Frames_meetWord) (maxL := 7) (ret := (some .boolean)) (rm := { frames := 1, cells := 0, slots := 0, locals := 25 }) (mc := 0) (ms := 0) (av := [.ref f0, .int (nI bs), .ref ra, .int (nI wn)]) (ws := [(f0, .inr (1, [.ref (w 3), .ref (w 4), .ref (w 5), .ref (w 6), .int (nI lo)])), ((w 3), aJ g 4800 rw), ((w 4), aB g 600 bg), ((w 5), aB g 600 wt), ((w 6), aB g 600 dp), (ra, aJ g 8 rf)]) (sz := sz) (Qc := fun A => (tw_Qi g (fun r (u : (Nat → Int64)) => (r = 0 ∨ r = 1) ∧ FI lo u wt dp) (fun u : (Nat → Int64) => [(f0, .inr (1, [.ref (w 3), .ref (w 4), .ref (w 5), .ref (w 6), .int (nI lo)])), ((w 3), aJ g 4800 u), ((w 4), aB g 600 bg), ((w 5), aB g 600 wt), ((w 6), aB g 600 dp), (ra, aJ g 8 rf)]) A)) (by decide) (Nat.le_of_ble_eq_true rfl) ?_
  intro p e s m below meth c ls H A E hB hK hZ hP hD hS hA hl
  obtain ⟨hx, hb, hml, hr, hown, hts, hlocks, hin⟩ := id E
  have hl : lv_has ls 7 [(0, .ref f0), (1, .int (nI bs)), (2, .ref ra), (3, .int (nI wn))] := hl
  refine lv_iconst (v := 0) hx hb d_Frames_meetWord_0 (by decide) ?_
  refine lv_istore hx hb d_Frames_meetWord_1 hl (by decide) rfl (fun ls hl => ?_)
  have hl : lv_has ls 7 [(4, .int 0), (0, .ref f0), (1, .int (nI bs)), (2, .ref ra), (3, .int (nI wn))] := hl
  refine lv_bipush (v := 16) hx hb d_Frames_meetWord_3 (by decide) ?_
  refine lv_iload_n hx hb d_Frames_meetWord_5 rfl (lv_at hl 4 rfl) ?_
  refine lv_imul hx hb d_Frames_meetWord_6 ?_
  refine tw_ri (e2 := nI (16 * wn)) (pk_mul 16 wn) ?_
  refine lv_istore hx hb d_Frames_meetWord_7 hl (by decide) rfl (fun ls hl => ?_)
  have hl : lv_has ls 7 [(5, .int (nI (16 * wn))), (4, .int 0), (0, .ref f0), (1, .int (nI bs)), (2, .ref ra), (3, .int (nI wn))] := hl
  have loop9 : ∀ (kq : Nat) (sn : Nat) (c9 : Int32) (rw9 : Nat → Int64) (ls : Array Slot) (H : Heap) (locs : List Loc) , 16 * wn + 16 - sn = kq → (hc9 : c9 = 0 ∨ c9 = 1) → (hF9 : FI lo rw9 wt dp) → (hs1 : 16 * wn ≤ sn) → (hs2 : sn ≤ 16 * wn + 16) → lv_has ls 7 [(5, .int (nI sn)), (4, .int c9), (0, .ref f0), (1, .int (nI bs)), (2, .ref ra), (3, .int (nI wn))] → va_P g.1 classes [(f0, .inr (1, [.ref (w 3), .ref (w 4), .ref (w 5), .ref (w 6), .int (nI lo)])), ((w 3), aJ g 4800 rw9), ((w 4), aB g 600 bg), ((w 5), aB g 600 wt), ((w 6), aB g 600 dp), (ra, aJ g 8 rf)] H → va_D A [(f0, .inr (1, [.ref (w 3), .ref (w 4), .ref (w 5), .ref (w 6), .int (nI lo)])), ((w 3), aJ g 4800 rw9), ((w 4), aB g 600 bg), ((w 5), aB g 600 wt), ((w 6), aB g 600 dp), (ra, aJ g 8 rf)] → va_S A s.heap H locs → W p l e ({ frames := 1, cells := 0, slots := 0, locals := 25 }) s m [.ref f0, .int (nI bs), .ref ra, .int (nI wn)].toArray below meth c H locs 0 0 (MQ below (tw_Qi g (fun r (u : (Nat → Int64)) => (r = 0 ∨ r = 1) ∧ FI lo u wt dp) (fun u : (Nat → Int64) => [(f0, .inr (1, [.ref (w 3), .ref (w 4), .ref (w 5), .ref (w 6), .int (nI lo)])), ((w 3), aJ g 4800 u), ((w 4), aB g 600 bg), ((w 5), aB g 600 wt), ((w 6), aB g 600 dp), (ra, aJ g 8 rf)]) A) [.ref f0, .int (nI bs), .ref ra, .int (nI wn)].toArray s 0 0 A) (F0 m 9 ls []) := by
    intro kq
    induction kq using Nat.strongRecOn with
    | _ kq ih =>
      intro sn c9 rw9 ls H locs hk hc9 hF9 hs1 hs2 hl hP hD hS
      refine lv_iload hx hb d_Frames_meetWord_9 (lv_at hl 0 rfl) ?_
      refine lv_bipush (v := 16) hx hb d_Frames_meetWord_11 (by decide) ?_
      refine lv_iload_n hx hb d_Frames_meetWord_13 rfl (lv_at hl 5 rfl) ?_
      refine lv_imul hx hb d_Frames_meetWord_14 ?_
      refine tw_ri (e2 := nI (16 * wn)) (pk_mul 16 wn) ?_
      refine lv_bipush (v := 16) hx hb d_Frames_meetWord_15 (by decide) ?_
      refine lv_iadd hx hb d_Frames_meetWord_17 ?_
      refine tw_ri (e2 := nI (16 * wn + 16)) (nI_add _ 16) ?_
      refine lv_icmp_ge (tgt := 70) hx hb d_Frames_meetWord_18 (by decide) (fun h18 => ?_) (fun h18 => ?_)
      · refine lv_iload hx hb d_Frames_meetWord_70 (lv_at hl 1 rfl) ?_
        exact tw_zret E hS rw9 (tn_z hc9) ⟨hc9, hF9⟩ hP hD d_Frames_meetWord_72
      · have h18 := tn_nle h18 (by omega) (by omega)
        refine lv_aload_n hx hb d_Frames_meetWord_21 rfl (lv_at hl 2 rfl) ?_
        refine va_get (D := g.1) (ci := 1) (v := .ref (w 3)) (C := R_Frames) (T := F_Frames) (N := 5) hx hb hts in_Frames hown hK hP 0 rfl rfl 0 (by decide) (hts _ wd_225) (fun _ h9 => h9) rfl d_Frames_meetWord_22 ?_
        refine lv_iload_n hx hb d_Frames_meetWord_25 rfl (lv_at hl 3 rfl) ?_
        refine lv_iload hx hb d_Frames_meetWord_26 (lv_at hl 0 rfl) ?_
        refine tw_si (tw_runS (ws := [(f0, .inr (1, [.ref (w 3), .ref (w 4), .ref (w 5), .ref (w 6), .int (nI lo)])), ((w 3), aJ g 4800 rw9), ((w 4), aB g 600 bg), ((w 5), aB g 600 wt), ((w 6), aB g 600 dp), (ra, aJ g 8 rf)]) (wc := [((w 3), aJ g 4800 rw9)]) (As := [.ref (w 3), .int (nI bs), .int (nI sn)]) (rest := []) E hB hK hZ (s_Frames_kindIn l g H.size (w 3) 4800 rw9 bs sn (by omega) (by omega) (by decide)) mc_Frames_kindIn ms_Frames_kindIn wd_813 hP hD hS hA [1] rfl (by decide) rfl rfl (by decide) rfl hl.1 rfl (Nat.le_of_ble_eq_true rfl) (by decide) d_Frames_meetWord_28) (fun r1 hr1 => ?_)
        refine lv_istore hx hb d_Frames_meetWord_31 hl (by decide) rfl (fun ls hl => ?_)
        have hl : lv_has ls 7 [(6, .int r1), (5, .int (nI sn)), (4, .int c9), (0, .ref f0), (1, .int (nI bs)), (2, .ref ra), (3, .int (nI wn))] := hl
        refine lv_iload hx hb d_Frames_meetWord_33 (lv_at hl 0 rfl) ?_
        refine lv_if_eq (tgt := 64) hx hb d_Frames_meetWord_35 (by decide) (fun h35 => ?_) (fun h35 => ?_)
        · refine lv_iinc (k := 1) (v := nI (sn + 1)) hx hb d_Frames_meetWord_64 hl rfl ((nI_succ sn).symm) (by decide) rfl (fun ls hl => ?_)
          have hl : lv_has ls 7 [(5, .int (nI (sn + 1))), (6, .int r1), (4, .int c9), (0, .ref f0), (1, .int (nI bs)), (2, .ref ra), (3, .int (nI wn))] := hl
          refine lv_goto (tgt := 9) hx hb d_Frames_meetWord_67 (by decide) ?_
          have hP : va_P g.1 classes [(f0, .inr (1, [.ref (w 3), .ref (w 4), .ref (w 5), .ref (w 6), .int (nI lo)])), ((w 3), aJ g 4800 rw9), ((w 4), aB g 600 bg), ((w 5), aB g 600 wt), ((w 6), aB g 600 dp), (ra, aJ g 8 rf)] H := hP.sub [0, 1, 2, 3, 4, 5] rfl
          have hD : va_D A [(f0, .inr (1, [.ref (w 3), .ref (w 4), .ref (w 5), .ref (w 6), .int (nI lo)])), ((w 3), aJ g 4800 rw9), ((w 4), aB g 600 bg), ((w 5), aB g 600 wt), ((w 6), aB g 600 dp), (ra, aJ g 8 rf)] := hD.sub [0, 1, 2, 3, 4, 5] (by decide) rfl
          exact ih _ (by omega) (sn + 1) c9 rw9 ls _ _ rfl hc9 hF9 (by omega) (by omega) (lv_sub hl [0, 2, 3, 4, 5, 6] rfl) hP hD hS
        · refine lv_iload hx hb d_Frames_meetWord_38 (lv_at hl 0 rfl) ?_
          refine lv_aload_n hx hb d_Frames_meetWord_40 rfl (lv_at hl 5 rfl) ?_
          refine lv_iconst (v := 0) hx hb d_Frames_meetWord_41 (by decide) ?_
          refine lv_iload hx hb d_Frames_meetWord_42 (lv_at hl 1 rfl) ?_
          refine tw_si (tw_runS (ws := [(f0, .inr (1, [.ref (w 3), .ref (w 4), .ref (w 5), .ref (w 6), .int (nI lo)])), ((w 3), aJ g 4800 rw9), ((w 4), aB g 600 bg), ((w 5), aB g 600 wt), ((w 6), aB g 600 dp), (ra, aJ g 8 rf)]) (wc := [(ra, aJ g 8 rf)]) (As := [.ref ra, .int 0, .int (nI sn)]) (rest := [.int r1]) E hB hK hZ (s_Frames_kindIn l g H.size ra 8 rf 0 sn (by omega) (by omega) (by decide)) mc_Frames_kindIn ms_Frames_kindIn wd_813 hP hD hS hA [5] rfl (by decide) rfl rfl (by decide) rfl hl.1 rfl (Nat.le_of_ble_eq_true rfl) (by decide) d_Frames_meetWord_44) (fun r2 hr2 => ?_)
          refine lv_icmp_eq (tgt := 64) hx hb d_Frames_meetWord_47 (by decide) (fun h47 => ?_) (fun h47 => ?_)
          · refine lv_iinc (k := 1) (v := nI (sn + 1)) hx hb d_Frames_meetWord_64 hl rfl ((nI_succ sn).symm) (by decide) rfl (fun ls hl => ?_)
            have hl : lv_has ls 7 [(5, .int (nI (sn + 1))), (6, .int r1), (4, .int c9), (0, .ref f0), (1, .int (nI bs)), (2, .ref ra), (3, .int (nI wn))] := hl
            refine lv_goto (tgt := 9) hx hb d_Frames_meetWord_67 (by decide) ?_
            have hP : va_P g.1 classes [(f0, .inr (1, [.ref (w 3), .ref (w 4), .ref (w 5), .ref (w 6), .int (nI lo)])), ((w 3), aJ g 4800 rw9), ((w 4), aB g 600 bg), ((w 5), aB g 600 wt), ((w 6), aB g 600 dp), (ra, aJ g 8 rf)] H := hP.sub [0, 1, 2, 3, 4, 5] rfl
            have hD : va_D A [(f0, .inr (1, [.ref (w 3), .ref (w 4), .ref (w 5), .ref (w 6), .int (nI lo)])), ((w 3), aJ g 4800 rw9), ((w 4), aB g 600 bg), ((w 5), aB g 600 wt), ((w 6), aB g 600 dp), (ra, aJ g 8 rf)] := hD.sub [0, 1, 2, 3, 4, 5] (by decide) rfl
            exact ih _ (by omega) (sn + 1) c9 rw9 ls _ _ rfl hc9 hF9 (by omega) (by omega) (lv_sub hl [0, 2, 3, 4, 5, 6] rfl) hP hD hS
          · refine lv_aload_n hx hb d_Frames_meetWord_50 rfl (lv_at hl 3 rfl) ?_
            refine va_get (D := g.1) (ci := 1) (v := .ref (w 3)) (C := R_Frames) (T := F_Frames) (N := 5) hx hb hts in_Frames hown hK hP 0 rfl rfl 0 (by decide) (hts _ wd_225) (fun _ h9 => h9) rfl d_Frames_meetWord_51 ?_
            refine lv_iload_n hx hb d_Frames_meetWord_54 rfl (lv_at hl 4 rfl) ?_
            refine lv_iload hx hb d_Frames_meetWord_55 (lv_at hl 1 rfl) ?_
            refine lv_iconst (v := 0) hx hb d_Frames_meetWord_57 (by decide) ?_
            refine tw_wv (wr := [(f0, .inr (1, [.ref (w 3), .ref (w 4), .ref (w 5), .ref (w 6), .int (nI lo)])), ((w 4), aB g 600 bg), ((w 5), aB g 600 wt), ((w 6), aB g 600 dp), (ra, aJ g 8 rf)]) (tw_runS (ws := [(f0, .inr (1, [.ref (w 3), .ref (w 4), .ref (w 5), .ref (w 6), .int (nI lo)])), ((w 3), aJ g 4800 rw9), ((w 4), aB g 600 bg), ((w 5), aB g 600 wt), ((w 6), aB g 600 dp), (ra, aJ g 8 rf)]) (wc := [((w 3), aJ g 4800 rw9)]) (As := [.ref (w 3), .int (nI bs), .int (nI sn), .int 0]) (rest := []) E hB hK hZ (s_Frames_setKindIn l g H.size (w 3) 4800 rw9 bs sn 0 (by omega) (by omega) (by decide) (by decide)) mc_Frames_setKindIn ms_Frames_setKindIn wd_794 hP hD hS hA [1] rfl (by decide) rfl rfl (by decide) rfl hl.1 rfl (Nat.le_of_ble_eq_true rfl) (by decide) d_Frames_meetWord_58) hP hD hS hA [1] [0, 2, 3, 4, 5] rfl rfl (by decide) (by decide) (fun u4 H locs hr3 hP hD hS => ?_)
            try dsimp only at hr3
            have hP : va_P g.1 classes [(f0, .inr (1, [.ref (w 3), .ref (w 4), .ref (w 5), .ref (w 6), .int (nI lo)])), ((w 4), aB g 600 bg), ((w 5), aB g 600 wt), ((w 6), aB g 600 dp), (ra, aJ g 8 rf), ((w 3), aJ g 4800 u4)] H := hP
            have hD : va_D A [(f0, .inr (1, [.ref (w 3), .ref (w 4), .ref (w 5), .ref (w 6), .int (nI lo)])), ((w 4), aB g 600 bg), ((w 5), aB g 600 wt), ((w 6), aB g 600 dp), (ra, aJ g 8 rf), ((w 3), aJ g 4800 u4)] := hD
            have hP : va_P g.1 classes [(f0, .inr (1, [.ref (w 3), .ref (w 4), .ref (w 5), .ref (w 6), .int (nI lo)])), ((w 3), aJ g 4800 u4), ((w 4), aB g 600 bg), ((w 5), aB g 600 wt), ((w 6), aB g 600 dp), (ra, aJ g 8 rf)] H := hP.sub [0, 5, 1, 2, 3, 4] rfl
            have hD : va_D A [(f0, .inr (1, [.ref (w 3), .ref (w 4), .ref (w 5), .ref (w 6), .int (nI lo)])), ((w 3), aJ g 4800 u4), ((w 4), aB g 600 bg), ((w 5), aB g 600 wt), ((w 6), aB g 600 dp), (ra, aJ g 8 rf)] := hD.sub [0, 5, 1, 2, 3, 4] (by decide) rfl
            have hFk : FI lo u4 wt dp := hF9.set hb8 (by omega) (by omega) hr3
            refine lv_iconst (v := 1) hx hb d_Frames_meetWord_61 (by decide) ?_
            refine lv_istore hx hb d_Frames_meetWord_62 hl (by decide) rfl (fun ls hl => ?_)
            have hl : lv_has ls 7 [(4, .int 1), (6, .int r1), (5, .int (nI sn)), (0, .ref f0), (1, .int (nI bs)), (2, .ref ra), (3, .int (nI wn))] := hl
            refine lv_iinc (k := 2) (v := nI (sn + 1)) hx hb d_Frames_meetWord_64 hl rfl ((nI_succ sn).symm) (by decide) rfl (fun ls hl => ?_)
            have hl : lv_has ls 7 [(5, .int (nI (sn + 1))), (4, .int 1), (6, .int r1), (0, .ref f0), (1, .int (nI bs)), (2, .ref ra), (3, .int (nI wn))] := hl
            refine lv_goto (tgt := 9) hx hb d_Frames_meetWord_67 (by decide) ?_
            have hP : va_P g.1 classes [(f0, .inr (1, [.ref (w 3), .ref (w 4), .ref (w 5), .ref (w 6), .int (nI lo)])), ((w 3), aJ g 4800 u4), ((w 4), aB g 600 bg), ((w 5), aB g 600 wt), ((w 6), aB g 600 dp), (ra, aJ g 8 rf)] H := hP.sub [0, 1, 2, 3, 4, 5] rfl
            have hD : va_D A [(f0, .inr (1, [.ref (w 3), .ref (w 4), .ref (w 5), .ref (w 6), .int (nI lo)])), ((w 3), aJ g 4800 u4), ((w 4), aB g 600 bg), ((w 5), aB g 600 wt), ((w 6), aB g 600 dp), (ra, aJ g 8 rf)] := hD.sub [0, 1, 2, 3, 4, 5] (by decide) rfl
            exact ih _ (by omega) (sn + 1) 1 u4 ls _ _ rfl (Or.inr rfl) hFk (by omega) (by omega) (lv_sub hl [0, 1, 3, 4, 5, 6] rfl) hP hD hS
  exact loop9 _ (16 * wn) 0 rw ls _ _ rfl (Or.inl rfl) hF (Nat.le_refl _) (by omega) (hl) hP hD hS
