set_option maxHeartbeats 4000000 in
set_option maxRecDepth 100000 in
theorem s_Frames_goOn (l : Launch) (g : tw_G) (sz : Nat) (f0 ra : Nat) (w : Nat → Nat) (rf : Nat → Int64) (lo : Nat) (rw : Nat → Int64) (bg : Nat → Int32) (wt : Nat → Int32) (dp : Nat → Int32) (tq : Int32) (dd : Nat) (hF : FI lo rw wt dp) (hdd : dd ≤ 64) (hr0 : ¬ rf 0 &&& 15 = 3) : Met l y_Frames_goOn [.code y_Frames_goOn b_Frames_goOn 6 (some .int)] ({ frames := 2, cells := 0, slots := 0, locals := 60 }) (tw_P g [.ref f0, .int tq, .ref ra, .int (nI dd)] [(f0, .inr (1, [.ref (w 3), .ref (w 4), .ref (w 5), .ref (w 6), .int (nI lo)])), ((w 3), aJ g 4800 rw), ((w 4), aB g 600 bg), ((w 5), aB g 600 wt), ((w 6), aB g 600 dp), (ra, aJ g 8 rf)] sz) (tw_Qi g (fun r (u : Nat × (Nat → Int64) × (Nat → Int32) × (Nat → Int32) × (Nat → Int32)) => True ∧ FI u.1 u.2.1 u.2.2.2.1 u.2.2.2.2) (fun u : Nat × (Nat → Int64) × (Nat → Int32) × (Nat → Int32) × (Nat → Int32) => [(f0, .inr (1, [.ref (w 3), .ref (w 4), .ref (w 5), .ref (w 6), .int (nI u.1)])), ((w 3), aJ g 4800 u.2.1), ((w 4), aB g 600 u.2.2.1), ((w 5), aB g 600 u.2.2.2.1), ((w 6), aB g 600 u.2.2.2.2), (ra, aJ g 8 rf)]) (va_A [(f0, .inr (1, [.ref (w 3), .ref (w 4), .ref (w 5), .ref (w 6), .int (nI lo)])), ((w 3), aJ g 4800 rw), ((w 4), aB g 600 bg), ((w 5), aB g 600 wt), ((w 6), aB g 600 dp), (ra, aJ g 8 rf)] sz)) 0 0 (va_A [(f0, .inr (1, [.ref (w 3), .ref (w 4), .ref (w 5), .ref (w 6), .int (nI lo)])), ((w 3), aJ g 4800 rw), ((w 4), aB g 600 bg), ((w 5), aB g 600 wt), ((w 6), aB g 600 dp), (ra, aJ g 8 rf)] sz) := by
  refine tw_metW (l := l) (g := g) (y := y_Frames_goOn) (cc := b_Frames_goOn) (maxL := 6) (ret := (some .int)) (rm := { frames := 2, cells := 0, slots := 0, locals := 60 }) (mc := 0) (ms := 0) (av := [.ref f0, .int tq, .ref ra, .int (nI dd)]) (ws := [(f0, .inr (1, [.ref (w 3), .ref (w 4), .ref (w 5), .ref (w 6), .int (nI lo)])), ((w 3), aJ g 4800 rw), ((w 4), aB g 600 bg), ((w 5), aB g 600 wt), ((w 6), aB g 600 dp), (ra, aJ g 8 rf)]) (sz := sz) (Qc := fun A => (tw_Qi g (fun r (u : Nat × (Nat → Int64) × (Nat → Int32) × (Nat → Int32) × (Nat → Int32)) => True ∧ FI u.1 u.2.1 u.2.2.2.1 u.2.2.2.2) (fun u : Nat × (Nat → Int64) × (Nat → Int32) × (Nat → Int32) × (Nat → Int32) => [(f0, .inr (1, [.ref (w 3), .ref (w 4), .ref (w 5), .ref (w 6), .int (nI u.1)])), ((w 3), aJ g 4800 u.2.1), ((w 4), aB g 600 u.2.2.1), ((w 5), aB g 600 u.2.2.2.1), ((w 6), aB g 600 u.2.2.2.2), (ra, aJ g 8 rf)]) A)) (by decide) (Nat.le_of_ble_eq_true rfl) ?_
  intro p e s m below meth c ls H A E hB hK hZ hP hD hS hA hl
  obtain ⟨hx, hb, hml, hr, hown, hts, hlocks, hin⟩ := id E
  have hl : lv_has ls 6 [(0, .ref f0), (1, .int tq), (2, .ref ra), (3, .int (nI dd))] := hl
  refine lv_iload_n hx hb d_Frames_goOn_0 rfl (lv_at hl 1 rfl) ?_
  refine tw_si (tw_runS (ws := [(f0, .inr (1, [.ref (w 3), .ref (w 4), .ref (w 5), .ref (w 6), .int (nI lo)])), ((w 3), aJ g 4800 rw), ((w 4), aB g 600 bg), ((w 5), aB g 600 wt), ((w 6), aB g 600 dp), (ra, aJ g 8 rf)]) (wc := []) (As := [.int tq]) (rest := []) E hB hK hZ (s_Frames_isThere l g H.size tq) mc_Frames_isThere ms_Frames_isThere wd_733 hP hD hS hA [] rfl (by decide) rfl rfl (by decide) rfl hl.1 rfl (Nat.le_of_ble_eq_true rfl) (by decide) d_Frames_goOn_1) (fun r1 hr1 => ?_)
  refine lv_if_ne (tgt := 9) hx hb d_Frames_goOn_4 (by decide) (fun h4 => ?_) (fun h4 => ?_)
  · obtain ⟨p1, hp1, rfl⟩ := sf_ix (hr1.resolve_left h4).2
    refine lv_iload_n hx hb d_Frames_goOn_9 rfl (lv_at hl 1 rfl) ?_
    refine lv_bipush (v := 8) hx hb d_Frames_goOn_10 (by decide) ?_
    refine lv_imul hx hb d_Frames_goOn_12 ?_
    refine tw_ri (e2 := nI (p1 * 8)) (pk_mul p1 8) ?_
    refine lv_istore hx hb d_Frames_goOn_13 hl (by decide) rfl (fun ls hl => ?_)
    have hl : lv_has ls 6 [(4, .int (nI (p1 * 8))), (0, .ref f0), (1, .int (nI p1)), (2, .ref ra), (3, .int (nI dd))] := hl
    refine lv_aload_n hx hb d_Frames_goOn_15 rfl (lv_at hl 1 rfl) ?_
    refine va_get (D := g.1) (ci := 1) (v := .ref (w 6)) (C := R_Frames) (T := F_Frames) (N := 5) hx hb hts in_Frames hown hK hP 0 rfl rfl 3 (by decide) (hts _ wd_228) (fun _ h9 => h9) rfl d_Frames_goOn_16 ?_
    refine lv_iload_n hx hb d_Frames_goOn_19 rfl (lv_at hl 2 rfl) ?_
    refine va_bald hx hb hK hP 4 1 rfl rfl (vp_in_nI hp1 (by decide)) d_Frames_goOn_20 ?_
    refine tw_ri (e2 := dp p1) (by rw [nI_clamp (by omega)]) ?_
    refine lv_iconst (v := (-1)) hx hb d_Frames_goOn_21 (by decide) ?_
    refine lv_icmp_ne (tgt := 53) hx hb d_Frames_goOn_22 (by decide) (fun h22 => ?_) (fun h22 => ?_)
    · refine lv_iconst (v := 0) hx hb d_Frames_goOn_53 (by decide) ?_
      refine lv_istore hx hb d_Frames_goOn_54 hl (by decide) rfl (fun ls hl => ?_)
      have hl : lv_has ls 6 [(5, .int 0), (4, .int (nI (p1 * 8))), (0, .ref f0), (1, .int (nI p1)), (2, .ref ra), (3, .int (nI dd))] := hl
      have loop56 : ∀ (kq : Nat) (i : Nat) (ls : Array Slot) (H : Heap) (locs : List Loc) , 4 - i = kq → (hj : i ≤ 4) → lv_has ls 6 [(5, .int (nI i)), (4, .int (nI (p1 * 8))), (0, .ref f0), (1, .int (nI p1)), (2, .ref ra), (3, .int (nI dd))] → va_P g.1 classes [(f0, .inr (1, [.ref (w 3), .ref (w 4), .ref (w 5), .ref (w 6), .int (nI lo)])), ((w 3), aJ g 4800 rw), ((w 4), aB g 600 bg), ((w 5), aB g 600 wt), ((w 6), aB g 600 dp), (ra, aJ g 8 rf)] H → va_D A [(f0, .inr (1, [.ref (w 3), .ref (w 4), .ref (w 5), .ref (w 6), .int (nI lo)])), ((w 3), aJ g 4800 rw), ((w 4), aB g 600 bg), ((w 5), aB g 600 wt), ((w 6), aB g 600 dp), (ra, aJ g 8 rf)] → va_S A s.heap H locs → W p l e ({ frames := 2, cells := 0, slots := 0, locals := 60 }) s m [.ref f0, .int (nI p1), .ref ra, .int (nI dd)].toArray below meth c H locs 0 0 (MQ below (tw_Qi g (fun r (u : Nat × (Nat → Int64) × (Nat → Int32) × (Nat → Int32) × (Nat → Int32)) => True ∧ FI u.1 u.2.1 u.2.2.2.1 u.2.2.2.2) (fun u : Nat × (Nat → Int64) × (Nat → Int32) × (Nat → Int32) × (Nat → Int32) => [(f0, .inr (1, [.ref (w 3), .ref (w 4), .ref (w 5), .ref (w 6), .int (nI u.1)])), ((w 3), aJ g 4800 u.2.1), ((w 4), aB g 600 u.2.2.1), ((w 5), aB g 600 u.2.2.2.1), ((w 6), aB g 600 u.2.2.2.2), (ra, aJ g 8 rf)]) A) [.ref f0, .int (nI p1), .ref ra, .int (nI dd)].toArray s 0 0 A) (F0 m 56 ls []) := by
        intro kq
        induction kq using Nat.strongRecOn with
        | _ kq ih =>
          intro i ls H locs hk hj hl hP hD hS
          refine lv_iload hx hb d_Frames_goOn_56 (lv_at hl 0 rfl) ?_
          refine lv_iconst (v := 4) hx hb d_Frames_goOn_58 (by decide) ?_
          refine lv_icmp_ge (tgt := 89) hx hb d_Frames_goOn_59 (by decide) (fun h59 => ?_) (fun h59 => ?_)
          · refine lv_iconst (v := 4) hx hb d_Frames_goOn_89 (by decide) ?_
            refine lv_istore hx hb d_Frames_goOn_90 hl (by decide) rfl (fun ls hl => ?_)
            have hl : lv_has ls 6 [(5, .int 4), (4, .int (nI (p1 * 8))), (0, .ref f0), (1, .int (nI p1)), (2, .ref ra), (3, .int (nI dd))] := hl
            have loop92 : ∀ (kq : Nat) (i2 : Nat) (lo9 : Nat) (rw9 : Nat → Int64) (wt9 : Nat → Int32) (ls : Array Slot) (H : Heap) (locs : List Loc) , 8 - i2 = kq → (hF9 : FI lo9 rw9 wt9 dp) → (hi4 : 4 ≤ i2) → (hi8 : i2 ≤ 8) → lv_has ls 6 [(5, .int (nI i2)), (4, .int (nI (p1 * 8))), (0, .ref f0), (1, .int (nI p1)), (2, .ref ra), (3, .int (nI dd))] → va_P g.1 classes [(f0, .inr (1, [.ref (w 3), .ref (w 4), .ref (w 5), .ref (w 6), .int (nI lo9)])), ((w 3), aJ g 4800 rw9), ((w 4), aB g 600 bg), ((w 5), aB g 600 wt9), ((w 6), aB g 600 dp), (ra, aJ g 8 rf)] H → va_D A [(f0, .inr (1, [.ref (w 3), .ref (w 4), .ref (w 5), .ref (w 6), .int (nI lo9)])), ((w 3), aJ g 4800 rw9), ((w 4), aB g 600 bg), ((w 5), aB g 600 wt9), ((w 6), aB g 600 dp), (ra, aJ g 8 rf)] → va_S A s.heap H locs → W p l e ({ frames := 2, cells := 0, slots := 0, locals := 60 }) s m [.ref f0, .int (nI p1), .ref ra, .int (nI dd)].toArray below meth c H locs 0 0 (MQ below (tw_Qi g (fun r (u : Nat × (Nat → Int64) × (Nat → Int32) × (Nat → Int32) × (Nat → Int32)) => True ∧ FI u.1 u.2.1 u.2.2.2.1 u.2.2.2.2) (fun u : Nat × (Nat → Int64) × (Nat → Int32) × (Nat → Int32) × (Nat → Int32) => [(f0, .inr (1, [.ref (w 3), .ref (w 4), .ref (w 5), .ref (w 6), .int (nI u.1)])), ((w 3), aJ g 4800 u.2.1), ((w 4), aB g 600 u.2.2.1), ((w 5), aB g 600 u.2.2.2.1), ((w 6), aB g 600 u.2.2.2.2), (ra, aJ g 8 rf)]) A) [.ref f0, .int (nI p1), .ref ra, .int (nI dd)].toArray s 0 0 A) (F0 m 92 ls []) := by
              intro kq
              induction kq using Nat.strongRecOn with
              | _ kq ih92 =>
                intro i2 lo9 rw9 wt9 ls H locs hk92 hF9 hi4 hi8 hl hP hD hS
                refine lv_iload hx hb d_Frames_goOn_92 (lv_at hl 0 rfl) ?_
                refine lv_bipush (v := 8) hx hb d_Frames_goOn_94 (by decide) ?_
                refine lv_icmp_ge (tgt := 140) hx hb d_Frames_goOn_96 (by decide) (fun h96 => ?_) (fun h96 => ?_)
                · refine lv_iconst (v := 0) hx hb d_Frames_goOn_140 (by decide) ?_
                  exact tw_iret E hS (lo9, rw9, bg, wt9, dp) ⟨trivial, hF9⟩ hP hD d_Frames_goOn_141
                · have h96 := tn_nle (a := 8) h96 (by decide) (by omega)
                  refine lv_aload_n hx hb d_Frames_goOn_99 rfl (lv_at hl 2 rfl) ?_
                  refine va_get (D := g.1) (ci := 1) (v := .ref (w 3)) (C := R_Frames) (T := F_Frames) (N := 5) hx hb hts in_Frames hown hK hP 0 rfl rfl 0 (by decide) (hts _ wd_225) (fun _ h9 => h9) rfl d_Frames_goOn_100 ?_
                  refine lv_iload hx hb d_Frames_goOn_103 (lv_at hl 1 rfl) ?_
                  refine lv_iload hx hb d_Frames_goOn_105 (lv_at hl 0 rfl) ?_
                  refine lv_iadd hx hb d_Frames_goOn_107 ?_
                  refine tw_ri (e2 := nI (p1 * 8 + i2)) (nI_add _ _) ?_
                  refine va_lald hx hb hK hP 1 2 rfl rfl (vp_in_nI (by omega) (by decide)) d_Frames_goOn_108 ?_
                  obtain ⟨x2, ex2⟩ : ∃ z : Int64, rw9 ((nI (p1 * 8 + i2)).toNatClampNeg) = z := ⟨_, rfl⟩
                  refine tw_rl (e2 := x2) ex2 ?_
                  refine lv_aload_n hx hb d_Frames_goOn_109 rfl (lv_at hl 4 rfl) ?_
                  refine lv_iload hx hb d_Frames_goOn_110 (lv_at hl 0 rfl) ?_
                  refine va_lald hx hb hK hP 5 2 rfl rfl (vp_in_nI (by omega) (by decide)) d_Frames_goOn_112 ?_
                  obtain ⟨x3, ex3⟩ : ∃ z : Int64, rf ((nI i2).toNatClampNeg) = z := ⟨_, rfl⟩
                  refine tw_rl (e2 := x3) ex3 ?_
                  refine W.lcmp hx hb d_Frames_goOn_113 ?_
                  obtain ⟨x4, ex4⟩ : ∃ z : Int32, lg_cmp x2 x3 = z := ⟨_, rfl⟩
                  refine tw_ri (e2 := x4) ex4 ?_
                  refine lv_if_eq (tgt := 134) hx hb d_Frames_goOn_114 (by decide) (fun h114 => ?_) (fun h114 => ?_)
                  · refine lv_iinc (k := 0) (v := nI (i2 + 1)) hx hb d_Frames_goOn_134 hl rfl ((nI_succ i2).symm) (by decide) rfl (fun ls hl => ?_)
                    have hl : lv_has ls 6 [(5, .int (nI (i2 + 1))), (4, .int (nI (p1 * 8))), (0, .ref f0), (1, .int (nI p1)), (2, .ref ra), (3, .int (nI dd))] := hl
                    refine lv_goto (tgt := 92) hx hb d_Frames_goOn_137 (by decide) ?_
                    have hP : va_P g.1 classes [(f0, .inr (1, [.ref (w 3), .ref (w 4), .ref (w 5), .ref (w 6), .int (nI lo9)])), ((w 3), aJ g 4800 rw9), ((w 4), aB g 600 bg), ((w 5), aB g 600 wt9), ((w 6), aB g 600 dp), (ra, aJ g 8 rf)] H := hP.sub [0, 1, 2, 3, 4, 5] rfl
                    have hD : va_D A [(f0, .inr (1, [.ref (w 3), .ref (w 4), .ref (w 5), .ref (w 6), .int (nI lo9)])), ((w 3), aJ g 4800 rw9), ((w 4), aB g 600 bg), ((w 5), aB g 600 wt9), ((w 6), aB g 600 dp), (ra, aJ g 8 rf)] := hD.sub [0, 1, 2, 3, 4, 5] (by decide) rfl
                    exact ih92 _ (by omega) (i2 + 1) lo9 rw9 wt9 ls _ _ rfl hF9 (by omega) (by omega) (lv_sub hl [0, 1, 2, 3, 4, 5] rfl) hP hD hS
                  · refine lv_aload_n hx hb d_Frames_goOn_117 rfl (lv_at hl 2 rfl) ?_
                    refine lv_iload hx hb d_Frames_goOn_118 (lv_at hl 1 rfl) ?_
                    refine lv_aload_n hx hb d_Frames_goOn_120 rfl (lv_at hl 4 rfl) ?_
                    refine lv_iload hx hb d_Frames_goOn_121 (lv_at hl 0 rfl) ?_
                    refine tw_wi (wr := []) (tw_runV (ws := [(f0, .inr (1, [.ref (w 3), .ref (w 4), .ref (w 5), .ref (w 6), .int (nI lo9)])), ((w 3), aJ g 4800 rw9), ((w 4), aB g 600 bg), ((w 5), aB g 600 wt9), ((w 6), aB g 600 dp), (ra, aJ g 8 rf)]) (wc := [(f0, .inr (1, [.ref (w 3), .ref (w 4), .ref (w 5), .ref (w 6), .int (nI lo9)])), ((w 3), aJ g 4800 rw9), ((w 4), aB g 600 bg), ((w 5), aB g 600 wt9), ((w 6), aB g 600 dp), (ra, aJ g 8 rf)]) (As := [.int (nI (p1 * 8)), .ref ra, .int (nI i2)]) (rest := []) E hB hK hZ (s_Frames_meetWord l g H.size f0 ra w rf lo9 bg wt9 dp rw9 (p1 * 8) i2 hF9 (by omega) (by omega) (by omega) (by omega)) mc_Frames_meetWord mi_Frames_meetWord me_Frames_meetWord wd_809 hP hD hS hA [0, 1, 2, 3, 4, 5] rfl (by decide) 0 rfl rfl rfl rfl rfl (by decide) rfl hl.1 rfl (Nat.le_of_ble_eq_true rfl) (by decide) d_Frames_goOn_123) hP hD hS hA [0, 1, 2, 3, 4, 5] [] rfl rfl (by decide) (by decide) (fun r5 u6 H locs hr5 hP hD hS => ?_)
                    try dsimp only at hr5
                    have hP : va_P g.1 classes [(f0, .inr (1, [.ref (w 3), .ref (w 4), .ref (w 5), .ref (w 6), .int (nI lo9)])), ((w 3), aJ g 4800 u6), ((w 4), aB g 600 bg), ((w 5), aB g 600 wt9), ((w 6), aB g 600 dp), (ra, aJ g 8 rf)] H := hP
                    have hD : va_D A [(f0, .inr (1, [.ref (w 3), .ref (w 4), .ref (w 5), .ref (w 6), .int (nI lo9)])), ((w 3), aJ g 4800 u6), ((w 4), aB g 600 bg), ((w 5), aB g 600 wt9), ((w 6), aB g 600 dp), (ra, aJ g 8 rf)] := hD
                    have hP : va_P g.1 classes [(f0, .inr (1, [.ref (w 3), .ref (w 4), .ref (w 5), .ref (w 6), .int (nI lo9)])), ((w 3), aJ g 4800 u6), ((w 4), aB g 600 bg), ((w 5), aB g 600 wt9), ((w 6), aB g 600 dp), (ra, aJ g 8 rf)] H := hP.sub [0, 1, 2, 3, 4, 5] rfl
                    have hD : va_D A [(f0, .inr (1, [.ref (w 3), .ref (w 4), .ref (w 5), .ref (w 6), .int (nI lo9)])), ((w 3), aJ g 4800 u6), ((w 4), aB g 600 bg), ((w 5), aB g 600 wt9), ((w 6), aB g 600 dp), (ra, aJ g 8 rf)] := hD.sub [0, 1, 2, 3, 4, 5] (by decide) rfl
                    obtain ⟨hB6, hV6⟩ := hr5
                    refine lv_if_eq (tgt := 134) hx hb d_Frames_goOn_126 (by decide) (fun h126 => ?_) (fun h126 => ?_)
                    · refine lv_iinc (k := 0) (v := nI (i2 + 1)) hx hb d_Frames_goOn_134 hl rfl ((nI_succ i2).symm) (by decide) rfl (fun ls hl => ?_)
                      have hl : lv_has ls 6 [(5, .int (nI (i2 + 1))), (4, .int (nI (p1 * 8))), (0, .ref f0), (1, .int (nI p1)), (2, .ref ra), (3, .int (nI dd))] := hl
                      refine lv_goto (tgt := 92) hx hb d_Frames_goOn_137 (by decide) ?_
                      have hP : va_P g.1 classes [(f0, .inr (1, [.ref (w 3), .ref (w 4), .ref (w 5), .ref (w 6), .int (nI lo9)])), ((w 3), aJ g 4800 u6), ((w 4), aB g 600 bg), ((w 5), aB g 600 wt9), ((w 6), aB g 600 dp), (ra, aJ g 8 rf)] H := hP.sub [0, 1, 2, 3, 4, 5] rfl
                      have hD : va_D A [(f0, .inr (1, [.ref (w 3), .ref (w 4), .ref (w 5), .ref (w 6), .int (nI lo9)])), ((w 3), aJ g 4800 u6), ((w 4), aB g 600 bg), ((w 5), aB g 600 wt9), ((w 6), aB g 600 dp), (ra, aJ g 8 rf)] := hD.sub [0, 1, 2, 3, 4, 5] (by decide) rfl
                      exact ih92 _ (by omega) (i2 + 1) lo9 u6 wt9 ls _ _ rfl hV6 (by omega) (by omega) (lv_sub hl [0, 1, 2, 3, 4, 5] rfl) hP hD hS
                    · refine lv_aload_n hx hb d_Frames_goOn_129 rfl (lv_at hl 2 rfl) ?_
                      refine lv_iload_n hx hb d_Frames_goOn_130 rfl (lv_at hl 3 rfl) ?_
                      refine tw_wv (wr := [(ra, aJ g 8 rf)]) (tw_runV (ws := [(f0, .inr (1, [.ref (w 3), .ref (w 4), .ref (w 5), .ref (w 6), .int (nI lo9)])), ((w 3), aJ g 4800 u6), ((w 4), aB g 600 bg), ((w 5), aB g 600 wt9), ((w 6), aB g 600 dp), (ra, aJ g 8 rf)]) (wc := [(f0, .inr (1, [.ref (w 3), .ref (w 4), .ref (w 5), .ref (w 6), .int (nI lo9)])), ((w 3), aJ g 4800 u6), ((w 4), aB g 600 bg), ((w 5), aB g 600 wt9), ((w 6), aB g 600 dp)]) (As := [.int (nI p1)]) (rest := []) E hB hK hZ (s_Frames_makeWait l g H.size f0 w u6 bg dp lo9 wt9  p1 hV6 (by omega) h22) mc_Frames_makeWait mi_Frames_makeWait me_Frames_makeWait wd_804 hP hD hS hA [0, 1, 2, 3, 4] rfl (by decide) 0 rfl rfl rfl rfl rfl (by decide) rfl hl.1 rfl (Nat.le_of_ble_eq_true rfl) (by decide) d_Frames_goOn_131) hP hD hS hA [0, 1, 2, 3, 4] [5] rfl rfl (by decide) (by decide) (fun u8 H locs hr7 hP hD hS => ?_)
                      try dsimp only at hr7
                      have hP : va_P g.1 classes [(ra, aJ g 8 rf), (f0, .inr (1, [.ref (w 3), .ref (w 4), .ref (w 5), .ref (w 6), .int (nI u8.1)])), ((w 3), aJ g 4800 u6), ((w 4), aB g 600 bg), ((w 5), aB g 600 u8.2), ((w 6), aB g 600 dp)] H := hP
                      have hD : va_D A [(ra, aJ g 8 rf), (f0, .inr (1, [.ref (w 3), .ref (w 4), .ref (w 5), .ref (w 6), .int (nI u8.1)])), ((w 3), aJ g 4800 u6), ((w 4), aB g 600 bg), ((w 5), aB g 600 u8.2), ((w 6), aB g 600 dp)] := hD
                      have hP : va_P g.1 classes [(f0, .inr (1, [.ref (w 3), .ref (w 4), .ref (w 5), .ref (w 6), .int (nI u8.1)])), ((w 3), aJ g 4800 u6), ((w 4), aB g 600 bg), ((w 5), aB g 600 u8.2), ((w 6), aB g 600 dp), (ra, aJ g 8 rf)] H := hP.sub [1, 2, 3, 4, 5, 0] rfl
                      have hD : va_D A [(f0, .inr (1, [.ref (w 3), .ref (w 4), .ref (w 5), .ref (w 6), .int (nI u8.1)])), ((w 3), aJ g 4800 u6), ((w 4), aB g 600 bg), ((w 5), aB g 600 u8.2), ((w 6), aB g 600 dp), (ra, aJ g 8 rf)] := hD.sub [1, 2, 3, 4, 5, 0] (by decide) rfl
                      have hV8_0 := hr7
                      refine lv_iinc (k := 0) (v := nI (i2 + 1)) hx hb d_Frames_goOn_134 hl rfl ((nI_succ i2).symm) (by decide) rfl (fun ls hl => ?_)
                      have hl : lv_has ls 6 [(5, .int (nI (i2 + 1))), (4, .int (nI (p1 * 8))), (0, .ref f0), (1, .int (nI p1)), (2, .ref ra), (3, .int (nI dd))] := hl
                      refine lv_goto (tgt := 92) hx hb d_Frames_goOn_137 (by decide) ?_
                      have hP : va_P g.1 classes [(f0, .inr (1, [.ref (w 3), .ref (w 4), .ref (w 5), .ref (w 6), .int (nI u8.1)])), ((w 3), aJ g 4800 u6), ((w 4), aB g 600 bg), ((w 5), aB g 600 u8.2), ((w 6), aB g 600 dp), (ra, aJ g 8 rf)] H := hP.sub [0, 1, 2, 3, 4, 5] rfl
                      have hD : va_D A [(f0, .inr (1, [.ref (w 3), .ref (w 4), .ref (w 5), .ref (w 6), .int (nI u8.1)])), ((w 3), aJ g 4800 u6), ((w 4), aB g 600 bg), ((w 5), aB g 600 u8.2), ((w 6), aB g 600 dp), (ra, aJ g 8 rf)] := hD.sub [0, 1, 2, 3, 4, 5] (by decide) rfl
                      exact ih92 _ (by omega) (i2 + 1) u8.1 u6 u8.2 ls _ _ rfl hV8_0 (by omega) (by omega) (lv_sub hl [0, 1, 2, 3, 4, 5] rfl) hP hD hS
            exact loop92 _ 4 lo rw wt ls _ _ rfl hF (by omega) (by omega) (hl) hP hD hS
          · have h59 := tn_nle (a := 4) h59 (by decide) (by omega)
            refine lv_aload_n hx hb d_Frames_goOn_62 rfl (lv_at hl 2 rfl) ?_
            refine va_get (D := g.1) (ci := 1) (v := .ref (w 3)) (C := R_Frames) (T := F_Frames) (N := 5) hx hb hts in_Frames hown hK hP 0 rfl rfl 0 (by decide) (hts _ wd_225) (fun _ h9 => h9) rfl d_Frames_goOn_63 ?_
            refine lv_iload hx hb d_Frames_goOn_66 (lv_at hl 1 rfl) ?_
            refine lv_iload hx hb d_Frames_goOn_68 (lv_at hl 0 rfl) ?_
            refine lv_iadd hx hb d_Frames_goOn_70 ?_
            refine tw_ri (e2 := nI (p1 * 8 + i)) (nI_add _ _) ?_
            refine va_lald hx hb hK hP 1 2 rfl rfl (vp_in_nI (by omega) (by decide)) d_Frames_goOn_71 ?_
            obtain ⟨x9, ex9⟩ : ∃ z : Int64, rw ((nI (p1 * 8 + i)).toNatClampNeg) = z := ⟨_, rfl⟩
            refine tw_rl (e2 := x9) ex9 ?_
            refine lv_aload_n hx hb d_Frames_goOn_72 rfl (lv_at hl 4 rfl) ?_
            refine lv_iload hx hb d_Frames_goOn_73 (lv_at hl 0 rfl) ?_
            refine va_lald hx hb hK hP 5 2 rfl rfl (vp_in_nI (by omega) (by decide)) d_Frames_goOn_75 ?_
            obtain ⟨x10, ex10⟩ : ∃ z : Int64, rf ((nI i).toNatClampNeg) = z := ⟨_, rfl⟩
            refine tw_rl (e2 := x10) ex10 ?_
            refine W.lcmp hx hb d_Frames_goOn_76 ?_
            obtain ⟨x11, ex11⟩ : ∃ z : Int32, lg_cmp x9 x10 = z := ⟨_, rfl⟩
            refine tw_ri (e2 := x11) ex11 ?_
            refine lv_if_eq (tgt := 83) hx hb d_Frames_goOn_77 (by decide) (fun h77 => ?_) (fun h77 => ?_)
            · refine lv_iinc (k := 0) (v := nI (i + 1)) hx hb d_Frames_goOn_83 hl rfl ((nI_succ i).symm) (by decide) rfl (fun ls hl => ?_)
              have hl : lv_has ls 6 [(5, .int (nI (i + 1))), (4, .int (nI (p1 * 8))), (0, .ref f0), (1, .int (nI p1)), (2, .ref ra), (3, .int (nI dd))] := hl
              refine lv_goto (tgt := 56) hx hb d_Frames_goOn_86 (by decide) ?_
              exact ih _ (by omega) (i + 1) ls _ _ rfl (by omega) (lv_sub hl [0, 1, 2, 3, 4, 5] rfl) hP hD hS
            · refine lv_bipush (v := 25) hx hb d_Frames_goOn_80 (by decide) ?_
              exact tw_iret E hS (lo, rw, bg, wt, dp) ⟨trivial, hF⟩ hP hD d_Frames_goOn_82
      exact loop56 _ 0 ls _ _ rfl (Nat.zero_le _) (hl) hP hD hS
    · refine lv_aload_n hx hb d_Frames_goOn_25 rfl (lv_at hl 3 rfl) ?_
      refine lv_iconst (v := 0) hx hb d_Frames_goOn_26 (by decide) ?_
      refine lv_aload_n hx hb d_Frames_goOn_27 rfl (lv_at hl 1 rfl) ?_
      refine va_get (D := g.1) (ci := 1) (v := .ref (w 3)) (C := R_Frames) (T := F_Frames) (N := 5) hx hb hts in_Frames hown hK hP 0 rfl rfl 0 (by decide) (hts _ wd_225) (fun _ h9 => h9) rfl d_Frames_goOn_28 ?_
      refine lv_iload hx hb d_Frames_goOn_31 (lv_at hl 0 rfl) ?_
      refine lv_bipush (v := 8) hx hb d_Frames_goOn_33 (by decide) ?_
      refine va_copyl (ty := .long) hx hb (by rw [hml]; exact hl.1.symm) hown (hts _ wd_803) (hts _ wd_354) (hts _ wd_353) (hts _ wd_18) hK hP hD hS 5 1 2 2 rfl rfl rfl rfl rfl (by decide) (nI_pos (by omega)) (by decide) (by decide) (sf_c5 hp1) (fun _ _ => rfl) (by decide) (by decide) d_Frames_goOn_35 (fun H locs hP hD hS => ?_)
      have hP : va_P g.1 classes [(f0, .inr (1, [.ref (w 3), .ref (w 4), .ref (w 5), .ref (w 6), .int (nI lo)])), ((w 3), aJ g 4800 (va_cpy rf rw (0 : Int32).toNatClampNeg (nI (p1 * 8)).toNatClampNeg (8 : Int32).toNatClampNeg)), ((w 4), aB g 600 bg), ((w 5), aB g 600 wt), ((w 6), aB g 600 dp), (ra, aJ g 8 rf)] H := hP
      have hD : va_D A [(f0, .inr (1, [.ref (w 3), .ref (w 4), .ref (w 5), .ref (w 6), .int (nI lo)])), ((w 3), aJ g 4800 (va_cpy rf rw (0 : Int32).toNatClampNeg (nI (p1 * 8)).toNatClampNeg (8 : Int32).toNatClampNeg)), ((w 4), aB g 600 bg), ((w 5), aB g 600 wt), ((w 6), aB g 600 dp), (ra, aJ g 8 rf)] := hD
      refine lv_aload_n hx hb d_Frames_goOn_38 rfl (lv_at hl 1 rfl) ?_
      refine va_get (D := g.1) (ci := 1) (v := .ref (w 6)) (C := R_Frames) (T := F_Frames) (N := 5) hx hb hts in_Frames hown hK hP 0 rfl rfl 3 (by decide) (hts _ wd_228) (fun _ h9 => h9) rfl d_Frames_goOn_39 ?_
      refine lv_iload_n hx hb d_Frames_goOn_42 rfl (lv_at hl 2 rfl) ?_
      refine lv_iload_n hx hb d_Frames_goOn_43 rfl (lv_at hl 4 rfl) ?_
      refine lv_i2b (v := nI dd) hx hb d_Frames_goOn_44 (sf_b64 dd hdd) ?_
      refine va_bast hx hb hK hP hD hS 4 1 rfl rfl (vp_in_nI hp1 (by decide)) d_Frames_goOn_45 (fun H locs hP hD hS => ?_)
      have hP : va_P g.1 classes [(f0, .inr (1, [.ref (w 3), .ref (w 4), .ref (w 5), .ref (w 6), .int (nI lo)])), ((w 3), aJ g 4800 (va_cpy rf rw (0 : Int32).toNatClampNeg (nI (p1 * 8)).toNatClampNeg (8 : Int32).toNatClampNeg)), ((w 4), aB g 600 bg), ((w 5), aB g 600 wt), ((w 6), aB g 600 (upd dp (nI p1).toNatClampNeg (vp_nar .byte (nI dd)))), (ra, aJ g 8 rf)] H := hP
      have hD : va_D A [(f0, .inr (1, [.ref (w 3), .ref (w 4), .ref (w 5), .ref (w 6), .int (nI lo)])), ((w 3), aJ g 4800 (va_cpy rf rw (0 : Int32).toNatClampNeg (nI (p1 * 8)).toNatClampNeg (8 : Int32).toNatClampNeg)), ((w 4), aB g 600 bg), ((w 5), aB g 600 wt), ((w 6), aB g 600 (upd dp (nI p1).toNatClampNeg (vp_nar .byte (nI dd)))), (ra, aJ g 8 rf)] := hD
      have e9 : upd dp (nI p1).toNatClampNeg (vp_nar .byte (nI dd)) = upd dp p1 (nI dd) := by rw [nI_clamp (by omega), vp_nar_byte, sf_b64 dd hdd]
      rw [e9] at hP hD
      have hF := hF.copy hp1 hr0 hdd
      refine lv_aload_n hx hb d_Frames_goOn_46 rfl (lv_at hl 1 rfl) ?_
      refine lv_iload_n hx hb d_Frames_goOn_47 rfl (lv_at hl 2 rfl) ?_
      refine tw_wv (wr := [(ra, aJ g 8 rf)]) (tw_runV (ws := [(f0, .inr (1, [.ref (w 3), .ref (w 4), .ref (w 5), .ref (w 6), .int (nI lo)])), ((w 3), aJ g 4800 (va_cpy rf rw (0 : Int32).toNatClampNeg (nI (p1 * 8)).toNatClampNeg (8 : Int32).toNatClampNeg)), ((w 4), aB g 600 bg), ((w 5), aB g 600 wt), ((w 6), aB g 600 (upd dp p1 (nI dd))), (ra, aJ g 8 rf)]) (wc := [(f0, .inr (1, [.ref (w 3), .ref (w 4), .ref (w 5), .ref (w 6), .int (nI lo)])), ((w 3), aJ g 4800 (va_cpy rf rw (0 : Int32).toNatClampNeg (nI (p1 * 8)).toNatClampNeg (8 : Int32).toNatClampNeg)), ((w 4), aB g 600 bg), ((w 5), aB g 600 wt), ((w 6), aB g 600 (upd dp p1 (nI dd)))]) (As := [.int (nI p1)]) (rest := []) E hB hK hZ (s_Frames_makeWait l g H.size f0 w (va_cpy rf rw (0 : Int32).toNatClampNeg (nI (p1 * 8)).toNatClampNeg (8 : Int32).toNatClampNeg) bg (upd dp p1 (nI dd)) lo wt  p1 hF (by omega) (sf_upn hdd)) mc_Frames_makeWait mi_Frames_makeWait me_Frames_makeWait wd_804 hP hD hS hA [0, 1, 2, 3, 4] rfl (by decide) 0 rfl rfl rfl rfl rfl (by decide) rfl hl.1 rfl (Nat.le_of_ble_eq_true rfl) (by decide) d_Frames_goOn_48) hP hD hS hA [0, 1, 2, 3, 4] [5] rfl rfl (by decide) (by decide) (fun u13 H locs hr12 hP hD hS => ?_)
      try dsimp only at hr12
      have hP : va_P g.1 classes [(ra, aJ g 8 rf), (f0, .inr (1, [.ref (w 3), .ref (w 4), .ref (w 5), .ref (w 6), .int (nI u13.1)])), ((w 3), aJ g 4800 (va_cpy rf rw (0 : Int32).toNatClampNeg (nI (p1 * 8)).toNatClampNeg (8 : Int32).toNatClampNeg)), ((w 4), aB g 600 bg), ((w 5), aB g 600 u13.2), ((w 6), aB g 600 (upd dp p1 (nI dd)))] H := hP
      have hD : va_D A [(ra, aJ g 8 rf), (f0, .inr (1, [.ref (w 3), .ref (w 4), .ref (w 5), .ref (w 6), .int (nI u13.1)])), ((w 3), aJ g 4800 (va_cpy rf rw (0 : Int32).toNatClampNeg (nI (p1 * 8)).toNatClampNeg (8 : Int32).toNatClampNeg)), ((w 4), aB g 600 bg), ((w 5), aB g 600 u13.2), ((w 6), aB g 600 (upd dp p1 (nI dd)))] := hD
      have hP : va_P g.1 classes [(f0, .inr (1, [.ref (w 3), .ref (w 4), .ref (w 5), .ref (w 6), .int (nI u13.1)])), ((w 3), aJ g 4800 (va_cpy rf rw (0 : Int32).toNatClampNeg (nI (p1 * 8)).toNatClampNeg (8 : Int32).toNatClampNeg)), ((w 4), aB g 600 bg), ((w 5), aB g 600 u13.2), ((w 6), aB g 600 (upd dp p1 (nI dd))), (ra, aJ g 8 rf)] H := hP.sub [1, 2, 3, 4, 5, 0] rfl
      have hD : va_D A [(f0, .inr (1, [.ref (w 3), .ref (w 4), .ref (w 5), .ref (w 6), .int (nI u13.1)])), ((w 3), aJ g 4800 (va_cpy rf rw (0 : Int32).toNatClampNeg (nI (p1 * 8)).toNatClampNeg (8 : Int32).toNatClampNeg)), ((w 4), aB g 600 bg), ((w 5), aB g 600 u13.2), ((w 6), aB g 600 (upd dp p1 (nI dd))), (ra, aJ g 8 rf)] := hD.sub [1, 2, 3, 4, 5, 0] (by decide) rfl
      have hV13_0 := hr12
      refine lv_iconst (v := 0) hx hb d_Frames_goOn_51 (by decide) ?_
      exact tw_iret E hS (u13.1, va_cpy rf rw (0 : Int32).toNatClampNeg (nI (p1 * 8)).toNatClampNeg (8 : Int32).toNatClampNeg, bg, u13.2, upd dp p1 (nI dd)) ⟨trivial, hV13_0⟩ hP hD d_Frames_goOn_52
  · refine lv_iconst (v := 0) hx hb d_Frames_goOn_7 (by decide) ?_
    exact tw_iret E hS (lo, rw, bg, wt, dp) ⟨trivial, hF⟩ hP hD d_Frames_goOn_8
