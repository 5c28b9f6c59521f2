set_option maxHeartbeats 4000000 in
set_option maxRecDepth 100000 in
theorem e_Image_isWritten (l : Launch) (g : tw_G) (sz : Nat) (h0 r n m0 : Nat) (f : Nat → Int32) (hn : n ≤ 600) (hm : m0 ≤ n) : Met l y_Image_isWritten [.code y_Image_isWritten b_Image_isWritten 4 (some .boolean)] ({ frames := 1, cells := 0, slots := 0, locals := 21 }) (tw_P g [.ref h0, .int (nI m0)] [(h0, .inr (2, [.ref r, .int (nI n)])), (r, aB g 600 f)] sz) (vp_Si (fun q => (q = 1 ∧ (∀ j, m0 ≤ j → j < n → 33 ≤ ib f n j ∧ ib f n j ≤ 126)) ∨ (q = 0 ∧ ¬ (∀ j, m0 ≤ j → j < n → 33 ≤ ib f n j ∧ ib f n j ≤ 126)))) 0 0 (fun _ => False) := by
  refine tw_met (l := l) (g := g) (y := y_Image_isWritten) (cc := b_Image_isWritten) (maxL := 4) (ret := (some .boolean)) (rm := { frames := 1, cells := 0, slots := 0, locals := 21 }) (mc := 0) (ms := 0) (av := [.ref h0, .int (nI m0)]) (ws := [(h0, .inr (2, [.ref r, .int (nI n)])), (r, aB g 600 f)]) (sz := sz) (Qc := fun _ => (vp_Si (fun q => (q = 1 ∧ (∀ j, m0 ≤ j → j < n → 33 ≤ ib f n j ∧ ib f n j ≤ 126)) ∨ (q = 0 ∧ ¬ (∀ j, m0 ≤ j → j < n → 33 ≤ ib f n j ∧ ib f n j ≤ 126))))) (free := fun _ _ => False) (by decide) (Nat.le_of_ble_eq_true rfl) ?_
  intro p e s m below meth c ls A E hB hK hZ hP hD hS hA hl
  obtain ⟨hx, hb, hml, hr, hown, hts, hlocks, hin⟩ := id E
  have hl : lv_has ls 4 [(0, .ref h0), (1, .int (nI m0))] := hl
  refine lv_iload_n hx hb d_Image_isWritten_0 rfl (lv_at hl 1 rfl) ?_
  refine lv_istore_n hx hb d_Image_isWritten_1 rfl hl (by decide) rfl (fun ls hl => ?_)
  have hl : lv_has ls 4 [(2, .int (nI m0)), (0, .ref h0), (1, .int (nI m0))] := hl
  have loop2 : ∀ (kq : Nat) (i : Nat) (ls : Array Slot) , n - i = kq → (hi1 : m0 ≤ i) → (hi2 : i ≤ n) → (hg : ∀ j, m0 ≤ j → j < i → 33 ≤ ib f n j ∧ ib f n j ≤ 126) → lv_has ls 4 [(2, .int (nI i)), (0, .ref h0), (1, .int (nI m0))] → W p l e ({ frames := 1, cells := 0, slots := 0, locals := 21 }) s m [.ref h0, .int (nI m0)].toArray below meth c s.heap [] 0 0 (MQ below (vp_Si (fun q => (q = 1 ∧ (∀ j, m0 ≤ j → j < n → 33 ≤ ib f n j ∧ ib f n j ≤ 126)) ∨ (q = 0 ∧ ¬ (∀ j, m0 ≤ j → j < n → 33 ≤ ib f n j ∧ ib f n j ≤ 126)))) [.ref h0, .int (nI m0)].toArray s 0 0 (fun _ => False)) (F0 m 2 ls []) := by
    intro kq
    induction kq using Nat.strongRecOn with
    | _ kq ih =>
      intro i ls hk hi1 hi2 hg hl 
      refine lv_iload_n hx hb d_Image_isWritten_2 rfl (lv_at hl 0 rfl) ?_
      refine lv_aload_n hx hb d_Image_isWritten_3 rfl (lv_at hl 1 rfl) ?_
      refine va_get (D := g.1) (ci := 2) (v := .int (nI n)) (C := R_Image) (T := F_Image) (N := 2) hx hb hts in_Image hown hK hP 0 rfl rfl 1 (by decide) (hts _ wd_43) (fun _ h9 => h9) rfl d_Image_isWritten_4 ?_
      refine lv_icmp_ge (tgt := 36) hx hb d_Image_isWritten_7 (by decide) (fun h7 => ?_) (fun h7 => ?_)
      · have h7 := tn_le h7 (by omega) (by omega)
        refine lv_iconst (v := 1) hx hb d_Image_isWritten_36 (by decide) ?_
        exact tw_zsret E (by decide) (Or.inl ⟨rfl, fun j h1 h2 => hg j h1 (by omega)⟩) d_Image_isWritten_37
      · have h7 := tn_nle h7 (by omega) (by omega)
        refine lv_aload_n hx hb d_Image_isWritten_10 rfl (lv_at hl 1 rfl) ?_
        refine lv_iload_n hx hb d_Image_isWritten_11 rfl (lv_at hl 0 rfl) ?_
        refine tw_si (tw_runV (ws := [(h0, .inr (2, [.ref r, .int (nI n)])), (r, aB g 600 f)]) (wc := [(h0, .inr (2, [.ref r, .int (nI n)])), (r, aB g 600 f)]) (As := [.int (nI i)]) (rest := []) E hB hK hZ (c_Image_oneAt l g s.heap.size h0 r n f (nI i) hn) mc_Image_oneAt mi_Image_oneAt me_Image_oneAt wd_394 hP hD hS hA [0, 1] rfl (by decide) 0 rfl rfl rfl rfl rfl (by decide) rfl hl.1 rfl (Nat.le_of_ble_eq_true rfl) (by decide) d_Image_isWritten_12) (fun r1 hr1 => ?_)
        obtain rfl : r1 = nI (ib f n i) := hr1.trans (ib_eq f n i)
        refine lv_istore_n hx hb d_Image_isWritten_15 rfl hl (by decide) rfl (fun ls hl => ?_)
        have hl : lv_has ls 4 [(3, .int (nI (ib f n i))), (2, .int (nI i)), (0, .ref h0), (1, .int (nI m0))] := hl
        refine lv_iload_n hx hb d_Image_isWritten_16 rfl (lv_at hl 0 rfl) ?_
        refine lv_bipush (v := 33) hx hb d_Image_isWritten_17 (by decide) ?_
        refine lv_icmp_lt (tgt := 28) hx hb d_Image_isWritten_19 (by decide) (fun h19 => ?_) (fun h19 => ?_)
        · have h19 := tn_lt (b := 33) h19 (by have := ib_lt f n i; omega) (by decide)
          refine lv_iconst (v := 0) hx hb d_Image_isWritten_28 (by decide) ?_
          exact tw_zsret E (by decide) (Or.inr ⟨rfl, fun hp => absurd (hp i hi1 h7) (by omega)⟩) d_Image_isWritten_29
        · have h19 := tn_nlt (b := 33) h19 (by have := ib_lt f n i; omega) (by decide)
          refine lv_iload_n hx hb d_Image_isWritten_22 rfl (lv_at hl 0 rfl) ?_
          refine lv_bipush (v := 126) hx hb d_Image_isWritten_23 (by decide) ?_
          refine lv_icmp_le (tgt := 30) hx hb d_Image_isWritten_25 (by decide) (fun h25 => ?_) (fun h25 => ?_)
          · have h25 := tn_le (b := 126) h25 (by have := ib_lt f n i; omega) (by decide)
            have hA := h19
            have hB2 := h25
            refine lv_iinc (k := 1) (v := nI (i + 1)) hx hb d_Image_isWritten_30 hl rfl ((nI_succ i).symm) (by decide) rfl (fun ls hl => ?_)
            have hl : lv_has ls 4 [(2, .int (nI (i + 1))), (3, .int (nI (ib f n i))), (0, .ref h0), (1, .int (nI m0))] := hl
            refine lv_goto (tgt := 2) hx hb d_Image_isWritten_33 (by decide) ?_
            exact ih _ (by omega) (i + 1) ls rfl (by omega) (by omega) (wr_step hg hA hB2) (lv_sub hl [0, 2, 3] rfl)
          · have h25 := tn_nle (b := 126) h25 (by have := ib_lt f n i; omega) (by decide)
            refine lv_iconst (v := 0) hx hb d_Image_isWritten_28 (by decide) ?_
            exact tw_zsret E (by decide) (Or.inr ⟨rfl, fun hp => absurd (hp i hi1 h7) (by omega)⟩) d_Image_isWritten_29
  exact loop2 _ m0 ls rfl (Nat.le_refl _) hm (fun j h1 h2 => absurd h2 (by omega)) (hl)
