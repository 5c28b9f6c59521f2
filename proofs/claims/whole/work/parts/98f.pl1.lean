set_option maxHeartbeats 4000000 in
set_option maxRecDepth 100000 in
theorem e_Policy_isFull (l : Launch) (g : tw_G) (sz : Nat) (po p0 p1 p2 : Nat) (mm mb : Int32) (lt ln mn : Nat → Int32) (so c1 : Nat) (hso : so < 2) (hc : mn so = nI c1) (hc6 : c1 ≤ 6) : Met l y_Policy_isFull [.code y_Policy_isFull b_Policy_isFull 2 (some .boolean)] ({ frames := 0, cells := 0, slots := 0, locals := 0 }) (tw_P g [.ref po, .int (nI so)] [(po, .inr (6, [.ref p0, .ref p1, .ref p2, .int mm, .int mb])), (p0, aB g 480 lt), (p1, aI g 12 ln), (p2, aI g 2 mn)] sz) (vp_Si (fun r => (r = 1 ∧ c1 = 6) ∨ (r = 0 ∧ c1 < 6))) 0 0 (fun _ => False) := by
  refine tw_met (l := l) (g := g) (y := y_Policy_isFull) (cc := b_Policy_isFull) (maxL := 2) (ret := (some .boolean)) (rm := { frames := 0, cells := 0, slots := 0, locals := 0 }) (mc := 0) (ms := 0) (av := [.ref po, .int (nI so)]) (ws := [(po, .inr (6, [.ref p0, .ref p1, .ref p2, .int mm, .int mb])), (p0, aB g 480 lt), (p1, aI g 12 ln), (p2, aI g 2 mn)]) (sz := sz) (Qc := fun _ => (vp_Si (fun r => (r = 1 ∧ c1 = 6) ∨ (r = 0 ∧ c1 < 6)))) (free := fun _ _ => False) (by decide) (Nat.le_of_ble_eq_true rfl) ?_
  intro p e s m below meth c ls A E hB hK hZ hP hD hS hA hl
  obtain ⟨hx, hb, hml, hr, hown, hts, hlocks, hin⟩ := id E
  have hl : lv_has ls 2 [(0, .ref po), (1, .int (nI so))] := hl
  refine lv_aload_n hx hb d_Policy_isFull_0 rfl (lv_at hl 0 rfl) ?_
  refine va_get (D := g.1) (ci := 6) (v := .ref p2) (C := R_Policy) (T := F_Policy) (N := 5) hx hb hts in_Policy hown hK hP 0 rfl rfl 2 (by decide) (hts _ wd_77) (fun _ h9 => h9) rfl d_Policy_isFull_1 ?_
  refine lv_iload_n hx hb d_Policy_isFull_4 rfl (lv_at hl 1 rfl) ?_
  refine va_iald hx hb hK hP 3 0 rfl rfl (vp_in_nI hso (by decide)) d_Policy_isFull_5 ?_
  refine tw_ri (e2 := nI c1) (by rw [nI_clamp (by omega)]; exact hc) ?_
  refine lv_bipush (v := 6) hx hb d_Policy_isFull_6 (by decide) ?_
  refine lv_icmp_lt (tgt := 15) hx hb d_Policy_isFull_8 (by decide) (fun h8 => ?_) (fun h8 => ?_)
  · have h8 := tn_lt (b := 6) h8 (by omega) (by decide)
    refine lv_iconst (v := 0) hx hb d_Policy_isFull_15 (by decide) ?_
    exact tw_zsret E (by decide) (Or.inr ⟨rfl, h8⟩) d_Policy_isFull_16
  · have h8 := tn_nlt (b := 6) h8 (by omega) (by decide)
    refine lv_iconst (v := 1) hx hb d_Policy_isFull_11 (by decide) ?_
    refine lv_goto (tgt := 16) hx hb d_Policy_isFull_12 (by decide) ?_
    exact tw_zsret E (by decide) (Or.inl ⟨rfl, by omega⟩) d_Policy_isFull_16
set_option maxHeartbeats 4000000 in
set_option maxRecDepth 100000 in
theorem e_Policy_learn (l : Launch) (g : tw_G) (sz : Nat) (po p0 p1 p2 : Nat) (mm mb : Int32) (lt ln mn : Nat → Int32) (im r n : Nat) (f : Nat → Int32) (so c1 q1 : Nat) (hn : n ≤ 600) (hso : so < 2) (hc : mn so = nI c1) (hc6 : c1 < 6) (hq : q1 ≤ 40) : Met l y_Policy_learn [.code y_Policy_learn b_Policy_learn 7 none] ({ frames := 1, cells := 0, slots := 0, locals := 21 }) (tw_P g [.ref po, .int (nI so), .ref im, .int (nI q1)] [(po, .inr (6, [.ref p0, .ref p1, .ref p2, .int mm, .int mb])), (p0, aB g 480 lt), (p1, aI g 12 ln), (p2, aI g 2 mn), (im, .inr (2, [.ref r, .int (nI n)])), (r, aB g 600 f)] sz) (tw_Qv g (fun _ => True) (fun u : Nat → Int32 => [(po, .inr (6, [.ref p0, .ref p1, .ref p2, .int mm, .int mb])), (p0, aB g 480 u), (p1, aI g 12 (upd ln (so * 6 + c1) (nI q1))), (p2, aI g 2 (upd mn so (nI (c1 + 1)))), (im, .inr (2, [.ref r, .int (nI n)])), (r, aB g 600 f)]) (va_A [(po, .inr (6, [.ref p0, .ref p1, .ref p2, .int mm, .int mb])), (p0, aB g 480 lt), (p1, aI g 12 ln), (p2, aI g 2 mn), (im, .inr (2, [.ref r, .int (nI n)])), (r, aB g 600 f)] sz)) 0 0 (va_A [(po, .inr (6, [.ref p0, .ref p1, .ref p2, .int mm, .int mb])), (p0, aB g 480 lt), (p1, aI g 12 ln), (p2, aI g 2 mn), (im, .inr (2, [.ref r, .int (nI n)])), (r, aB g 600 f)] sz) := by
  refine tw_metW (l := l) (g := g) (y := y_Policy_learn) (cc := b_Policy_learn) (maxL := 7) (ret := none) (rm := { frames := 1, cells := 0, slots := 0, locals := 21 }) (mc := 0) (ms := 0) (av := [.ref po, .int (nI so), .ref im, .int (nI q1)]) (ws := [(po, .inr (6, [.ref p0, .ref p1, .ref p2, .int mm, .int mb])), (p0, aB g 480 lt), (p1, aI g 12 ln), (p2, aI g 2 mn), (im, .inr (2, [.ref r, .int (nI n)])), (r, aB g 600 f)]) (sz := sz) (Qc := fun A => (tw_Qv g (fun _ => True) (fun u : Nat → Int32 => [(po, .inr (6, [.ref p0, .ref p1, .ref p2, .int mm, .int mb])), (p0, aB g 480 u), (p1, aI g 12 (upd ln (so * 6 + c1) (nI q1))), (p2, aI g 2 (upd mn so (nI (c1 + 1)))), (im, .inr (2, [.ref r, .int (nI n)])), (r, aB g 600 f)]) A)) (by decide) (Nat.le_of_ble_eq_true rfl) ?_
  intro p e s m below meth c ls H A E hB hK hZ hP hD hS hA hl
  obtain ⟨hx, hb, hml, hr, hown, hts, hlocks, hin⟩ := id E
  have hl : lv_has ls 7 [(0, .ref po), (1, .int (nI so)), (2, .ref im), (3, .int (nI q1))] := hl
  refine lv_iload_n hx hb d_Policy_learn_0 rfl (lv_at hl 1 rfl) ?_
  refine lv_bipush (v := 6) hx hb d_Policy_learn_1 (by decide) ?_
  refine lv_imul hx hb d_Policy_learn_3 ?_
  refine tw_ri (e2 := nI (so * 6)) (pk_mul so 6) ?_
  refine lv_aload_n hx hb d_Policy_learn_4 rfl (lv_at hl 0 rfl) ?_
  refine va_get (D := g.1) (ci := 6) (v := .ref p2) (C := R_Policy) (T := F_Policy) (N := 5) hx hb hts in_Policy hown hK hP 0 rfl rfl 2 (by decide) (hts _ wd_77) (fun _ h9 => h9) rfl d_Policy_learn_5 ?_
  refine lv_iload_n hx hb d_Policy_learn_8 rfl (lv_at hl 1 rfl) ?_
  refine va_iald hx hb hK hP 3 0 rfl rfl (vp_in_nI (by omega) (by decide)) d_Policy_learn_9 ?_
  refine tw_ri (e2 := nI c1) (by rw [nI_clamp (by omega)]; exact hc) ?_
  refine lv_iadd hx hb d_Policy_learn_10 ?_
  refine tw_ri (e2 := nI (so * 6 + c1)) (nI_add _ _) ?_
  refine lv_istore hx hb d_Policy_learn_11 hl (by decide) rfl (fun ls hl => ?_)
  have hl : lv_has ls 7 [(4, .int (nI (so * 6 + c1))), (0, .ref po), (1, .int (nI so)), (2, .ref im), (3, .int (nI q1))] := hl
  refine lv_aload_n hx hb d_Policy_learn_13 rfl (lv_at hl 3 rfl) ?_
  refine va_getN (D := g.1) (ci := 2) (v := .int (nI n)) (C := R_Image) (T := F_Image) (N := 2) hx hb hts in_Image hown hK hP 4 rfl rfl 1 (by decide) (hts _ wd_46) (fun _ h9 => h9) rfl d_Policy_learn_14 ?_
  refine lv_iload_n hx hb d_Policy_learn_17 rfl (lv_at hl 4 rfl) ?_
  refine lv_isub hx hb d_Policy_learn_18 ?_
  obtain ⟨x1, ex1⟩ : ∃ z : Int32, (nI n) - (nI q1) = z := ⟨_, rfl⟩
  refine tw_ri (e2 := x1) ex1 ?_
  refine lv_istore hx hb d_Policy_learn_19 hl (by decide) rfl (fun ls hl => ?_)
  have hl : lv_has ls 7 [(5, .int x1), (4, .int (nI (so * 6 + c1))), (0, .ref po), (1, .int (nI so)), (2, .ref im), (3, .int (nI q1))] := hl
  refine lv_iconst (v := 0) hx hb d_Policy_learn_21 (by decide) ?_
  refine lv_istore hx hb d_Policy_learn_22 hl (by decide) rfl (fun ls hl => ?_)
  have hl : lv_has ls 7 [(6, .int 0), (5, .int x1), (4, .int (nI (so * 6 + c1))), (0, .ref po), (1, .int (nI so)), (2, .ref im), (3, .int (nI q1))] := hl
  have loop24 : ∀ (kq : Nat) (i : Nat) (lt9 : Nat → Int32) (ls : Array Slot) (H : Heap) (locs : List Loc) , 40 - i = kq → (hi : i ≤ 40) → lv_has ls 7 [(6, .int (nI i)), (5, .int x1), (4, .int (nI (so * 6 + c1))), (0, .ref po), (1, .int (nI so)), (2, .ref im), (3, .int (nI q1))] → va_P g.1 classes [(po, .inr (6, [.ref p0, .ref p1, .ref p2, .int mm, .int mb])), (p0, aB g 480 lt9), (p1, aI g 12 ln), (p2, aI g 2 mn), (im, .inr (2, [.ref r, .int (nI n)])), (r, aB g 600 f)] H → va_D A [(po, .inr (6, [.ref p0, .ref p1, .ref p2, .int mm, .int mb])), (p0, aB g 480 lt9), (p1, aI g 12 ln), (p2, aI g 2 mn), (im, .inr (2, [.ref r, .int (nI n)])), (r, aB g 600 f)] → va_S A s.heap H locs → W p l e ({ frames := 1, cells := 0, slots := 0, locals := 21 }) s m [.ref po, .int (nI so), .ref im, .int (nI q1)].toArray below meth c H locs 0 0 (MQ below (tw_Qv g (fun _ => True) (fun u : Nat → Int32 => [(po, .inr (6, [.ref p0, .ref p1, .ref p2, .int mm, .int mb])), (p0, aB g 480 u), (p1, aI g 12 (upd ln (so * 6 + c1) (nI q1))), (p2, aI g 2 (upd mn so (nI (c1 + 1)))), (im, .inr (2, [.ref r, .int (nI n)])), (r, aB g 600 f)]) A) [.ref po, .int (nI so), .ref im, .int (nI q1)].toArray s 0 0 A) (F0 m 24 ls []) := by
    intro kq
    induction kq using Nat.strongRecOn with
    | _ kq ih =>
      intro i lt9 ls H locs hk hi hl hP hD hS
      refine lv_iload hx hb d_Policy_learn_24 (lv_at hl 0 rfl) ?_
      refine lv_iload_n hx hb d_Policy_learn_26 rfl (lv_at hl 6 rfl) ?_
      refine lv_icmp_ge (tgt := 66) hx hb d_Policy_learn_27 (by decide) (fun h27 => ?_) (fun h27 => ?_)
      · refine lv_aload_n hx hb d_Policy_learn_66 rfl (lv_at hl 3 rfl) ?_
        refine va_get (D := g.1) (ci := 6) (v := .ref p1) (C := R_Policy) (T := F_Policy) (N := 5) hx hb hts in_Policy hown hK hP 0 rfl rfl 1 (by decide) (hts _ wd_76) (fun _ h9 => h9) rfl d_Policy_learn_67 ?_
        refine lv_iload hx hb d_Policy_learn_70 (lv_at hl 2 rfl) ?_
        refine lv_iload_n hx hb d_Policy_learn_72 rfl (lv_at hl 6 rfl) ?_
        refine va_iast hx hb hK hP hD hS 2 0 rfl rfl (vp_in_nI (by omega) (by decide)) d_Policy_learn_73 (fun H locs hP hD hS => ?_)
        have hP : va_P g.1 classes [(po, .inr (6, [.ref p0, .ref p1, .ref p2, .int mm, .int mb])), (p0, aB g 480 lt9), (p1, aI g 12 (upd ln (nI (so * 6 + c1)).toNatClampNeg (nI q1))), (p2, aI g 2 mn), (im, .inr (2, [.ref r, .int (nI n)])), (r, aB g 600 f)] H := hP
        have hD : va_D A [(po, .inr (6, [.ref p0, .ref p1, .ref p2, .int mm, .int mb])), (p0, aB g 480 lt9), (p1, aI g 12 (upd ln (nI (so * 6 + c1)).toNatClampNeg (nI q1))), (p2, aI g 2 mn), (im, .inr (2, [.ref r, .int (nI n)])), (r, aB g 600 f)] := hD
        have e9 : upd ln (nI (so * 6 + c1)).toNatClampNeg (nI q1) = upd ln (so * 6 + c1) (nI q1) := by rw [nI_clamp (by omega)]
        rw [e9] at hP hD
        refine lv_aload_n hx hb d_Policy_learn_74 rfl (lv_at hl 3 rfl) ?_
        refine va_get (D := g.1) (ci := 6) (v := .ref p2) (C := R_Policy) (T := F_Policy) (N := 5) hx hb hts in_Policy hown hK hP 0 rfl rfl 2 (by decide) (hts _ wd_77) (fun _ h9 => h9) rfl d_Policy_learn_75 ?_
        refine lv_iload_n hx hb d_Policy_learn_78 rfl (lv_at hl 4 rfl) ?_
        refine lv_dup2_11 hx hb d_Policy_learn_79 rfl rfl ?_
        refine va_iald hx hb hK hP 3 0 rfl rfl (vp_in_nI (by omega) (by decide)) d_Policy_learn_80 ?_
        refine tw_ri (e2 := nI c1) (by rw [nI_clamp (by omega)]; exact hc) ?_
        refine lv_iconst (v := 1) hx hb d_Policy_learn_81 (by decide) ?_
        refine lv_iadd hx hb d_Policy_learn_82 ?_
        refine tw_ri (e2 := nI (c1 + 1)) ((nI_succ c1).symm) ?_
        refine va_iast hx hb hK hP hD hS 3 0 rfl rfl (vp_in_nI (by omega) (by decide)) d_Policy_learn_83 (fun H locs hP hD hS => ?_)
        have hP : va_P g.1 classes [(po, .inr (6, [.ref p0, .ref p1, .ref p2, .int mm, .int mb])), (p0, aB g 480 lt9), (p1, aI g 12 (upd ln (so * 6 + c1) (nI q1))), (p2, aI g 2 (upd mn (nI so).toNatClampNeg (nI (c1 + 1)))), (im, .inr (2, [.ref r, .int (nI n)])), (r, aB g 600 f)] H := hP
        have hD : va_D A [(po, .inr (6, [.ref p0, .ref p1, .ref p2, .int mm, .int mb])), (p0, aB g 480 lt9), (p1, aI g 12 (upd ln (so * 6 + c1) (nI q1))), (p2, aI g 2 (upd mn (nI so).toNatClampNeg (nI (c1 + 1)))), (im, .inr (2, [.ref r, .int (nI n)])), (r, aB g 600 f)] := hD
        have e9 : upd mn (nI so).toNatClampNeg (nI (c1 + 1)) = upd mn so (nI (c1 + 1)) := by rw [nI_clamp (by omega)]
        rw [e9] at hP hD
        exact tw_vret E hS lt9 trivial hP hD d_Policy_learn_84
      · refine lv_iload hx hb d_Policy_learn_30 (lv_at hl 0 rfl) ?_
        refine lv_bipush (v := 40) hx hb d_Policy_learn_32 (by decide) ?_
        refine lv_icmp_ge (tgt := 66) hx hb d_Policy_learn_34 (by decide) (fun h34 => ?_) (fun h34 => ?_)
        · refine lv_aload_n hx hb d_Policy_learn_66 rfl (lv_at hl 3 rfl) ?_
          refine va_get (D := g.1) (ci := 6) (v := .ref p1) (C := R_Policy) (T := F_Policy) (N := 5) hx hb hts in_Policy hown hK hP 0 rfl rfl 1 (by decide) (hts _ wd_76) (fun _ h9 => h9) rfl d_Policy_learn_67 ?_
          refine lv_iload hx hb d_Policy_learn_70 (lv_at hl 2 rfl) ?_
          refine lv_iload_n hx hb d_Policy_learn_72 rfl (lv_at hl 6 rfl) ?_
          refine va_iast hx hb hK hP hD hS 2 0 rfl rfl (vp_in_nI (by omega) (by decide)) d_Policy_learn_73 (fun H locs hP hD hS => ?_)
          have hP : va_P g.1 classes [(po, .inr (6, [.ref p0, .ref p1, .ref p2, .int mm, .int mb])), (p0, aB g 480 lt9), (p1, aI g 12 (upd ln (nI (so * 6 + c1)).toNatClampNeg (nI q1))), (p2, aI g 2 mn), (im, .inr (2, [.ref r, .int (nI n)])), (r, aB g 600 f)] H := hP
          have hD : va_D A [(po, .inr (6, [.ref p0, .ref p1, .ref p2, .int mm, .int mb])), (p0, aB g 480 lt9), (p1, aI g 12 (upd ln (nI (so * 6 + c1)).toNatClampNeg (nI q1))), (p2, aI g 2 mn), (im, .inr (2, [.ref r, .int (nI n)])), (r, aB g 600 f)] := hD
          have e9 : upd ln (nI (so * 6 + c1)).toNatClampNeg (nI q1) = upd ln (so * 6 + c1) (nI q1) := by rw [nI_clamp (by omega)]
          rw [e9] at hP hD
          refine lv_aload_n hx hb d_Policy_learn_74 rfl (lv_at hl 3 rfl) ?_
          refine va_get (D := g.1) (ci := 6) (v := .ref p2) (C := R_Policy) (T := F_Policy) (N := 5) hx hb hts in_Policy hown hK hP 0 rfl rfl 2 (by decide) (hts _ wd_77) (fun _ h9 => h9) rfl d_Policy_learn_75 ?_
          refine lv_iload_n hx hb d_Policy_learn_78 rfl (lv_at hl 4 rfl) ?_
          refine lv_dup2_11 hx hb d_Policy_learn_79 rfl rfl ?_
          refine va_iald hx hb hK hP 3 0 rfl rfl (vp_in_nI (by omega) (by decide)) d_Policy_learn_80 ?_
          refine tw_ri (e2 := nI c1) (by rw [nI_clamp (by omega)]; exact hc) ?_
          refine lv_iconst (v := 1) hx hb d_Policy_learn_81 (by decide) ?_
          refine lv_iadd hx hb d_Policy_learn_82 ?_
          refine tw_ri (e2 := nI (c1 + 1)) ((nI_succ c1).symm) ?_
          refine va_iast hx hb hK hP hD hS 3 0 rfl rfl (vp_in_nI (by omega) (by decide)) d_Policy_learn_83 (fun H locs hP hD hS => ?_)
          have hP : va_P g.1 classes [(po, .inr (6, [.ref p0, .ref p1, .ref p2, .int mm, .int mb])), (p0, aB g 480 lt9), (p1, aI g 12 (upd ln (so * 6 + c1) (nI q1))), (p2, aI g 2 (upd mn (nI so).toNatClampNeg (nI (c1 + 1)))), (im, .inr (2, [.ref r, .int (nI n)])), (r, aB g 600 f)] H := hP
          have hD : va_D A [(po, .inr (6, [.ref p0, .ref p1, .ref p2, .int mm, .int mb])), (p0, aB g 480 lt9), (p1, aI g 12 (upd ln (so * 6 + c1) (nI q1))), (p2, aI g 2 (upd mn (nI so).toNatClampNeg (nI (c1 + 1)))), (im, .inr (2, [.ref r, .int (nI n)])), (r, aB g 600 f)] := hD
          have e9 : upd mn (nI so).toNatClampNeg (nI (c1 + 1)) = upd mn so (nI (c1 + 1)) := by rw [nI_clamp (by omega)]
          rw [e9] at hP hD
          exact tw_vret E hS lt9 trivial hP hD d_Policy_learn_84
        · have h34 := tn_nle (a := 40) h34 (by decide) (by omega)
          refine lv_aload_n hx hb d_Policy_learn_37 rfl (lv_at hl 3 rfl) ?_
          refine va_get (D := g.1) (ci := 6) (v := .ref p0) (C := R_Policy) (T := F_Policy) (N := 5) hx hb hts in_Policy hown hK hP 0 rfl rfl 0 (by decide) (hts _ wd_75) (fun _ h9 => h9) rfl d_Policy_learn_38 ?_
          refine lv_iload hx hb d_Policy_learn_41 (lv_at hl 2 rfl) ?_
          refine lv_bipush (v := 40) hx hb d_Policy_learn_43 (by decide) ?_
          refine lv_imul hx hb d_Policy_learn_45 ?_
          refine tw_ri (e2 := nI ((so * 6 + c1) * 40)) (pk_mul _ 40) ?_
          refine lv_iload hx hb d_Policy_learn_46 (lv_at hl 0 rfl) ?_
          refine lv_iadd hx hb d_Policy_learn_48 ?_
          refine tw_ri (e2 := nI ((so * 6 + c1) * 40 + i)) (nI_add _ _) ?_
          refine lv_aload_n hx hb d_Policy_learn_49 rfl (lv_at hl 5 rfl) ?_
          refine lv_iload hx hb d_Policy_learn_50 (lv_at hl 1 rfl) ?_
          refine lv_iload hx hb d_Policy_learn_52 (lv_at hl 0 rfl) ?_
          refine lv_iadd hx hb d_Policy_learn_54 ?_
          obtain ⟨x2, ex2⟩ : ∃ z : Int32, x1 + (nI i) = z := ⟨_, rfl⟩
          refine tw_ri (e2 := x2) ex2 ?_
          refine tw_si (tw_runV (ws := [(po, .inr (6, [.ref p0, .ref p1, .ref p2, .int mm, .int mb])), (p0, aB g 480 lt9), (p1, aI g 12 ln), (p2, aI g 2 mn), (im, .inr (2, [.ref r, .int (nI n)])), (r, aB g 600 f)]) (wc := [(im, .inr (2, [.ref r, .int (nI n)])), (r, aB g 600 f)]) (As := [.int x2]) (rest := [.int (nI ((so * 6 + c1) * 40 + i)), .ref p0]) E hB hK hZ (c_Image_oneAt l g H.size im r n f x2 hn) mc_Image_oneAt mi_Image_oneAt me_Image_oneAt wd_663 hP hD hS hA [4, 5] rfl (by decide) 0 rfl rfl rfl rfl rfl (by decide) rfl hl.1 rfl (Nat.le_of_ble_eq_true rfl) (by decide) d_Policy_learn_55) (fun r3 hr3 => ?_)
          refine lv_i2b (v := r3.toInt8.toInt32) hx hb d_Policy_learn_58 rfl ?_
          refine va_bast hx hb hK hP hD hS 1 1 rfl rfl (vp_in_nI (by omega) (by decide)) d_Policy_learn_59 (fun H locs hP hD hS => ?_)
          have hP : va_P g.1 classes [(po, .inr (6, [.ref p0, .ref p1, .ref p2, .int mm, .int mb])), (p0, aB g 480 (upd lt9 (nI ((so * 6 + c1) * 40 + i)).toNatClampNeg (vp_nar .byte r3.toInt8.toInt32))), (p1, aI g 12 ln), (p2, aI g 2 mn), (im, .inr (2, [.ref r, .int (nI n)])), (r, aB g 600 f)] H := hP
          have hD : va_D A [(po, .inr (6, [.ref p0, .ref p1, .ref p2, .int mm, .int mb])), (p0, aB g 480 (upd lt9 (nI ((so * 6 + c1) * 40 + i)).toNatClampNeg (vp_nar .byte r3.toInt8.toInt32))), (p1, aI g 12 ln), (p2, aI g 2 mn), (im, .inr (2, [.ref r, .int (nI n)])), (r, aB g 600 f)] := hD
          refine lv_iinc (k := 0) (v := nI (i + 1)) hx hb d_Policy_learn_60 hl rfl ((nI_succ i).symm) (by decide) rfl (fun ls hl => ?_)
          have hl : lv_has ls 7 [(6, .int (nI (i + 1))), (5, .int x1), (4, .int (nI (so * 6 + c1))), (0, .ref po), (1, .int (nI so)), (2, .ref im), (3, .int (nI q1))] := hl
          refine lv_goto (tgt := 24) hx hb d_Policy_learn_63 (by decide) ?_
          have hP : va_P g.1 classes [(po, .inr (6, [.ref p0, .ref p1, .ref p2, .int mm, .int mb])), (p0, aB g 480 (upd lt9 (nI ((so * 6 + c1) * 40 + i)).toNatClampNeg (vp_nar .byte r3.toInt8.toInt32))), (p1, aI g 12 ln), (p2, aI g 2 mn), (im, .inr (2, [.ref r, .int (nI n)])), (r, aB g 600 f)] H := hP.sub [0, 1, 2, 3, 4, 5] rfl
          have hD : va_D A [(po, .inr (6, [.ref p0, .ref p1, .ref p2, .int mm, .int mb])), (p0, aB g 480 (upd lt9 (nI ((so * 6 + c1) * 40 + i)).toNatClampNeg (vp_nar .byte r3.toInt8.toInt32))), (p1, aI g 12 ln), (p2, aI g 2 mn), (im, .inr (2, [.ref r, .int (nI n)])), (r, aB g 600 f)] := hD.sub [0, 1, 2, 3, 4, 5] (by decide) rfl
          exact ih _ (by omega) (i + 1) (upd lt9 (nI ((so * 6 + c1) * 40 + i)).toNatClampNeg (vp_nar .byte r3.toInt8.toInt32)) ls _ _ rfl (by omega) (lv_sub hl [0, 1, 2, 3, 4, 5, 6] rfl) hP hD hS
  exact loop24 _ 0 lt ls _ _ rfl (Nat.zero_le _) (hl) hP hD hS
