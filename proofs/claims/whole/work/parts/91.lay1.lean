set_option maxHeartbeats 4000000 in
set_option maxRecDepth 100000 in
theorem s_Frames_setKindX (l : Launch) (g : tw_G) (sz : Nat) (a N : Nat) (f : Nat → Int64) (bs sn : Nat) (k : Int32) (hsn : sn < 128) (hbs : bs + sn / 16 < N) (hN : N ≤ 4800) : Met l y_Frames_setKindIn [.code y_Frames_setKindIn b_Frames_setKindIn 6 none] ({ frames := 0, cells := 0, slots := 0, locals := 0 }) (tw_P g [.ref a, .int (nI bs), .int (nI sn), .int k] [(a, aJ g N f)] sz) (tw_Qv g (fun u => ∀ j, j ≠ bs + sn / 16 → u j = f j) (fun u : Nat → Int64 => [(a, aJ g N u)]) (va_A [(a, aJ g N f)] sz)) 0 0 (va_A [(a, aJ g N f)] sz) := by
  refine tw_metW (l := l) (g := g) (y := y_Frames_setKindIn) (cc := b_Frames_setKindIn) (maxL := 6) (ret := none) (rm := { frames := 0, cells := 0, slots := 0, locals := 0 }) (mc := 0) (ms := 0) (av := [.ref a, .int (nI bs), .int (nI sn), .int k]) (ws := [(a, aJ g N f)]) (sz := sz) (Qc := fun A => (tw_Qv g (fun u => ∀ j, j ≠ bs + sn / 16 → u j = f j) (fun u : Nat → Int64 => [(a, aJ g N u)]) A)) (by decide) (Nat.le_of_ble_eq_true rfl) ?_
  intro p e s m below meth c ls H A E hB hK hZ hP hD hS hA hl
  obtain ⟨hx, hb, hml, hr, hown, hts, hlocks, hin⟩ := id E
  have hl : lv_has ls 6 [(0, .ref a), (1, .int (nI bs)), (2, .int (nI sn)), (3, .int k)] := hl
  refine lv_iload_n hx hb d_Frames_setKindIn_0 rfl (lv_at hl 2 rfl) ?_
  refine lv_bipush (v := 15) hx hb d_Frames_setKindIn_1 (by decide) ?_
  refine lv_iand hx hb d_Frames_setKindIn_3 ?_
  refine tw_ri (e2 := nI (sn % 16)) (pk_andN (by omega) 4 (by decide)) ?_
  refine lv_iconst (v := 2) hx hb d_Frames_setKindIn_4 (by decide) ?_
  refine lv_ishl hx hb d_Frames_setKindIn_5 ?_
  refine tw_ri (e2 := nI (sn % 16 * 4)) (pk_shlN (2 &&& 31) 2 (by decide) (by omega)) ?_
  refine lv_istore hx hb d_Frames_setKindIn_6 hl (by decide) rfl (fun ls hl => ?_)
  have hl : lv_has ls 6 [(4, .int (nI (sn % 16 * 4))), (0, .ref a), (1, .int (nI bs)), (2, .int (nI sn)), (3, .int k)] := hl
  refine lv_iload_n hx hb d_Frames_setKindIn_8 rfl (lv_at hl 2 rfl) ?_
  refine lv_iload_n hx hb d_Frames_setKindIn_9 rfl (lv_at hl 3 rfl) ?_
  refine lv_iconst (v := 4) hx hb d_Frames_setKindIn_10 (by decide) ?_
  refine lv_ishr hx hb d_Frames_setKindIn_11 ?_
  refine tw_ri (e2 := nI (sn / 16)) (sf_sh4 (by omega)) ?_
  refine lv_iadd hx hb d_Frames_setKindIn_12 ?_
  refine tw_ri (e2 := nI (bs + sn / 16)) (nI_add _ _) ?_
  refine lv_istore hx hb d_Frames_setKindIn_13 hl (by decide) rfl (fun ls hl => ?_)
  have hl : lv_has ls 6 [(5, .int (nI (bs + sn / 16))), (4, .int (nI (sn % 16 * 4))), (0, .ref a), (1, .int (nI bs)), (2, .int (nI sn)), (3, .int k)] := hl
  refine lv_aload_n hx hb d_Frames_setKindIn_15 rfl (lv_at hl 2 rfl) ?_
  refine lv_iload hx hb d_Frames_setKindIn_16 (lv_at hl 0 rfl) ?_
  refine lv_aload_n hx hb d_Frames_setKindIn_18 rfl (lv_at hl 2 rfl) ?_
  refine lv_iload hx hb d_Frames_setKindIn_19 (lv_at hl 0 rfl) ?_
  refine va_lald hx hb hK hP 0 2 rfl rfl (vp_in_nI hbs (by omega)) d_Frames_setKindIn_21 ?_
  refine tw_rl (e2 := f (bs + sn / 16)) (by rw [nI_clamp (by omega)]) ?_
  refine lv_ldc2 (v := 15) hx hb hown (hts _ wd_797) d_Frames_setKindIn_22 ?_
  refine lv_iload hx hb d_Frames_setKindIn_25 (lv_at hl 1 rfl) ?_
  refine lv_lshl (v := (15 : Int64) <<< ((nI (sn % 16 * 4)).toInt64 &&& 63)) hx hb d_Frames_setKindIn_27 rfl ?_
  refine lv_ldc2 (v := -1) hx hb hown (hts _ wd_798) d_Frames_setKindIn_28 ?_
  refine lv_lxor hx hb d_Frames_setKindIn_31 ?_
  obtain ⟨x1, ex1⟩ : ∃ z : Int64, ((15 : Int64) <<< ((nI (sn % 16 * 4)).toInt64 &&& 63)) ^^^ (-1 : Int64) = z := ⟨_, rfl⟩
  refine tw_rl (e2 := x1) ex1 ?_
  refine lv_land hx hb d_Frames_setKindIn_32 ?_
  obtain ⟨x2, ex2⟩ : ∃ z : Int64, (f (bs + sn / 16)) &&& x1 = z := ⟨_, rfl⟩
  refine tw_rl (e2 := x2) ex2 ?_
  refine lv_iload_n hx hb d_Frames_setKindIn_33 rfl (lv_at hl 5 rfl) ?_
  refine lv_i2l (v := k.toInt64) hx hb d_Frames_setKindIn_34 rfl ?_
  refine lv_iload hx hb d_Frames_setKindIn_35 (lv_at hl 1 rfl) ?_
  refine lv_lshl (v := k.toInt64 <<< ((nI (sn % 16 * 4)).toInt64 &&& 63)) hx hb d_Frames_setKindIn_37 rfl ?_
  refine lv_lor hx hb d_Frames_setKindIn_38 ?_
  obtain ⟨x3, ex3⟩ : ∃ z : Int64, x2 ||| (k.toInt64 <<< ((nI (sn % 16 * 4)).toInt64 &&& 63)) = z := ⟨_, rfl⟩
  refine tw_rl (e2 := x3) ex3 ?_
  refine va_last hx hb hK hP hD hS 0 2 rfl rfl (vp_in_nI hbs (by omega)) d_Frames_setKindIn_39 (fun H locs hP hD hS => ?_)
  have hP : va_P g.1 classes [(a, aJ g N (vp_updL f (nI (bs + sn / 16)).toNatClampNeg x3))] H := hP
  have hD : va_D A [(a, aJ g N (vp_updL f (nI (bs + sn / 16)).toNatClampNeg x3))] := hD
  have e9 : vp_updL f (nI (bs + sn / 16)).toNatClampNeg x3 = vp_updL f (bs + sn / 16) x3 := by rw [nI_clamp (by omega)]
  rw [e9] at hP hD
  exact tw_vret E hS (vp_updL f (bs + sn / 16) x3) (fun j hj => if_neg hj) hP hD d_Frames_setKindIn_40
set_option maxHeartbeats 4000000 in
set_option maxRecDepth 100000 in
theorem s_Frames_lay (l : Launch) (g : tw_G) (sz : Nat) (mh s0 l0 t0 : Nat) (lay : Value) (ra : Nat) (de : Nat) (ms : Nat) (ml : Nat) (mt : Nat) (an : Int32) (oa : Int32) (wd : Int32) (sk : Nat → Int32) (lc : Nat → Int32) (lt : Nat → Int32) (rf : Nat → Int64) (hr0 : ¬ rf 0 &&& 15 = 3) (hM : MI de ms ml mt wd sk) : Met l y_Frames_lay [.code y_Frames_lay b_Frames_lay 3 none] ({ frames := 1, cells := 0, slots := 0, locals := 25 }) (tw_P g [.ref mh, .ref ra] [(mh, .inr (5, [.ref s0, .ref l0, .ref t0, lay, .int (nI de), .int (nI ms), .int (nI ml), .int (nI mt), .int an, .int oa, .int wd])), (s0, aI g 64 sk), (l0, aI g 64 lc), (t0, aI g 600 lt), (ra, aJ g 8 rf)] sz) (tw_Qv g (fun (u : (Nat → Int64)) => ¬ u 0 &&& 15 = 3) (fun u : (Nat → Int64) => [(mh, .inr (5, [.ref s0, .ref l0, .ref t0, lay, .int (nI de), .int (nI ms), .int (nI ml), .int (nI mt), .int an, .int oa, .int wd])), (s0, aI g 64 sk), (l0, aI g 64 lc), (t0, aI g 600 lt), (ra, aJ g 8 u)]) (va_A [(mh, .inr (5, [.ref s0, .ref l0, .ref t0, lay, .int (nI de), .int (nI ms), .int (nI ml), .int (nI mt), .int an, .int oa, .int wd])), (s0, aI g 64 sk), (l0, aI g 64 lc), (t0, aI g 600 lt), (ra, aJ g 8 rf)] sz)) 0 0 (va_A [(mh, .inr (5, [.ref s0, .ref l0, .ref t0, lay, .int (nI de), .int (nI ms), .int (nI ml), .int (nI mt), .int an, .int oa, .int wd])), (s0, aI g 64 sk), (l0, aI g 64 lc), (t0, aI g 600 lt), (ra, aJ g 8 rf)] sz) := by
  refine tw_metW (l := l) (g := g) (y := y_Frames_lay) (cc := b_Frames_lay) (maxL := 3) (ret := none) (rm := { frames := 1, cells := 0, slots := 0, locals := 25 }) (mc := 0) (ms := 0) (av := [.ref mh, .ref ra]) (ws := [(mh, .inr (5, [.ref s0, .ref l0, .ref t0, lay, .int (nI de), .int (nI ms), .int (nI ml), .int (nI mt), .int an, .int oa, .int wd])), (s0, aI g 64 sk), (l0, aI g 64 lc), (t0, aI g 600 lt), (ra, aJ g 8 rf)]) (sz := sz) (Qc := fun A => (tw_Qv g (fun (u : (Nat → Int64)) => ¬ u 0 &&& 15 = 3) (fun u : (Nat → Int64) => [(mh, .inr (5, [.ref s0, .ref l0, .ref t0, lay, .int (nI de), .int (nI ms), .int (nI ml), .int (nI mt), .int an, .int oa, .int wd])), (s0, aI g 64 sk), (l0, aI g 64 lc), (t0, aI g 600 lt), (ra, aJ g 8 u)]) A)) (by decide) (Nat.le_of_ble_eq_true rfl) ?_
  intro p e s m below meth c ls H A E hB hK hZ hP hD hS hA hl
  obtain ⟨hx, hb, hml, hr, hown, hts, hlocks, hin⟩ := id E
  have hl : lv_has ls 3 [(0, .ref mh), (1, .ref ra)] := hl
  refine lv_aload_n hx hb d_Frames_lay_0 rfl (lv_at hl 1 rfl) ?_
  refine lv_lconst (v := 0) hx hb d_Frames_lay_1 (by decide) ?_
  refine tw_wv (wr := [(mh, .inr (5, [.ref s0, .ref l0, .ref t0, lay, .int (nI de), .int (nI ms), .int (nI ml), .int (nI mt), .int an, .int oa, .int wd])), (s0, aI g 64 sk), (l0, aI g 64 lc), (t0, aI g 600 lt)]) (tw_runS (ws := [(mh, .inr (5, [.ref s0, .ref l0, .ref t0, lay, .int (nI de), .int (nI ms), .int (nI ml), .int (nI mt), .int an, .int oa, .int wd])), (s0, aI g 64 sk), (l0, aI g 64 lc), (t0, aI g 600 lt), (ra, aJ g 8 rf)]) (wc := [(ra, aJ g 8 rf)]) (As := [.ref ra, .long 0]) (rest := []) E hB hK hZ (c_fillJ l g H.size ra 8 rf 0 (by decide)) mc_Arrays_fill_aJJV ms_Arrays_fill_aJJV wd_791 hP hD hS hA [4] rfl (by decide) rfl rfl (by decide) rfl hl.1 rfl (Nat.le_of_ble_eq_true rfl) (by decide) d_Frames_lay_2) hP hD hS hA [4] [0, 1, 2, 3] rfl rfl (by decide) (by decide) (fun u2 H locs hr1 hP hD hS => ?_)
  try dsimp only at hr1
  have hP : va_P g.1 classes [(mh, .inr (5, [.ref s0, .ref l0, .ref t0, lay, .int (nI de), .int (nI ms), .int (nI ml), .int (nI mt), .int an, .int oa, .int wd])), (s0, aI g 64 sk), (l0, aI g 64 lc), (t0, aI g 600 lt), (ra, aJ g 8 u2)] H := hP
  have hD : va_D A [(mh, .inr (5, [.ref s0, .ref l0, .ref t0, lay, .int (nI de), .int (nI ms), .int (nI ml), .int (nI mt), .int an, .int oa, .int wd])), (s0, aI g 64 sk), (l0, aI g 64 lc), (t0, aI g 600 lt), (ra, aJ g 8 u2)] := hD
  have hP : va_P g.1 classes [(mh, .inr (5, [.ref s0, .ref l0, .ref t0, lay, .int (nI de), .int (nI ms), .int (nI ml), .int (nI mt), .int an, .int oa, .int wd])), (s0, aI g 64 sk), (l0, aI g 64 lc), (t0, aI g 600 lt), (ra, aJ g 8 u2)] H := hP.sub [0, 1, 2, 3, 4] rfl
  have hD : va_D A [(mh, .inr (5, [.ref s0, .ref l0, .ref t0, lay, .int (nI de), .int (nI ms), .int (nI ml), .int (nI mt), .int an, .int oa, .int wd])), (s0, aI g 64 sk), (l0, aI g 64 lc), (t0, aI g 600 lt), (ra, aJ g 8 u2)] := hD.sub [0, 1, 2, 3, 4] (by decide) rfl
  have hf0 := sf_z0 hr1
  refine lv_iconst (v := 0) hx hb d_Frames_lay_5 (by decide) ?_
  refine lv_istore_n hx hb d_Frames_lay_6 rfl hl (by decide) rfl (fun ls hl => ?_)
  have hl : lv_has ls 3 [(2, .int 0), (0, .ref mh), (1, .ref ra)] := hl
  have loop7 : ∀ (kq : Nat) (i : Nat) (f9 : Nat → Int64) (ls : Array Slot) (H : Heap) (locs : List Loc) , de - i = kq → (hji : i ≤ de) → (hf9 : ¬ f9 0 &&& 15 = 3) → lv_has ls 3 [(2, .int (nI i)), (0, .ref mh), (1, .ref ra)] → va_P g.1 classes [(mh, .inr (5, [.ref s0, .ref l0, .ref t0, lay, .int (nI de), .int (nI ms), .int (nI ml), .int (nI mt), .int an, .int oa, .int wd])), (s0, aI g 64 sk), (l0, aI g 64 lc), (t0, aI g 600 lt), (ra, aJ g 8 f9)] H → va_D A [(mh, .inr (5, [.ref s0, .ref l0, .ref t0, lay, .int (nI de), .int (nI ms), .int (nI ml), .int (nI mt), .int an, .int oa, .int wd])), (s0, aI g 64 sk), (l0, aI g 64 lc), (t0, aI g 600 lt), (ra, aJ g 8 f9)] → va_S A s.heap H locs → W p l e ({ frames := 1, cells := 0, slots := 0, locals := 25 }) s m [.ref mh, .ref ra].toArray below meth c H locs 0 0 (MQ below (tw_Qv g (fun (u : (Nat → Int64)) => ¬ u 0 &&& 15 = 3) (fun u : (Nat → Int64) => [(mh, .inr (5, [.ref s0, .ref l0, .ref t0, lay, .int (nI de), .int (nI ms), .int (nI ml), .int (nI mt), .int an, .int oa, .int wd])), (s0, aI g 64 sk), (l0, aI g 64 lc), (t0, aI g 600 lt), (ra, aJ g 8 u)]) A) [.ref mh, .ref ra].toArray s 0 0 A) (F0 m 7 ls []) := by
    intro kq
    induction kq using Nat.strongRecOn with
    | _ kq ih =>
      intro i f9 ls H locs hk hji hf9 hl hP hD hS
      refine lv_iload_n hx hb d_Frames_lay_7 rfl (lv_at hl 0 rfl) ?_
      refine lv_aload_n hx hb d_Frames_lay_8 rfl (lv_at hl 1 rfl) ?_
      refine va_getN (D := g.1) (ci := 5) (v := .int (nI de)) (C := R_Machine) (T := F_Machine) (N := 11) hx hb hts in_Machine hown hK hP 0 rfl rfl 4 (by decide) (hts _ wd_150) (fun _ h9 => h9) rfl d_Frames_lay_9 ?_
      refine lv_icmp_ge (tgt := 33) hx hb d_Frames_lay_12 (by decide) (fun h12 => ?_) (fun h12 => ?_)
      · refine lv_iconst (v := 0) hx hb d_Frames_lay_33 (by decide) ?_
        refine lv_istore_n hx hb d_Frames_lay_34 rfl hl (by decide) rfl (fun ls hl => ?_)
        have hl : lv_has ls 3 [(2, .int 0), (0, .ref mh), (1, .ref ra)] := hl
        have loop35 : ∀ (kq : Nat) (j : Nat) (f8 : Nat → Int64) (ls : Array Slot) (H : Heap) (locs : List Loc) , ml - j = kq → (hjj : j ≤ ml) → (hf8 : ¬ f8 0 &&& 15 = 3) → lv_has ls 3 [(2, .int (nI j)), (0, .ref mh), (1, .ref ra)] → va_P g.1 classes [(mh, .inr (5, [.ref s0, .ref l0, .ref t0, lay, .int (nI de), .int (nI ms), .int (nI ml), .int (nI mt), .int an, .int oa, .int wd])), (s0, aI g 64 sk), (l0, aI g 64 lc), (t0, aI g 600 lt), (ra, aJ g 8 f8)] H → va_D A [(mh, .inr (5, [.ref s0, .ref l0, .ref t0, lay, .int (nI de), .int (nI ms), .int (nI ml), .int (nI mt), .int an, .int oa, .int wd])), (s0, aI g 64 sk), (l0, aI g 64 lc), (t0, aI g 600 lt), (ra, aJ g 8 f8)] → va_S A s.heap H locs → W p l e ({ frames := 1, cells := 0, slots := 0, locals := 25 }) s m [.ref mh, .ref ra].toArray below meth c H locs 0 0 (MQ below (tw_Qv g (fun (u : (Nat → Int64)) => ¬ u 0 &&& 15 = 3) (fun u : (Nat → Int64) => [(mh, .inr (5, [.ref s0, .ref l0, .ref t0, lay, .int (nI de), .int (nI ms), .int (nI ml), .int (nI mt), .int an, .int oa, .int wd])), (s0, aI g 64 sk), (l0, aI g 64 lc), (t0, aI g 600 lt), (ra, aJ g 8 u)]) A) [.ref mh, .ref ra].toArray s 0 0 A) (F0 m 35 ls []) := by
          intro kq
          induction kq using Nat.strongRecOn with
          | _ kq ih35 =>
            intro j f8 ls H locs hk35 hjj hf8 hl hP hD hS
            refine lv_iload_n hx hb d_Frames_lay_35 rfl (lv_at hl 0 rfl) ?_
            refine lv_aload_n hx hb d_Frames_lay_36 rfl (lv_at hl 1 rfl) ?_
            refine va_getN (D := g.1) (ci := 5) (v := .int (nI ml)) (C := R_Machine) (T := F_Machine) (N := 11) hx hb hts in_Machine hown hK hP 0 rfl rfl 6 (by decide) (hts _ wd_154) (fun _ h9 => h9) rfl d_Frames_lay_37 ?_
            refine lv_icmp_ge (tgt := 64) hx hb d_Frames_lay_40 (by decide) (fun h40 => ?_) (fun h40 => ?_)
            · exact tw_vret E hS f8 hf8 hP hD d_Frames_lay_64
            · have h40 := tn_nle h40 (by have := hM.ml; omega) (by have := hM.ml; omega)
              have hml6 := hM.ml
              refine lv_aload_n hx hb d_Frames_lay_43 rfl (lv_at hl 2 rfl) ?_
              refine lv_iconst (v := 0) hx hb d_Frames_lay_44 (by decide) ?_
              refine lv_bipush (v := 64) hx hb d_Frames_lay_45 (by decide) ?_
              refine lv_iload_n hx hb d_Frames_lay_47 rfl (lv_at hl 0 rfl) ?_
              refine lv_iadd hx hb d_Frames_lay_48 ?_
              refine tw_ri (e2 := nI (64 + j)) (nI_add 64 j) ?_
              refine lv_aload_n hx hb d_Frames_lay_49 rfl (lv_at hl 1 rfl) ?_
              refine va_getN (D := g.1) (ci := 5) (v := .ref l0) (C := R_Machine) (T := F_Machine) (N := 11) hx hb hts in_Machine hown hK hP 0 rfl rfl 1 (by decide) (hts _ wd_145) (fun _ h9 => h9) rfl d_Frames_lay_50 ?_
              refine lv_iload_n hx hb d_Frames_lay_53 rfl (lv_at hl 0 rfl) ?_
              refine va_iald hx hb hK hP 2 0 rfl rfl (vp_in_nI (by have := hM.ml; omega) (by decide)) d_Frames_lay_54 ?_
              obtain ⟨x3, ex3⟩ : ∃ z : Int32, lc ((nI j).toNatClampNeg) = z := ⟨_, rfl⟩
              refine tw_ri (e2 := x3) ex3 ?_
              refine tw_wv (wr := [(mh, .inr (5, [.ref s0, .ref l0, .ref t0, lay, .int (nI de), .int (nI ms), .int (nI ml), .int (nI mt), .int an, .int oa, .int wd])), (s0, aI g 64 sk), (l0, aI g 64 lc), (t0, aI g 600 lt)]) (tw_runS (ws := [(mh, .inr (5, [.ref s0, .ref l0, .ref t0, lay, .int (nI de), .int (nI ms), .int (nI ml), .int (nI mt), .int an, .int oa, .int wd])), (s0, aI g 64 sk), (l0, aI g 64 lc), (t0, aI g 600 lt), (ra, aJ g 8 f8)]) (wc := [(ra, aJ g 8 f8)]) (As := [.ref ra, .int 0, .int (nI (64 + j)), .int x3]) (rest := []) E hB hK hZ (s_Frames_setKindX l g H.size ra 8 f8 0 (64 + j) x3 (by omega) (by omega) (by decide)) mc_Frames_setKindIn ms_Frames_setKindIn wd_794 hP hD hS hA [4] rfl (by decide) rfl rfl (by decide) rfl hl.1 rfl (Nat.le_of_ble_eq_true rfl) (by decide) d_Frames_lay_55) hP hD hS hA [4] [0, 1, 2, 3] rfl rfl (by decide) (by decide) (fun u5 H locs hr4 hP hD hS => ?_)
              try dsimp only at hr4
              have hP : va_P g.1 classes [(mh, .inr (5, [.ref s0, .ref l0, .ref t0, lay, .int (nI de), .int (nI ms), .int (nI ml), .int (nI mt), .int an, .int oa, .int wd])), (s0, aI g 64 sk), (l0, aI g 64 lc), (t0, aI g 600 lt), (ra, aJ g 8 u5)] H := hP
              have hD : va_D A [(mh, .inr (5, [.ref s0, .ref l0, .ref t0, lay, .int (nI de), .int (nI ms), .int (nI ml), .int (nI mt), .int an, .int oa, .int wd])), (s0, aI g 64 sk), (l0, aI g 64 lc), (t0, aI g 600 lt), (ra, aJ g 8 u5)] := hD
              have hP : va_P g.1 classes [(mh, .inr (5, [.ref s0, .ref l0, .ref t0, lay, .int (nI de), .int (nI ms), .int (nI ml), .int (nI mt), .int an, .int oa, .int wd])), (s0, aI g 64 sk), (l0, aI g 64 lc), (t0, aI g 600 lt), (ra, aJ g 8 u5)] H := hP.sub [0, 1, 2, 3, 4] rfl
              have hD : va_D A [(mh, .inr (5, [.ref s0, .ref l0, .ref t0, lay, .int (nI de), .int (nI ms), .int (nI ml), .int (nI mt), .int an, .int oa, .int wd])), (s0, aI g 64 sk), (l0, aI g 64 lc), (t0, aI g 600 lt), (ra, aJ g 8 u5)] := hD.sub [0, 1, 2, 3, 4] (by decide) rfl
              have hg55 : ¬ u5 0 &&& 15 = 3 := by rw [hr4 0 (by omega)]; exact hf8
              refine lv_iinc (k := 0) (v := nI (j + 1)) hx hb d_Frames_lay_58 hl rfl ((nI_succ j).symm) (by decide) rfl (fun ls hl => ?_)
              have hl : lv_has ls 3 [(2, .int (nI (j + 1))), (0, .ref mh), (1, .ref ra)] := hl
              refine lv_goto (tgt := 35) hx hb d_Frames_lay_61 (by decide) ?_
              have hP : va_P g.1 classes [(mh, .inr (5, [.ref s0, .ref l0, .ref t0, lay, .int (nI de), .int (nI ms), .int (nI ml), .int (nI mt), .int an, .int oa, .int wd])), (s0, aI g 64 sk), (l0, aI g 64 lc), (t0, aI g 600 lt), (ra, aJ g 8 u5)] H := hP.sub [0, 1, 2, 3, 4] rfl
              have hD : va_D A [(mh, .inr (5, [.ref s0, .ref l0, .ref t0, lay, .int (nI de), .int (nI ms), .int (nI ml), .int (nI mt), .int an, .int oa, .int wd])), (s0, aI g 64 sk), (l0, aI g 64 lc), (t0, aI g 600 lt), (ra, aJ g 8 u5)] := hD.sub [0, 1, 2, 3, 4] (by decide) rfl
              exact ih35 _ (by omega) (j + 1) u5 ls _ _ rfl (by omega) hg55 (lv_sub hl [0, 1, 2] rfl) hP hD hS
        exact loop35 _ 0 f9 ls _ _ rfl (Nat.zero_le _) hf9 (hl) hP hD hS
      · have h12 := tn_nle h12 (by have := hM.de; omega) (by have := hM.de; omega)
        have hde := hM.de
        obtain ⟨kd, hkd, ek, hk0⟩ := hM.kind (i := i) (by omega)
        refine lv_aload_n hx hb d_Frames_lay_15 rfl (lv_at hl 2 rfl) ?_
        refine lv_iconst (v := 0) hx hb d_Frames_lay_16 (by decide) ?_
        refine lv_iload_n hx hb d_Frames_lay_17 rfl (lv_at hl 0 rfl) ?_
        refine lv_aload_n hx hb d_Frames_lay_18 rfl (lv_at hl 1 rfl) ?_
        refine va_getN (D := g.1) (ci := 5) (v := .ref s0) (C := R_Machine) (T := F_Machine) (N := 11) hx hb hts in_Machine hown hK hP 0 rfl rfl 0 (by decide) (hts _ wd_143) (fun _ h9 => h9) rfl d_Frames_lay_19 ?_
        refine lv_iload_n hx hb d_Frames_lay_22 rfl (lv_at hl 0 rfl) ?_
        refine va_iald hx hb hK hP 1 0 rfl rfl (vp_in_nI (by have := hM.de; omega) (by decide)) d_Frames_lay_23 ?_
        refine tw_ri (e2 := nI kd) (by rw [nI_clamp (by have := hM.de; omega)]; exact ek) ?_
        refine tw_wv (wr := [(mh, .inr (5, [.ref s0, .ref l0, .ref t0, lay, .int (nI de), .int (nI ms), .int (nI ml), .int (nI mt), .int an, .int oa, .int wd])), (s0, aI g 64 sk), (l0, aI g 64 lc), (t0, aI g 600 lt)]) (tw_runS (ws := [(mh, .inr (5, [.ref s0, .ref l0, .ref t0, lay, .int (nI de), .int (nI ms), .int (nI ml), .int (nI mt), .int an, .int oa, .int wd])), (s0, aI g 64 sk), (l0, aI g 64 lc), (t0, aI g 600 lt), (ra, aJ g 8 f9)]) (wc := [(ra, aJ g 8 f9)]) (As := [.ref ra, .int 0, .int (nI i), .int (nI kd)]) (rest := []) E hB hK hZ (s_Frames_setKindIn l g H.size ra 8 f9 0 i kd (by omega) (by omega) (by decide) hkd) mc_Frames_setKindIn ms_Frames_setKindIn wd_794 hP hD hS hA [4] rfl (by decide) rfl rfl (by decide) rfl hl.1 rfl (Nat.le_of_ble_eq_true rfl) (by decide) d_Frames_lay_24) hP hD hS hA [4] [0, 1, 2, 3] rfl rfl (by decide) (by decide) (fun u7 H locs hr6 hP hD hS => ?_)
        try dsimp only at hr6
        have hP : va_P g.1 classes [(mh, .inr (5, [.ref s0, .ref l0, .ref t0, lay, .int (nI de), .int (nI ms), .int (nI ml), .int (nI mt), .int an, .int oa, .int wd])), (s0, aI g 64 sk), (l0, aI g 64 lc), (t0, aI g 600 lt), (ra, aJ g 8 u7)] H := hP
        have hD : va_D A [(mh, .inr (5, [.ref s0, .ref l0, .ref t0, lay, .int (nI de), .int (nI ms), .int (nI ml), .int (nI mt), .int an, .int oa, .int wd])), (s0, aI g 64 sk), (l0, aI g 64 lc), (t0, aI g 600 lt), (ra, aJ g 8 u7)] := hD
        have hP : va_P g.1 classes [(mh, .inr (5, [.ref s0, .ref l0, .ref t0, lay, .int (nI de), .int (nI ms), .int (nI ml), .int (nI mt), .int an, .int oa, .int wd])), (s0, aI g 64 sk), (l0, aI g 64 lc), (t0, aI g 600 lt), (ra, aJ g 8 u7)] H := hP.sub [0, 1, 2, 3, 4] rfl
        have hD : va_D A [(mh, .inr (5, [.ref s0, .ref l0, .ref t0, lay, .int (nI de), .int (nI ms), .int (nI ml), .int (nI mt), .int an, .int oa, .int wd])), (s0, aI g 64 sk), (l0, aI g 64 lc), (t0, aI g 600 lt), (ra, aJ g 8 u7)] := hD.sub [0, 1, 2, 3, 4] (by decide) rfl
        have hg24 := KS.row hr6 hf9 hk0
        refine lv_iinc (k := 0) (v := nI (i + 1)) hx hb d_Frames_lay_27 hl rfl ((nI_succ i).symm) (by decide) rfl (fun ls hl => ?_)
        have hl : lv_has ls 3 [(2, .int (nI (i + 1))), (0, .ref mh), (1, .ref ra)] := hl
        refine lv_goto (tgt := 7) hx hb d_Frames_lay_30 (by decide) ?_
        have hP : va_P g.1 classes [(mh, .inr (5, [.ref s0, .ref l0, .ref t0, lay, .int (nI de), .int (nI ms), .int (nI ml), .int (nI mt), .int an, .int oa, .int wd])), (s0, aI g 64 sk), (l0, aI g 64 lc), (t0, aI g 600 lt), (ra, aJ g 8 u7)] H := hP.sub [0, 1, 2, 3, 4] rfl
        have hD : va_D A [(mh, .inr (5, [.ref s0, .ref l0, .ref t0, lay, .int (nI de), .int (nI ms), .int (nI ml), .int (nI mt), .int an, .int oa, .int wd])), (s0, aI g 64 sk), (l0, aI g 64 lc), (t0, aI g 600 lt), (ra, aJ g 8 u7)] := hD.sub [0, 1, 2, 3, 4] (by decide) rfl
        exact ih _ (by omega) (i + 1) u7 ls _ _ rfl (by omega) hg24 (lv_sub hl [0, 1, 2] rfl) hP hD hS
  exact loop7 _ 0 u2 ls _ _ rfl (Nat.zero_le _) hf0 (hl) hP hD hS
