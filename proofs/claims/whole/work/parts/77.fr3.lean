set_option maxHeartbeats 4000000 in
set_option maxRecDepth 100000 in
theorem s_Frames_setKindIn (l : Launch) (g : tw_G) (sz : Nat) (a N : Nat) (f : Nat → Int64) (bs sn kd : Nat) (hsn : sn < 128) (hbs : bs + sn / 16 < N) (hN : N ≤ 4800) (hk : kd < 16) : Met l y_Frames_setKindIn [.code y_Frames_setKindIn b_Frames_setKindIn 6 none] ({ frames := 0, cells := 0, slots := 0, locals := 0 }) (tw_P g [.ref a, .int (nI bs), .int (nI sn), .int (nI kd)] [(a, aJ g N f)] sz) (tw_Qv g (fun u => KS f u bs sn kd) (fun u : Nat → Int64 => [(a, aJ g N u)]) (va_A [(a, aJ g N f)] sz)) 0 0 (va_A [(a, aJ g N f)] sz) := by
  refine tw_metW (l := l) (g := g) (y := y_Frames_setKindIn) (cc := b_Frames_setKindIn) (maxL := 6) (ret := none) (rm := { frames := 0, cells := 0, slots := 0, locals := 0 }) (mc := 0) (ms := 0) (av := [.ref a, .int (nI bs), .int (nI sn), .int (nI kd)]) (ws := [(a, aJ g N f)]) (sz := sz) (Qc := fun A => (tw_Qv g (fun u => KS f u bs sn kd) (fun u : Nat → Int64 => [(a, aJ g N u)]) A)) (by decide) (Nat.le_of_ble_eq_true rfl) ?_
  intro p e s m below meth c ls H A E hB hK hZ hP hD hS hA hl
  obtain ⟨hx, hb, hml, hr, hown, hts, hlocks, hin⟩ := id E
  have hl : lv_has ls 6 [(0, .ref a), (1, .int (nI bs)), (2, .int (nI sn)), (3, .int (nI kd))] := hl
  refine lv_iload_n hx hb d_Frames_setKindIn_0 rfl (lv_at hl 2 rfl) ?_
  refine lv_bipush (v := 15) hx hb d_Frames_setKindIn_1 (by decide) ?_
  refine lv_iand hx hb d_Frames_setKindIn_3 ?_
  refine tw_ri (e2 := nI (sn % 16)) (pk_andN (by omega) 4 (by decide)) ?_
  refine lv_iconst (v := 2) hx hb d_Frames_setKindIn_4 (by decide) ?_
  refine lv_ishl hx hb d_Frames_setKindIn_5 ?_
  refine tw_ri (e2 := nI (sn % 16 * 4)) (pk_shlN (2 &&& 31) 2 (by decide) (by omega)) ?_
  refine lv_istore hx hb d_Frames_setKindIn_6 hl (by decide) rfl (fun ls hl => ?_)
  have hl : lv_has ls 6 [(4, .int (nI (sn % 16 * 4))), (0, .ref a), (1, .int (nI bs)), (2, .int (nI sn)), (3, .int (nI kd))] := hl
  refine lv_iload_n hx hb d_Frames_setKindIn_8 rfl (lv_at hl 2 rfl) ?_
  refine lv_iload_n hx hb d_Frames_setKindIn_9 rfl (lv_at hl 3 rfl) ?_
  refine lv_iconst (v := 4) hx hb d_Frames_setKindIn_10 (by decide) ?_
  refine lv_ishr hx hb d_Frames_setKindIn_11 ?_
  refine tw_ri (e2 := nI (sn / 16)) (sf_sh4 (by omega)) ?_
  refine lv_iadd hx hb d_Frames_setKindIn_12 ?_
  refine tw_ri (e2 := nI (bs + sn / 16)) (nI_add _ _) ?_
  refine lv_istore hx hb d_Frames_setKindIn_13 hl (by decide) rfl (fun ls hl => ?_)
  have hl : lv_has ls 6 [(5, .int (nI (bs + sn / 16))), (4, .int (nI (sn % 16 * 4))), (0, .ref a), (1, .int (nI bs)), (2, .int (nI sn)), (3, .int (nI kd))] := hl
  refine lv_aload_n hx hb d_Frames_setKindIn_15 rfl (lv_at hl 2 rfl) ?_
  refine lv_iload hx hb d_Frames_setKindIn_16 (lv_at hl 0 rfl) ?_
  refine lv_aload_n hx hb d_Frames_setKindIn_18 rfl (lv_at hl 2 rfl) ?_
  refine lv_iload hx hb d_Frames_setKindIn_19 (lv_at hl 0 rfl) ?_
  refine va_lald hx hb hK hP 0 2 rfl rfl (vp_in_nI hbs (by omega)) d_Frames_setKindIn_21 ?_
  refine tw_rl (e2 := f (bs + sn / 16)) (by rw [nI_clamp (by omega)]) ?_
  refine lv_ldc2 (v := 15) hx hb hown (hts _ wd_797) d_Frames_setKindIn_22 ?_
  refine lv_iload hx hb d_Frames_setKindIn_25 (lv_at hl 1 rfl) ?_
  refine lv_lshl (v := (15 : Int64) <<< ((nI (sn % 16 * 4)).toInt64 &&& 63)) hx hb d_Frames_setKindIn_27 rfl ?_
  refine lv_ldc2 (v := -1) hx hb hown (hts _ wd_798) d_Frames_setKindIn_28 ?_
  refine lv_lxor hx hb d_Frames_setKindIn_31 ?_
  obtain ⟨x1, ex1⟩ : ∃ z : Int64, ((15 : Int64) <<< ((nI (sn % 16 * 4)).toInt64 &&& 63)) ^^^ (-1 : Int64) = z := ⟨_, rfl⟩
  refine tw_rl (e2 := x1) ex1 ?_
  refine lv_land hx hb d_Frames_setKindIn_32 ?_
  obtain ⟨x2, ex2⟩ : ∃ z : Int64, (f (bs + sn / 16)) &&& x1 = z := ⟨_, rfl⟩
  refine tw_rl (e2 := x2) ex2 ?_
  refine lv_iload_n hx hb d_Frames_setKindIn_33 rfl (lv_at hl 5 rfl) ?_
  refine lv_i2l (v := (nI kd).toInt64) hx hb d_Frames_setKindIn_34 rfl ?_
  refine lv_iload hx hb d_Frames_setKindIn_35 (lv_at hl 1 rfl) ?_
  refine lv_lshl (v := ((nI kd).toInt64) <<< ((nI (sn % 16 * 4)).toInt64 &&& 63)) hx hb d_Frames_setKindIn_37 rfl ?_
  refine lv_lor hx hb d_Frames_setKindIn_38 ?_
  obtain ⟨x3, ex3⟩ : ∃ z : Int64, x2 ||| (((nI kd).toInt64) <<< ((nI (sn % 16 * 4)).toInt64 &&& 63)) = z := ⟨_, rfl⟩
  refine tw_rl (e2 := x3) ex3 ?_
  refine va_last hx hb hK hP hD hS 0 2 rfl rfl (vp_in_nI hbs (by omega)) d_Frames_setKindIn_39 (fun H locs hP hD hS => ?_)
  have hP : va_P g.1 classes [(a, aJ g N (vp_updL f (nI (bs + sn / 16)).toNatClampNeg x3))] H := hP
  have hD : va_D A [(a, aJ g N (vp_updL f (nI (bs + sn / 16)).toNatClampNeg x3))] := hD
  have e9 : vp_updL f (nI (bs + sn / 16)).toNatClampNeg x3 = vp_updL f (bs + sn / 16) x3 := by rw [nI_clamp (by omega)]
  rw [e9] at hP hD
  exact tw_vret E hS (vp_updL f (bs + sn / 16) x3) (KS.of hsn hk ex1 ex2 ex3) hP hD d_Frames_setKindIn_40
