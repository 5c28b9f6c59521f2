set_option maxHeartbeats 4000000 in
set_option maxRecDepth 100000 in
theorem s_Frames_kindIn (l : Launch) (g : tw_G) (sz : Nat) (a N : Nat) (f : Nat → Int64) (bs sn : Nat) (hsn : sn < 128) (hbs : bs + sn / 16 < N) (hN : N ≤ 4800) : Met l y_Frames_kindIn [.code y_Frames_kindIn b_Frames_kindIn 3 (some .int)] ({ frames := 0, cells := 0, slots := 0, locals := 0 }) (tw_P g [.ref a, .int (nI bs), .int (nI sn)] [(a, aJ g N f)] sz) (vp_Si (fun r => (∃ k, k < 16 ∧ r = nI k) ∧ (sn = 0 → ¬ f bs &&& 15 = 3 → ¬ r = 3))) 0 0 (fun _ => False) := by
  refine tw_met (l := l) (g := g) (y := y_Frames_kindIn) (cc := b_Frames_kindIn) (maxL := 3) (ret := (some .int)) (rm := { frames := 0, cells := 0, slots := 0, locals := 0 }) (mc := 0) (ms := 0) (av := [.ref a, .int (nI bs), .int (nI sn)]) (ws := [(a, aJ g N f)]) (sz := sz) (Qc := fun _ => (vp_Si (fun r => (∃ k, k < 16 ∧ r = nI k) ∧ (sn = 0 → ¬ f bs &&& 15 = 3 → ¬ r = 3)))) (free := fun _ _ => False) (by decide) (Nat.le_of_ble_eq_true rfl) ?_
  intro p e s m below meth c ls A E hB hK hZ hP hD hS hA hl
  obtain ⟨hx, hb, hml, hr, hown, hts, hlocks, hin⟩ := id E
  have hl : lv_has ls 3 [(0, .ref a), (1, .int (nI bs)), (2, .int (nI sn))] := hl
  refine lv_aload_n hx hb d_Frames_kindIn_0 rfl (lv_at hl 0 rfl) ?_
  refine lv_iload_n hx hb d_Frames_kindIn_1 rfl (lv_at hl 1 rfl) ?_
  refine lv_iload_n hx hb d_Frames_kindIn_2 rfl (lv_at hl 2 rfl) ?_
  refine lv_iconst (v := 4) hx hb d_Frames_kindIn_3 (by decide) ?_
  refine lv_ishr hx hb d_Frames_kindIn_4 ?_
  refine tw_ri (e2 := nI (sn / 16)) (sf_sh4 (by omega)) ?_
  refine lv_iadd hx hb d_Frames_kindIn_5 ?_
  refine tw_ri (e2 := nI (bs + sn / 16)) (nI_add _ _) ?_
  refine va_lald hx hb hK hP 0 2 rfl rfl (vp_in_nI hbs (by omega)) d_Frames_kindIn_6 ?_
  refine tw_rl (e2 := f (bs + sn / 16)) (by rw [nI_clamp (by omega)]) ?_
  refine lv_iload_n hx hb d_Frames_kindIn_7 rfl (lv_at hl 2 rfl) ?_
  refine lv_bipush (v := 15) hx hb d_Frames_kindIn_8 (by decide) ?_
  refine lv_iand hx hb d_Frames_kindIn_10 ?_
  refine tw_ri (e2 := nI (sn % 16)) (pk_andN (by omega) 4 (by decide)) ?_
  refine lv_iconst (v := 2) hx hb d_Frames_kindIn_11 (by decide) ?_
  refine lv_ishl hx hb d_Frames_kindIn_12 ?_
  refine tw_ri (e2 := nI (sn % 16 * 4)) (pk_shlN (2 &&& 31) 2 (by decide) (by omega)) ?_
  refine lv_lushr (v := ((f (bs + sn / 16)).toUInt64 >>> ((nI (sn % 16 * 4)).toInt64.toUInt64 &&& Int64.toUInt64 63)).toInt64) hx hb d_Frames_kindIn_13 rfl ?_
  refine lv_l2i (v := (((f (bs + sn / 16)).toUInt64 >>> ((nI (sn % 16 * 4)).toInt64.toUInt64 &&& Int64.toUInt64 63)).toInt64).toInt32) hx hb d_Frames_kindIn_14 rfl ?_
  refine lv_bipush (v := 15) hx hb d_Frames_kindIn_15 (by decide) ?_
  refine lv_iand hx hb d_Frames_kindIn_17 ?_
  obtain ⟨x1, ex1⟩ : ∃ z : Int32, ((((f (bs + sn / 16)).toUInt64 >>> ((nI (sn % 16 * 4)).toInt64.toUInt64 &&& Int64.toUInt64 63)).toInt64).toInt32) &&& 15 = z := ⟨_, rfl⟩
  refine tw_ri (e2 := x1) ex1 ?_
  exact tw_isret E ⟨ex1 ▸ pk_andE _ (m := 15) 4 (by decide), fun hs hf h => hf (sf_k3 hs (ex1.trans h))⟩ d_Frames_kindIn_18
