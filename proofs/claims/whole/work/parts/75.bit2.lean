theorem bv_15 (i : Nat) (h : ¬ i < 4) : (15#64).getLsbD i = false := by
  rw [BitVec.getLsbD_ofNat]
  have : Nat.testBit 15 i = false := Nat.testBit_lt_two_pow (Nat.lt_of_lt_of_le (by decide : 15 < 2 ^ 4) (Nat.pow_le_pow_right (by decide) (by omega)))
  simp [this]
theorem bv_set (F K : BitVec 64) (s : Nat) (h : 4 ≤ s) : ((F &&& ((15#64 <<< s) ^^^ BitVec.allOnes 64)) ||| (K <<< s)) &&& 15#64 = F &&& 15#64 := by
  apply BitVec.eq_of_getLsbD_eq
  intro i hi
  simp only [BitVec.getLsbD_and, BitVec.getLsbD_or, BitVec.getLsbD_xor, BitVec.getLsbD_shiftLeft, BitVec.getLsbD_allOnes]
  by_cases h4 : i < 4
  · have h5 : i < s := by omega
    simp [h5, hi]
  · simp [bv_15 i h4]
theorem bv_set0 (F K : BitVec 64) : ((F &&& ((15#64 <<< 0) ^^^ BitVec.allOnes 64)) ||| (K <<< 0)) &&& 15#64 = K &&& 15#64 := by
  apply BitVec.eq_of_getLsbD_eq
  intro i hi
  simp only [BitVec.getLsbD_and, BitVec.getLsbD_or, BitVec.getLsbD_xor, BitVec.getLsbD_shiftLeft, BitVec.getLsbD_allOnes]
  by_cases h4 : i < 4
  · have h5 : (15#64).getLsbD i = true := (by decide : ∀ i, i < 4 → (15#64).getLsbD i = true) i h4
    simp only [Nat.sub_zero, h5]
    simp [hi]
  · simp [bv_15 i h4]
theorem bv_sh : ∀ s, s < 64 → (((nI s).toInt64 &&& 63).toBitVec.smod 64).toNat = s := by decide +kernel
theorem sf_set {F xa xb xc K : Int64} {s : Nat} (hs : s < 64) (ea : (15 : Int64) <<< ((nI s).toInt64 &&& 63) ^^^ (-1) = xa) (eb : F &&& xa = xb) (ec : xb ||| K <<< ((nI s).toInt64 &&& 63) = xc) : xc.toBitVec = (F.toBitVec &&& ((15#64 <<< s) ^^^ BitVec.allOnes 64)) ||| (K.toBitVec <<< s) := by
  subst ea eb ec
  rw [Int64.toBitVec_or, Int64.toBitVec_and, Int64.toBitVec_xor, Int64.toBitVec_shiftLeft, Int64.toBitVec_shiftLeft]
  rw [BitVec.shiftLeft_eq', BitVec.shiftLeft_eq', bv_sh s hs]
  rfl
theorem sf_setA {F xa xb xc K : Int64} {s : Nat} (hs : s < 64) (h4 : 4 ≤ s) (ea : (15 : Int64) <<< ((nI s).toInt64 &&& 63) ^^^ (-1) = xa) (eb : F &&& xa = xb) (ec : xb ||| K <<< ((nI s).toInt64 &&& 63) = xc) : xc &&& 15 = F &&& 15 := by
  apply Int64.toBitVec_inj.mp
  rw [Int64.toBitVec_and, Int64.toBitVec_and, sf_set hs ea eb ec]
  exact bv_set _ _ s h4
theorem sf_setB {F xa xb xc K : Int64} (ea : (15 : Int64) <<< ((nI 0).toInt64 &&& 63) ^^^ (-1) = xa) (eb : F &&& xa = xb) (ec : xb ||| K <<< ((nI 0).toInt64 &&& 63) = xc) : xc &&& 15 = K &&& 15 := by
  apply Int64.toBitVec_inj.mp
  rw [Int64.toBitVec_and, Int64.toBitVec_and, sf_set (by decide) ea eb ec]
  exact bv_set0 _ _
theorem sf_kd3 : ∀ k, k < 16 → (nI k).toInt64 &&& 15 = 3 → k = 3 := by decide +kernel
/-- what a row keeps when one of its kinds is set -/
def KS (f u : Nat → Int64) (bs sn kd : Nat) : Prop := (∀ j, j ≠ bs + sn / 16 → u j = f j) ∧ (sn ≠ 0 → ¬ f bs &&& 15 = 3 → ¬ u bs &&& 15 = 3) ∧ (sn = 0 → kd ≠ 3 → ¬ u bs &&& 15 = 3)
theorem KS.of {f : Nat → Int64} {bs sn kd : Nat} {xa xb xc : Int64} (hsn : sn < 128) (hk : kd < 16) (ea : (15 : Int64) <<< ((nI (sn % 16 * 4)).toInt64 &&& 63) ^^^ (-1) = xa) (eb : f (bs + sn / 16) &&& xa = xb) (ec : xb ||| (nI kd).toInt64 <<< ((nI (sn % 16 * 4)).toInt64 &&& 63) = xc) : KS f (vp_updL f (bs + sn / 16) xc) bs sn kd := by
  refine ⟨fun j hj => by simp only [vp_updL, if_neg hj], ?_, ?_⟩
  · intro h0 hf
    by_cases h16 : sn < 16
    · have e1 : sn / 16 = 0 := by omega
      have e2 := sf_setA (s := sn % 16 * 4) (by omega) (by omega) ea eb ec
      rw [e1] at e2 ⊢
      simp only [vp_updL, Nat.add_zero, if_true]
      rw [e2]; exact hf
    · have e1 : bs ≠ bs + sn / 16 := by omega
      simp only [vp_updL, if_neg e1]; exact hf
  · intro h0 h3
    subst h0
    have e2 := sf_setB ea eb ec
    simp only [vp_updL, Nat.zero_div, Nat.add_zero, if_true]
    rw [e2]
    exact fun h => h3 (sf_kd3 kd hk h)
