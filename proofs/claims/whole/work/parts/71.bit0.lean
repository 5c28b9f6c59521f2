theorem sf_sh4 {n : Nat} (h : n < 2 ^ 31) : nI n >>> (4 &&& 31) = nI (n / 16) := pk_shrN h (4 &&& 31) 4 (by decide)
theorem sf_nib {x : Int64} (h : x.toInt32 &&& 15 = 3) : x &&& 15 = 3 := by
  have h2 := congrArg (fun z : Int32 => z.toBitVec.toNat) h
  apply Int64.toBitVec_inj.mp
  apply BitVec.eq_of_toNat_eq
  simp only [Int32.toBitVec_and, BitVec.toNat_and] at h2
  rw [Int64.toBitVec_and, BitVec.toNat_and]
  have e1 : (x.toInt32).toBitVec.toNat = x.toBitVec.toNat % 2 ^ 32 := by
    have e0 : (x.toInt32).toBitVec = x.toBitVec.signExtend 32 := rfl
    rw [e0, BitVec.signExtend_eq_setWidth_of_le _ (by decide), BitVec.toNat_setWidth]
  have e2 : ((15 : Int32).toBitVec.toNat) = 2 ^ 4 - 1 := by decide
  have e3 : ((15 : Int64).toBitVec.toNat) = 2 ^ 4 - 1 := by decide
  have e4 : ((3 : Int32).toBitVec.toNat) = 3 := by decide
  have e5 : ((3 : Int64).toBitVec.toNat) = 3 := by decide
  rw [e1, e2, e4, Nat.and_two_pow_sub_one_eq_mod] at h2
  rw [e3, e5, Nat.and_two_pow_sub_one_eq_mod]
  omega
