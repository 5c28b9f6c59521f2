theorem sf_us0 (x : Int64) : (x.toUInt64 >>> 0).toInt64 = x := by
  apply Int64.toBitVec_inj.mp
  apply BitVec.eq_of_toNat_eq
  simp
theorem sf_k3 {f : Nat → Int64} {bs sn : Nat} (hs : sn = 0) (h : (((f (bs + sn / 16)).toUInt64 >>> ((nI (sn % 16 * 4)).toInt64.toUInt64 &&& Int64.toUInt64 63)).toInt64).toInt32 &&& 15 = 3) : f bs &&& 15 = 3 := by
  subst hs
  have e : ((nI (0 % 16 * 4)).toInt64.toUInt64 &&& Int64.toUInt64 63) = 0 := by decide
  rw [e, sf_us0] at h
  exact sf_nib h
