/-! Both sides hold the same bytes. -/
theorem ag_bits (x y : BitVec 32) (h : ∀ i, i < 8 → x.getLsbD i = y.getLsbD i) : x &&& 255#32 = y &&& 255#32 := by
  apply BitVec.eq_of_getLsbD_eq
  intro i hi
  rw [BitVec.getLsbD_and, BitVec.getLsbD_and]
  by_cases h8 : i < 8
  · rw [h i h8]
  · have e : (255#32).getLsbD i = false := by
      rw [BitVec.getLsbD_ofNat]
      have : Nat.testBit 255 i = false := Nat.testBit_lt_two_pow (Nat.lt_of_lt_of_le (by decide : 255 < 2 ^ 8) (Nat.pow_le_pow_right (by decide) (by omega)))
      simp [this]
    rw [e, Bool.and_false, Bool.and_false]
def shs (k : Nat) : Nat := 24 - 8 * (k % 4)
theorem sh_1 : ∀ k, k < 16 → (((24 - 8 * (nI k &&& 3)).toUInt32 &&& Int32.toUInt32 31).toBitVec % 32#32).toNat = shs k := by decide +kernel
theorem sh_2 : ∀ k, k < 16 → (((24 - 8 * (nI k - nI k / 4 * 4)) &&& 31 : Int32).toBitVec.smod 32).toNat = shs k := by decide +kernel
theorem shs_le (k : Nat) : shs k ≤ 24 := by unfold shs; omega
theorem fd_bits (w : Int32) {k : Nat} (hk : k < 16) : (fd_v w k).toBitVec = w.toBitVec >>> (shs k) := by
  have e : (fd_v w k).toBitVec = w.toBitVec >>> (((24 - 8 * (nI k &&& 3)).toUInt32 &&& Int32.toUInt32 31).toBitVec % 32#32) := rfl
  rw [e, BitVec.ushiftRight_eq', sh_1 k hk]
theorem mf_bits (w : Int32) {k : Nat} (hk : k < 16) : (mf_v w k).toBitVec = (w.toBitVec.sshiftRight (shs k)) &&& 255#32 := by
  unfold mf_v
  rw [Int32.toBitVec_and, Int32.toBitVec_shiftRight, BitVec.sshiftRight_eq', sh_2 k hk]
  rfl
theorem ag_byte (w : Int32) {k : Nat} (hk : k < 16) : (fd_v w k).toInt8.toInt32 &&& 255 = mf_v w k := by
  apply Int32.toBitVec_inj.mp
  rw [mf_bits w hk, Int32.toBitVec_and]
  have hs := shs_le k
  refine ag_bits _ _ (fun i hi => ?_)
  have e1 : ((fd_v w k).toInt8.toInt32).toBitVec = ((fd_v w k).toBitVec.signExtend 8).signExtend 32 := rfl
  rw [e1, fd_bits w hk, BitVec.getLsbD_signExtend, BitVec.getLsbD_signExtend, BitVec.getLsbD_sshiftRight, BitVec.getLsbD_ushiftRight]
  have a1 : i < 32 := by omega
  have a2 : shs k + i < 32 := by omega
  have a3 : ¬ 32 ≤ i := by omega
  simp [hi, a1, a2, a3]
theorem ag_feedf {f fm : Nat → Int32} {n : Nat} {a b c d : Int32} (h : ∀ j, j < 600 → f j &&& 255 = fm j) : ∀ k, k ≤ 16 → ∀ j, j < 600 → fd_f f n a b c d k j &&& 255 = mf_f fm n a b c d k j := by
  intro k
  induction k with
  | zero => intro _ j hj; exact h j hj
  | succ k ih =>
    intro hk j hj
    rw [fd_f, mf_f]
    by_cases e : j = n + k
    · have e1 : upd (fd_f f n a b c d k) (n + k) (fd_v (fd_w a b c d k) k).toInt8.toInt32 j = (fd_v (fd_w a b c d k) k).toInt8.toInt32 := if_pos e
      have e2 : upd (mf_f fm n a b c d k) (n + k) (mf_v (fd_w a b c d k) k) j = mf_v (fd_w a b c d k) k := if_pos e
      rw [e1, e2]
      exact ag_byte _ (by omega)
    · have e1 : upd (fd_f f n a b c d k) (n + k) (fd_v (fd_w a b c d k) k).toInt8.toInt32 j = fd_f f n a b c d k j := if_neg e
      have e2 : upd (mf_f fm n a b c d k) (n + k) (mf_v (fd_w a b c d k) k) j = mf_f fm n a b c d k j := if_neg e
      rw [e1, e2]
      exact ih (by omega) j hj
