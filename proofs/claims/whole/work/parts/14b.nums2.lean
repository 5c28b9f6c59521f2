/-! Numbers once more: bytes and pairs of bytes as natural numbers. -/
theorem tn_eq {a b : Nat} (h : nI a = nI b) (ha : a < 2 ^ 31) (hb : b < 2 ^ 31) : a = b := (nI_eq ha hb).mp h
theorem tn_ne {a b : Nat} (h : ¬ nI a = nI b) : a ≠ b := fun e => h (by rw [e])
theorem im_b_lt (f : Nat → Int32) (n : Nat) (i : Int32) : ∃ j : Nat, j < 256 ∧ im_b f n i = nI j := by
  unfold im_b
  split
  · exact ⟨0, by decide, rfl⟩
  · exact pk_andE _ (m := 255) 8 (by decide)
/-- the byte at a place of an image of n bytes, 0 behind its end -/
noncomputable def ib (f : Nat → Int32) (n : Nat) (i : Nat) : Nat := Classical.choose (im_b_lt f n (nI i))
theorem ib_lt (f : Nat → Int32) (n i : Nat) : ib f n i < 256 := (Classical.choose_spec (im_b_lt f n (nI i))).1
theorem ib_eq (f : Nat → Int32) (n i : Nat) : im_b f n (nI i) = nI (ib f n i) := (Classical.choose_spec (im_b_lt f n (nI i))).2
theorem ib_end {f : Nat → Int32} {n i : Nat} (h : n ≤ i) (hi : i < 2 ^ 31) : ib f n i = 0 := by
  have h1 := ib_eq f n i
  rw [im_b1 (nI_le h hi)] at h1
  have := ib_lt f n i
  exact (tn_eq (a := 0) h1 (by decide) (by omega)).symm
def tw2 (B : Nat → Nat) (i : Nat) : Nat := B i * 256 + B (i + 1)
def tw4 (B : Nat → Nat) (i : Nat) : Nat := tw2 B i * 65536 + tw2 B (i + 2)
theorem ib2_lt (f : Nat → Int32) (n i : Nat) : tw2 (ib f n) i < 65536 := by
  have h1 := ib_lt f n i
  have h2 := ib_lt f n (i + 1)
  unfold tw2
  omega
theorem ib4_lt (f : Nat → Int32) (n i : Nat) : tw4 (ib f n) i < 4294967296 := by
  have h1 := ib2_lt f n i
  have h2 := ib2_lt f n (i + 2)
  unfold tw4
  omega
theorem tn_or8 {a b : Nat} (ha : a < 256) (hb : b < 256) : nI (a * 256) ||| nI b = nI (a * 256 + b) := by
  have e : a * 256 + b = a * 256 ||| b := by
    have := Nat.two_pow_add_eq_or_of_lt (i := 8) (b := b) (by omega) a
    rw [show a * 256 = 2 ^ 8 * a by omega]
    exact this
  have h1 : (nI (a * 256)).toBitVec = BitVec.ofNat 32 (a * 256) := rfl
  have h2 : (nI b).toBitVec = BitVec.ofNat 32 b := rfl
  apply Int32.toBitVec_inj.mp
  rw [Int32.toBitVec_or, h1, h2]
  show _ = BitVec.ofNat 32 (a * 256 + b)
  apply BitVec.eq_of_toNat_eq
  rw [BitVec.toNat_or, BitVec.toNat_ofNat, BitVec.toNat_ofNat, BitVec.toNat_ofNat, Nat.mod_eq_of_lt (by omega), Nat.mod_eq_of_lt (by omega), Nat.mod_eq_of_lt (by omega), e]
theorem tn_or16 {a b : Nat} (ha : a < 65536) (hb : b < 65536) : lN (a * 65536) ||| lN b = lN (a * 65536 + b) := by
  have e : a * 65536 + b = a * 65536 ||| b := by
    have := Nat.two_pow_add_eq_or_of_lt (i := 16) (b := b) (by omega) a
    rw [show a * 65536 = 2 ^ 16 * a by omega]
    exact this
  apply Int64.toBitVec_inj.mp
  rw [Int64.toBitVec_or]
  show BitVec.ofNat 64 (a * 65536) ||| BitVec.ofNat 64 b = BitVec.ofNat 64 (a * 65536 + b)
  apply BitVec.eq_of_toNat_eq
  rw [BitVec.toNat_or, BitVec.toNat_ofNat, BitVec.toNat_ofNat, BitVec.toNat_ofNat, Nat.mod_eq_of_lt (by omega), Nat.mod_eq_of_lt (by omega), Nat.mod_eq_of_lt (by omega), e]
theorem tn_shl16 {a : Nat} (ha : a < 65536) : lN a <<< ((16 : Int32).toInt64 &&& 63) = lN (a * 65536) := by
  have e : ((16 : Int32).toInt64 &&& 63) = 16 := by decide
  rw [e]
  apply Int64.toBitVec_inj.mp
  rw [Int64.toBitVec_shiftLeft]
  show BitVec.ofNat 64 a <<< _ = BitVec.ofNat 64 (a * 65536)
  have e2 : ((16 : Int64).toBitVec.smod 64) = 16#64 := by decide
  rw [e2]
  apply BitVec.eq_of_toNat_eq
  simp [BitVec.toNat_shiftLeft, Nat.shiftLeft_eq]
