/-! The reference: numbers, and what its rows hold. -/
abbrev nL (j : Nat) : Int64 := Int64.ofNat j
theorem rl_i2l {j : Nat} (h : j < 2 ^ 31) : (nI j).toInt64 = nL j := by
  apply Int64.toInt_inj.mp
  rw [Int32.toInt_toInt64, nI_toInt h, Int64.toInt_ofNat_of_lt (by omega)]
theorem rl_l2i (j : Nat) : (nL j).toInt32 = nI j := Int64.toInt32_ofNat
theorem rl_zero (k : Nat) : ∃ j, j < 256 ^ k ∧ (0 : Int64) = nL j := ⟨0, Nat.pow_pos (by decide), rfl⟩
theorem rl_step {v x : Int64} {i b : Nat} (h : ∃ j, j < 256 ^ i ∧ v = nL j) (hb : b < 256) (hx : 256 * v + nL b = x) : ∃ j, j < 256 ^ (i + 1) ∧ x = nL j := by
  obtain ⟨j, hj, rfl⟩ := h
  refine ⟨256 * j + b, ?_, ?_⟩
  · rw [Nat.pow_succ]; omega
  · rw [← hx]
    show Int64.ofNat 256 * Int64.ofNat j + Int64.ofNat b = Int64.ofNat (256 * j + b)
    rw [Int64.ofNat_add, Int64.ofNat_mul]
theorem rl_cmp {j k : Nat} (h : lg_cmp (nL j) (nL k) ≤ 0) (hj : j < 2 ^ 32) (hk : k < 2 ^ 32) : j ≤ k := by
  have h2 : ¬ nL k < nL j := fun h3 => Int32.not_lt.mpr h ((lg_cmp_gt _ _).mpr h3)
  rw [Int64.lt_iff_toInt_lt, Int64.toInt_ofNat_of_lt (by omega), Int64.toInt_ofNat_of_lt (by omega)] at h2
  omega
def BYT (bs : Nat → Int32) : Prop := ∀ j, j < 600 → ∃ b, b < 256 ∧ bs j = nI b
def TXT (tg on tw : Nat → Int32) : Prop := ∀ j, j < 620 → tg j = 1 → ∃ p l, on j = nI p ∧ tw j = nI l ∧ p + l ≤ 600
theorem rl_two {r : Int32} {x : Int64} (h : ∃ j, j < 256 ^ 2 ∧ x = nL j) (e : x.toInt32 = r) : ∃ j, j < 65536 ∧ r = nI j := by
  obtain ⟨j, hj, rfl⟩ := h
  exact ⟨j, by omega, by rw [← e, rl_l2i]⟩
