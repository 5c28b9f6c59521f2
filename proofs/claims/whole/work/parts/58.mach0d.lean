theorem sf_dn {q : Nat} (h : 1 ≤ q) : nI q - 1 = nI (q - 1) := pk_sub (b := 1) h
theorem sf_down {q : Nat} (h : 1 ≤ q) : nI q - 1 + -1 = nI (q - 1) - 1 := by rw [sf_dn h, Int32.sub_eq_add_neg]
theorem sf_neg {q : Nat} (h : ¬ nI q - 1 < 0) : 1 ≤ q := by
  rcases Nat.eq_zero_or_pos q with rfl | h2
  · exact absurd (by decide) h
  · exact h2
