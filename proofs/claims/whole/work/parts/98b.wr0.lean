theorem wr_step {B : Nat → Nat} {m i : Nat} (hg : ∀ j, m ≤ j → j < i → 33 ≤ B j ∧ B j ≤ 126) (h1 : 33 ≤ B i) (h2 : B i ≤ 126) : ∀ j, m ≤ j → j < i + 1 → 33 ≤ B j ∧ B j ≤ 126 := by
  intro j h3 h4
  by_cases e : j = i
  · subst e; exact ⟨h1, h2⟩
  · exact hg j h3 (by omega)
