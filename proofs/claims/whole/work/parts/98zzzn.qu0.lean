/-! What the reference's questions rest on. -/
theorem tx_2 (j : Nat) : 400 + (2 * nI j) = nI (400 + 2 * j) := by
  rw [show (2 : Int32) * nI j = nI (2 * j) from pk_mul 2 j]
  exact nI_add 400 _
theorem tx_3 {j w : Nat} (h : 3 ≤ w) : 4 + (4 * nI j) + (2 * (nI w - 3)) = nI (4 + 4 * j + 2 * (w - 3)) := by
  rw [show (4 : Int32) * nI j = nI (4 * j) from pk_mul 4 j, show nI w - 3 = nI (w - 3) from pk_sub (b := 3) h, show (2 : Int32) * nI (w - 3) = nI (2 * (w - 3)) from pk_mul 2 _, show (4 : Int32) + nI (4 * j) = nI (4 + 4 * j) from nI_add 4 _]
  exact nI_add _ _
theorem tx_5 {c j w : Nat} (h : 5 ≤ w) : 4 + (4 * (nI c + nI j)) + (2 * (nI w - 5)) = nI (4 + 4 * (c + j) + 2 * (w - 5)) := by
  rw [nI_add, show (4 : Int32) * nI (c + j) = nI (4 * (c + j)) from pk_mul 4 _, show nI w - 5 = nI (w - 5) from pk_sub (b := 5) h, show (2 : Int32) * nI (w - 5) = nI (2 * (w - 5)) from pk_mul 2 _, show (4 : Int32) + nI (4 * (c + j)) = nI (4 + 4 * (c + j)) from nI_add 4 _]
  exact nI_add _ _
theorem txg_w3 {gt : Nat → Int32} {j w : Nat} (h : TXG gt (4 + 4 * j) ∧ TXG gt (6 + 4 * j)) (hw : 3 ≤ w ∧ w ≤ 4) : TXG gt (4 + 4 * j + 2 * (w - 3)) := by
  by_cases e : w = 3
  · subst e; exact h.1
  · have e2 : w = 4 := by omega
    subst e2
    rw [show 4 + 4 * j + 2 * (4 - 3) = 6 + 4 * j by omega]
    exact h.2
theorem txg_w5 {gt : Nat → Int32} {j w : Nat} (h : TXG gt (4 + 4 * j) ∧ TXG gt (6 + 4 * j)) (hw : 5 ≤ w ∧ w ≤ 6) : TXG gt (4 + 4 * j + 2 * (w - 5)) := by
  by_cases e : w = 5
  · subst e; exact h.1
  · have e2 : w = 6 := by omega
    subst e2
    rw [show 4 + 4 * j + 2 * (6 - 5) = 6 + 4 * j by omega]
    exact h.2
theorem gme_ne {gbg gl glo : Nat → Int32} {k jb : Nat} (h : GME gbg gl glo k) (h2 : ¬ gl k ≤ nI jb) (hb : jb < 2 ^ 31) : ∃ b l o, gbg k = nI b ∧ gl k = nI l ∧ b + l ≤ 600 ∧ glo k = nI o ∧ o ≤ 64 ∧ jb < l := by
  rcases h with h | ⟨b, l, o, e1, e2, e3, e4, e5⟩
  · rw [h] at h2
    exact absurd (Int32.not_lt.mp (nI_pos hb)) h2
  · rw [e2] at h2
    exact ⟨b, l, o, e1, e2, e3, e4, e5, tn_nle h2 (by omega) hb⟩
theorem gdd_ge {gd : Nat → Int32} {p : Nat} (h : GDD gd) (hp : p < 600) (h0 : ¬ gd p < 0) : ∃ d, d ≤ 64 ∧ gd p = nI d := by
  rcases h p hp with e | e
  · rw [e] at h0; exact absurd (by decide) h0
  · exact e
