theorem sf_z0 {u : Nat → Int64} (h : ∀ j, j < 8 → u j = 0) : ¬ u 0 &&& 15 = 3 := by
  rw [h 0 (by decide)]
  decide
theorem MI.kind {d1 m1 l1 t1 i : Nat} {w1 : Int32} {s1 : Nat → Int32} (h : MI d1 m1 l1 t1 w1 s1) (hi : i < 64) : ∃ k, k < 16 ∧ s1 i = nI k ∧ (i = 0 → k ≠ 3) := by
  obtain ⟨k, hk, e⟩ := h.2.2.2.2.2.1 i hi
  exact ⟨k, hk, e, fun h0 h3 => h.2.2.2.2.2.2 (by subst h0; rw [e, h3]; rfl)⟩
theorem KS.row {f u : Nat → Int64} {sn kd : Nat} (h : KS f u 0 sn kd) (hf : ¬ f 0 &&& 15 = 3) (hk : sn = 0 → kd ≠ 3) : ¬ u 0 &&& 15 = 3 := by
  by_cases e : sn = 0
  · exact h.2.2 e (hk e)
  · exact h.2.1 e hf
