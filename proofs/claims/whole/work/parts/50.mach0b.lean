theorem MI.wdk {d1 m1 l1 t1 : Nat} {w1 : Int32} {s1 : Nat → Int32} (h : MI d1 m1 l1 t1 w1 s1) : ∃ k, k < 16 ∧ w1 = nI k := h.2.2.2.2.1
theorem MI.word {d1 m1 l1 t1 i : Nat} {w1 : Int32} {s1 : Nat → Int32} (h : MI d1 m1 l1 t1 w1 s1) (hi : i < 64) : MI d1 m1 l1 t1 (s1 i) s1 := ⟨h.1, h.2.1, h.2.2.1, h.2.2.2.1, h.2.2.2.2.2.1 i hi, h.2.2.2.2.2⟩
theorem sf_kd {r : Int32} (h : r = 0 ∨ r = 1 ∨ r = 2 ∨ r = 4) : (∃ k, k < 16 ∧ r = nI k) ∧ ¬ r = 3 := by
  rcases h with rfl | rfl | rfl | rfl
  · exact ⟨⟨0, by decide, rfl⟩, by decide⟩
  · exact ⟨⟨1, by decide, rfl⟩, by decide⟩
  · exact ⟨⟨2, by decide, rfl⟩, by decide⟩
  · exact ⟨⟨4, by decide, rfl⟩, by decide⟩
theorem sf_kl {r : Int32} (h : r = 1 ∨ r = 2 ∨ r = 4) : (∃ k, k < 16 ∧ r = nI k) ∧ ¬ r = 3 := sf_kd (Or.inr h)
