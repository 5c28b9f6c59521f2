theorem sf_lo {b : Nat} {r : Int32} (hb : b < 256) (h : r = nI b ∨ ∃ j, j < 4 ∧ r = nI j) : ∃ j, j < 256 ∧ r = nI j := by
  rcases h with rfl | ⟨j, hj, rfl⟩
  · exact ⟨b, hb, rfl⟩
  · exact ⟨j, by omega, rfl⟩
theorem MI.types {d1 m1 l1 t1 t2 : Nat} {w1 : Int32} {s1 : Nat → Int32} (h : MI d1 m1 l1 t1 w1 s1) (ht : t2 ≤ 600) : MI d1 m1 l1 t2 w1 s1 := ⟨h.1, h.2.1, h.2.2.1, ht, h.2.2.2.2⟩
