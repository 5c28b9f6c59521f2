theorem nI_mod4 : ∀ a, a < 64 → nI a - nI a / 4 * 4 = nI (a % 4) := by decide +kernel
theorem fo_20 {c n : Nat} (h : fof (nI c) = nI n) (hc : nI c = 20) (hn : n ≤ 2) : n = 2 := by
  rw [hc] at h
  have e : fof 20 = nI 2 := by decide
  exact (tn_eq (e.symm.trans h) (by decide) (by omega)).symm
theorem fo_132 {c n : Nat} (h : fof (nI c) = nI n) (hc : nI c = 132) (hn : n ≤ 2) : n = 2 := by
  rw [hc] at h
  have e : fof 132 = nI 2 := by decide
  exact (tn_eq (e.symm.trans h) (by decide) (by omega)).symm
