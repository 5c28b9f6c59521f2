theorem sf_min {j : Nat} (hj : j < 65536) : (if (64 : Int32) < nI j then (64 : Int32) else nI j) = nI (min j 64) := by
  show (if nI 64 < nI j then nI 64 else nI j) = nI (min j 64)
  by_cases h : 64 < j
  · rw [if_pos ((nI_ltI (a := 64) (by decide) (by omega)).mpr h), Nat.min_eq_right (by omega)]
  · rw [if_neg (fun q => h ((nI_ltI (a := 64) (by decide) (by omega)).mp q)), Nat.min_eq_left (by omega)]
theorem MI.start {d1 m1 l1 t1 a b : Nat} {w1 : Int32} {s1 : Nat → Int32} (h : MI d1 m1 l1 t1 w1 s1) : MI 0 (min a 64) (min b 64) t1 w1 s1 := ⟨Nat.zero_le _, Nat.min_le_right _ _, Nat.min_le_right _ _, h.2.2.2⟩
