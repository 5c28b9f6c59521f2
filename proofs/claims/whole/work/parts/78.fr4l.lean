theorem sf_minL {a b : Nat} (ha : a < 2 ^ 31) (hb : b < 2 ^ 31) : (if nI b < nI a then nI b else nI a) = nI (min a b) := by
  by_cases h : b < a
  · rw [if_pos ((nI_ltI hb ha).mpr h), Nat.min_eq_right (by omega)]
  · rw [if_neg (fun q => h ((nI_ltI hb ha).mp q)), Nat.min_eq_left (by omega)]
theorem FI.low {lo l2 : Nat} {rw : Nat → Int64} {dp : Nat → Int32} (h : FI lo rw dp) (h2 : l2 ≤ 600) : FI l2 rw dp := ⟨h2, h.2⟩
theorem FI.set {lo bs sn kd : Nat} {rw u : Nat → Int64} {dp : Nat → Int32} (h : FI lo rw dp) (hb : bs % 8 = 0) (h1 : 64 ≤ sn) (h2 : sn < 128) (hk : KS rw u bs sn kd) : FI lo u dp := by
  refine ⟨h.1, h.2.1, fun p hp => ?_⟩
  rw [hk.1 (8 * p) (by omega)]
  exact h.2.2 p hp
