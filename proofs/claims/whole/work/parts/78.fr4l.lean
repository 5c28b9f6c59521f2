theorem sf_minL {a b : Nat} (ha : a < 2 ^ 31) (hb : b < 2 ^ 31) : (if nI b < nI a then nI b else nI a) = nI (min a b) := by
  by_cases h : b < a
  · rw [if_pos ((nI_ltI hb ha).mpr h), Nat.min_eq_right (by omega)]
  · rw [if_neg (fun q => h ((nI_ltI hb ha).mp q)), Nat.min_eq_left (by omega)]
theorem FI.low {lo l2 : Nat} {rw : Nat → Int64} {wt dp : Nat → Int32} (h : FI lo rw wt dp) (h2 : l2 ≤ 600) : FI l2 rw wt dp := ⟨h2, h.2⟩
theorem FI.wait {lo p : Nat} {rw : Nat → Int64} {wt dp : Nat → Int32} (h : FI lo rw wt dp) (hp : ¬ dp p = -1) : FI lo rw (upd wt p 1) dp := by
  refine ⟨h.1, h.2.1, h.2.2.1, fun q hq => ?_⟩
  by_cases e : q = p
  · subst e; exact fun _ => hp
  · simp only [upd, if_neg e]; exact h.2.2.2 q hq
theorem FI.quiet {lo p : Nat} {rw : Nat → Int64} {wt dp : Nat → Int32} (h : FI lo rw wt dp) : FI lo rw (upd wt p 0) dp := by
  refine ⟨h.1, h.2.1, h.2.2.1, fun q hq => ?_⟩
  by_cases e : q = p
  · subst e; simp only [upd, if_true]; exact fun h9 => absurd h9 (by decide)
  · simp only [upd, if_neg e]; exact h.2.2.2 q hq
theorem FI.set {lo bs sn kd : Nat} {rw u : Nat → Int64} {wt dp : Nat → Int32} (h : FI lo rw wt dp) (hb : bs % 8 = 0) (h1 : 64 ≤ sn) (h2 : sn < 128) (hk : KS rw u bs sn kd) : FI lo u wt dp := by
  refine ⟨h.1, h.2.1, fun p hp => ?_, h.2.2.2⟩
  rw [hk.1 (8 * p) (by omega)]
  exact h.2.2.1 p hp
theorem sf_n1 : vp_nar .byte 1 = 1 := by rw [vp_nar_byte]; decide
theorem sf_n0 : vp_nar .byte 0 = 0 := by rw [vp_nar_byte]; decide
theorem sf_nm1 : ∀ d, d ≤ 64 → ¬ nI d = -1 := by decide +kernel
theorem sf_upn {dp : Nat → Int32} {p d : Nat} (hd : d ≤ 64) : ¬ upd dp p (nI d) p = -1 := by simp only [upd, if_true]; exact sf_nm1 d hd
