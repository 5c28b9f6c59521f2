/-! What is always true of the frames. -/
def FI (lo : Nat) (rw : Nat → Int64) (wt dp : Nat → Int32) : Prop := lo ≤ 600 ∧ (∀ p, p < 600 → dp p = -1 ∨ ∃ d, d ≤ 64 ∧ dp p = nI d) ∧ (∀ p, p < 600 → (rw (8 * p)) &&& 15 ≠ 3) ∧ (∀ p, p < 600 → wt p = 1 → ¬ dp p = -1)
theorem LI.fr {v : LY} (h : LI v) : FI v.lo v.rw v.wt v.dp := ⟨h.lo, h.dp, h.s0, h.w0⟩
theorem FI.li {v u : LY} (h : LI v) (h2 : FI u.lo u.rw u.wt u.dp) (e1 : u.n = v.n) (e2 : u.fi = v.fi) (e3 : u.me = v.me) : LI u := ⟨by rw [e1]; exact h.n, h2.1, by rw [e2]; exact h.fi, by rw [e3]; exact h.me, h2.2.1, h2.2.2.1, h2.2.2.2⟩
