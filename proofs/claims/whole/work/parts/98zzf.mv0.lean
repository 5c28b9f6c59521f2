/-! The reference's machine: neither the first LOCAL nor the lowest of the stack is an H. -/
def NOW (nw : Nat → Int32) : Prop := ¬ nw 0 = 3 ∧ ¬ nw 64 = 3
theorem nw_two {nw : Nat → Int32} {t : Nat} (h : NOW nw) (h0 : t ≠ 0) (h3 : nw (64 + t - 1) = 3) : 2 ≤ t := by
  by_cases e : t = 1
  · subst e; exact absurd h3 h.2
  · omega
theorem NOW.put {nw : Nat → Int32} {i : Nat} {x : Int32} (h : NOW nw) (hx : ¬ x = 3) : NOW (upd nw i x) := by
  constructor
  · by_cases e : 0 = i
    · simp only [upd, if_pos e]; exact hx
    · simp only [upd, if_neg e]; exact h.1
  · by_cases e : 64 = i
    · simp only [upd, if_pos e]; exact hx
    · simp only [upd, if_neg e]; exact h.2
theorem NOW.put2 {nw : Nat → Int32} {i : Nat} {x : Int32} (h : NOW nw) (h0 : i ≠ 0) (h64 : i ≠ 64) : NOW (upd nw i x) := by
  constructor
  · simp only [upd, if_neg (Ne.symm h0)]; exact h.1
  · simp only [upd, if_neg (Ne.symm h64)]; exact h.2
theorem nw_l0 {nw : Nat → Int32} {l : Nat} (h : NOW nw) (h3 : nw l = 3) : 1 ≤ l := by
  by_cases e : l = 0
  · subst e; exact absurd h3 h.1
  · omega
theorem kn3 {r : Int32} (h : KND r) : ¬ r = 3 := by
  rcases h with rfl | rfl | rfl | rfl | rfl | rfl <;> decide
