theorem rl_cmp0 {j : Nat} (h : ¬ lg_cmp (nL j) 0 = 0) : j ≠ 0 := by
  intro e
  subst e
  exact h (by decide)
def XPL (xp : Nat → Int32) (xn : Nat) : Prop := ∀ h, h < xn → ∃ p, xp h = nI p ∧ p + 8 ≤ 600
theorem rl_xpl {xp : Nat → Int32} {xn p : Nat} (h : XPL xp xn) (hp : p + 8 ≤ 600) : XPL (upd xp xn (nI p)) (xn + 1) := by
  intro j hj
  by_cases e : j = xn
  · exact ⟨p, if_pos e, hp⟩
  · obtain ⟨p2, e1, e2⟩ := h j (by omega)
    exact ⟨p2, (if_neg e).trans e1, e2⟩
/-- what stands in the code of a method -/
def CDO (sk lo bg ln xf xt : Nat → Int32) (xn i : Nat) : Prop := ∃ b l s o x y, bg i = nI b ∧ ln i = nI l ∧ 0 < l ∧ b + l ≤ 600 ∧ sk i = nI s ∧ s < 65536 ∧ lo i = nI o ∧ o < 65536 ∧ xf i = nI x ∧ xt i = nI y ∧ x ≤ y ∧ y ≤ xn
def CDX (ca sk lo bg ln xf xt : Nat → Int32) (xn i : Nat) : Prop := ca i = 0 ∨ CDO sk lo bg ln xf xt xn i
theorem rl_amc {ca sk lo bg ln xf xt sk' lo' bg' ln' xf' xt' : Nat → Int32} {xn xn' i : Nat} {v : Int32} (h : ∀ j, j ≤ i → CDX ca sk lo bg ln xf xt xn j) (h1 : ∀ j, j ≠ i → sk' j = sk j) (h2 : ∀ j, j ≠ i → lo' j = lo j) (h3 : ∀ j, j ≠ i → bg' j = bg j) (h4 : ∀ j, j ≠ i → ln' j = ln j) (h5 : ∀ j, j ≠ i → xf' j = xf j) (h6 : ∀ j, j ≠ i → xt' j = xt j) (hx : xn ≤ xn') (hc : CDO sk' lo' bg' ln' xf' xt' xn' i) : ∀ j, j ≤ i → CDX (upd ca i v) sk' lo' bg' ln' xf' xt' xn' j := by
  intro j hj
  by_cases e : j = i
  · subst e; exact Or.inr hc
  · rcases h j hj with h0 | ⟨b, l, s, o, x, y, e1, e2, e3, e4, e5, e6, e7, e8, e9, e10, e11, e12⟩
    · exact Or.inl ((if_neg e).trans h0)
    · exact Or.inr ⟨b, l, s, o, x, y, (h3 j e).trans e1, (h4 j e).trans e2, e3, e4, (h1 j e).trans e5, e6, (h2 j e).trans e7, e8, (h5 j e).trans e9, (h6 j e).trans e10, e11, Nat.le_trans e12 hx⟩
theorem rl_amc0 {ca sk lo bg ln xf xt : Nat → Int32} {xn i : Nat} (h : ∀ j, j < i → CDX ca sk lo bg ln xf xt xn j) : ∀ j, j ≤ i → CDX (upd ca i 0) sk lo bg ln xf xt xn j := by
  intro j hj
  by_cases e : j = i
  · exact Or.inl (if_pos e)
  · rcases h j (by omega) with h0 | h0
    · exact Or.inl ((if_neg e).trans h0)
    · exact Or.inr h0
