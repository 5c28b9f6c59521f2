/-! Numbers of two bytes, kinds, what is marked. -/
def bt (bs : Nat → Int32) (i : Nat) : Nat := (bs i).toNatClampNeg
theorem bt_eq {bs : Nat → Int32} {i : Nat} (h : BYT bs) (hi : i < 600) : bs i = nI (bt bs i) := by
  obtain ⟨b, hb, e⟩ := h i hi
  unfold bt
  rw [e, nI_clamp (by omega)]
theorem bt_lt {bs : Nat → Int32} {i : Nat} (h : BYT bs) (hi : i < 600) : bt bs i < 256 := by
  obtain ⟨b, hb, e⟩ := h i hi
  unfold bt
  rw [e, nI_clamp (by omega)]
  exact hb
def t2 (bs : Nat → Int32) (i : Nat) : Nat := 256 * bt bs i + bt bs (i + 1)
theorem t2_lt {bs : Nat → Int32} {i : Nat} (h : BYT bs) (hi : i + 1 < 600) : t2 bs i < 65536 := by
  have h1 := bt_lt (i := i) h (by omega)
  have h2 := bt_lt (i := i + 1) h (by omega)
  unfold t2
  omega
def KND (r : Int32) : Prop := r = 0 ∨ r = 1 ∨ r = 2 ∨ r = 4 ∨ r = 9 ∨ r = 10
def FRG (dp iw kd : Nat → Int32) : Prop := (∀ p, p < 600 → dp p = -1 ∨ ∃ d, d ≤ 64 ∧ dp p = nI d) ∧ (∀ p, p < 600 → ¬ iw p = 0 → ¬ dp p = -1) ∧ (∀ p, p < 600 → ¬ kd (128 * p) = 3 ∧ ¬ kd (128 * p + 64) = 3)
theorem FRG.mark {dp iw kd : Nat → Int32} {k : Nat} (h : FRG dp iw kd) (hk : k < 600) : FRG (upd dp k (-1)) (upd iw k 0) kd := by
  refine ⟨?_, ?_, h.2.2⟩
  · intro p hp
    by_cases e : p = k
    · exact Or.inl (if_pos e)
    · have := h.1 p hp
      simp only [upd, if_neg e]
      exact this
  · intro p hp hw
    by_cases e : p = k
    · exact absurd (if_pos e) hw
    · simp only [upd, if_neg e] at hw ⊢
      exact h.2.1 p hp hw
theorem mk_z {is_ : Nat → Int32} {b k : Nat} (h : ∀ j, b ≤ j → j < k → is_ j = 0) : ∀ j, b ≤ j → j < k + 1 → upd is_ k 0 j = 0 := by
  intro j h1 h2
  by_cases e : j = k
  · exact if_pos e
  · exact (if_neg e).trans (h j h1 (by omega))
theorem fo_n {r : Int32} (h : r = -1 ∨ r = 0 ∨ r = 1 ∨ r = 2) (h2 : 0 ≤ r) : ∃ n, n ≤ 2 ∧ r = nI n := by
  rcases h with rfl | rfl | rfl | rfl
  · exact absurd h2 (by decide)
  · exact ⟨0, by decide, rfl⟩
  · exact ⟨1, by decide, rfl⟩
  · exact ⟨2, by decide, rfl⟩
theorem fo_m {r : Int32} (h : r = -1 ∨ r = 0 ∨ r = 1 ∨ r = 2) (h2 : ¬ 0 ≤ r) : r = -1 := by
  rcases h with rfl | rfl | rfl | rfl
  · rfl
  · exact absurd (by decide) h2
  · exact absurd (by decide) h2
  · exact absurd (by decide) h2
theorem nI_p1m1 (k : Nat) : nI (k + 1) + -1 = nI k := by
  have e := pk_sub (a := k + 1) (b := 1) (by omega)
  rw [Nat.add_sub_cancel] at e
  rw [← e, Int32.sub_eq_add_neg]
  rfl
def STP (bs : Nat → Int32) (b l p : Nat) : Prop := ∃ n, n ≤ 2 ∧ fof (bs p) = nI n ∧ p + n < b + l
theorem mk_st {bs is_ : Nat → Int32} {b l k : Nat} {x : Int32} (h : ∀ j, b ≤ j → j < b + l → ¬ is_ j = 0 → STP bs b l j) (hk : STP bs b l k) : ∀ j, b ≤ j → j < b + l → ¬ upd is_ k x j = 0 → STP bs b l j := by
  intro j h1 h2 h3
  by_cases e : j = k
  · rw [e]; exact hk
  · exact h j h1 h2 (fun q => h3 ((if_neg e).trans q))
def HN1 (bs xp : Nat → Int32) (l j : Nat) : Prop := ∃ p, xp j = nI p ∧ p + 8 ≤ 600 ∧ t2 bs (p + 4) < l
theorem mtc_lt {bs : Nat → Int32} {y f k : Nat} (h : MTC bs y f k) : k < y := by
  cases f with
  | zero => exact h.1
  | succ f => rcases h with h | h <;> exact h.1
theorem mtc_end {bs : Nat → Int32} {y f k : Nat} (h : MTC bs y f k) (h2 : bs k = 41) : k + 1 < y := by
  cases f with
  | zero => exact h.2.2
  | succ f =>
    rcases h with h | h
    · exact h.2.2
    · exact absurd h2 h.2.1
theorem mtc_next {bs : Nat → Int32} {y f k : Nat} (h : MTC bs y f k) (h2 : ¬ bs k = 41) : ∃ r, tef bs k y = nI r ∧ k < r ∧ r ≤ y ∧ MTX bs y r := by
  cases f with
  | zero => exact absurd h.2.1 h2
  | succ f =>
    rcases h with h | ⟨_, _, r, h3, h4, h5, h6⟩
    · exact absurd h.2.1 h2
    · exact ⟨r, h3, h4, h5, f, h6⟩
theorem kn_put {ak : Nat → Int32} {n : Nat} {x : Int32} (h : ∀ j, j < n → KND (ak j)) (hx : KND x) : ∀ j, j < n + 1 → KND (upd ak n x j) := by
  intro j hj
  by_cases e : j = n
  · simp only [upd, if_pos e]; exact hx
  · simp only [upd, if_neg e]; exact h j (by omega)
