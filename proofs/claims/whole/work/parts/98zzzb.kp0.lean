/-! What is kept of a good class file. -/
def TXG (gt : Nat → Int32) (t : Nat) : Prop := ∃ p l, gt t = nI p ∧ gt (t + 1) = nI l ∧ p + l ≤ 600
theorem txg_new {gt gt' : Nat → Int32} {t p l : Nat} (h : p + l ≤ 600) (e : gt' = upd (upd gt t (nI p)) (t + 1) (nI l)) : TXG gt' t := by
  subst e
  refine ⟨p, l, ?_, if_pos rfl, h⟩
  exact (if_neg (by omega)).trans (if_pos rfl)
theorem txg_put {gt gt' : Nat → Int32} {t s p l : Nat} (h : TXG gt s) (hd : s + 2 ≤ t ∨ t + 2 ≤ s) (e : gt' = upd (upd gt t (nI p)) (t + 1) (nI l)) : TXG gt' s := by
  subst e
  obtain ⟨a, b, h1, h2, h3⟩ := h
  refine ⟨a, b, ?_, ?_, h3⟩
  · exact (if_neg (by omega)).trans ((if_neg (by omega)).trans h1)
  · exact (if_neg (by omega)).trans ((if_neg (by omega)).trans h2)
theorem txg_mem {gt gt' gu : Nat → Int32} {i p l p2 l2 : Nat} (h : ∀ j, j < i → TXG gt (4 + 4 * j) ∧ TXG gt (6 + 4 * j)) (e1 : gt' = upd (upd gt (4 + 4 * i) (nI p)) (4 + 4 * i + 1) (nI l)) (e2 : gu = upd (upd gt' (6 + 4 * i) (nI p2)) (6 + 4 * i + 1) (nI l2)) (h1 : p + l ≤ 600) (h2 : p2 + l2 ≤ 600) : ∀ j, j < i + 1 → TXG gu (4 + 4 * j) ∧ TXG gu (6 + 4 * j) := by
  intro j hj
  by_cases e : j = i
  · subst e
    exact ⟨txg_put (txg_new h1 e1) (by omega) e2, txg_new h2 e2⟩
  · have hh := h j (by omega)
    exact ⟨txg_put (txg_put hh.1 (by omega) e1) (by omega) e2, txg_put (txg_put hh.2 (by omega) e1) (by omega) e2⟩
theorem txg_fac {gt gt' : Nat → Int32} {i p l : Nat} (h : ∀ j, j < i → TXG gt (400 + 2 * j)) (e1 : gt' = upd (upd gt (400 + 2 * i) (nI p)) (400 + 2 * i + 1) (nI l)) (h1 : p + l ≤ 600) : ∀ j, j < i + 1 → TXG gt' (400 + 2 * j) := by
  intro j hj
  by_cases e : j = i
  · subst e; exact txg_new h1 e1
  · exact txg_put (h j (by omega)) (by omega) e1
def T3 (to : Nat → Int32) (a b c : Nat) : Prop := to 1 = nI a ∧ to 2 = nI b ∧ to 3 = nI c
theorem t3_put {to : Nat → Int32} {a b c i : Nat} {x : Int32} (h : T3 to a b c) (hi : 4 ≤ i) : T3 (upd to i x) a b c := ⟨(if_neg (by omega)).trans h.1, (if_neg (by omega)).trans h.2.1, (if_neg (by omega)).trans h.2.2⟩
theorem t3_same {to to' : Nat → Int32} {a b c : Nat} (h : T3 to a b c) (e : ∀ j, j < 4 → to' j = to j) : T3 to' a b c := ⟨(e 1 (by decide)).trans h.1, (e 2 (by decide)).trans h.2.1, (e 3 (by decide)).trans h.2.2⟩
def GME (gbg gl glo : Nat → Int32) (k : Nat) : Prop := gl k = 0 ∨ ∃ b l o, gbg k = nI b ∧ gl k = nI l ∧ b + l ≤ 600 ∧ glo k = nI o ∧ o ≤ 64
theorem gme_put {gbg gl glo : Nat → Int32} {i f : Nat} {x y z : Int32} (h : ∀ j, j < i - f → GME gbg gl glo j) (hf : f ≤ i) (hn : GME (upd gbg (i - f) x) (upd gl (i - f) y) (upd glo (i - f) z) (i - f)) : ∀ j, j < i + 1 - f → GME (upd gbg (i - f) x) (upd gl (i - f) y) (upd glo (i - f) z) j := by
  intro j hj
  by_cases e : j = i - f
  · rw [e]; exact hn
  · unfold GME
    simp only [upd, if_neg e]
    exact h j (by omega)
def GDD (gd : Nat → Int32) : Prop := ∀ p, p < 600 → gd p = -1 ∨ ∃ d, d ≤ 64 ∧ gd p = nI d
theorem gd_put {gd : Nat → Int32} {k : Nat} (h : ∀ j, j < k → gd j = -1) : ∀ j, j < k + 1 → upd gd k (-1) j = -1 := by
  intro j hj
  by_cases e : j = k
  · exact if_pos e
  · exact (if_neg e).trans (h j (by omega))
theorem gdd_put {gd gd' dp iw kd : Nat → Int32} {p : Nat} (h : GDD gd) (hF : FRG dp iw kd) (hp : p < 600) (e : gd' = upd gd p (dp p)) : GDD gd' := by
  subst e
  intro j hj
  by_cases e : j = p
  · subst e; simp only [upd, if_true]; exact hF.1 j hj
  · simp only [upd, if_neg e]; exact h j hj
theorem kp_z (x : Int32) : x + 0 ≤ x := by rw [Int32.add_zero]; exact Int32.le_refl _
def GOK (to gt gbg gl glo gd : Nat → Int32) : Prop := ∃ c1 c2 c3, c1 ≤ 300 ∧ c2 + c3 ≤ 75 ∧ T3 to c1 c2 c3 ∧ TXG gt 0 ∧ TXG gt 2 ∧ (∀ j, j < c2 + c3 → TXG gt (4 + 4 * j) ∧ TXG gt (6 + 4 * j)) ∧ (∀ j, j < c1 → TXG gt (400 + 2 * j)) ∧ (∀ j, j < c3 → GME gbg gl glo j) ∧ GDD gd
