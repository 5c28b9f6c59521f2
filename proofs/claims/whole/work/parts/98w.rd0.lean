theorem rl_z0 {f : Nat → Int32} {i : Nat} (h : ∀ j, j < i → f j = 0) : ∀ j, j < i + 1 → upd f i 0 j = 0 := by
  intro j hj
  by_cases e : j = i
  · simp only [upd, if_pos e]
  · simp only [upd, if_neg e]; exact h j (by omega)
theorem rl_txt0 {tg on tw : Nat → Int32} (h : ∀ j, j < 620 → tg j = 0) : TXT tg on tw := by
  intro j hj h1
  rw [h j hj] at h1
  exact absurd h1 (by decide)
theorem rl_txt1 {tg on tw : Nat → Int32} {k p l : Nat} {t : Int32} (h : TXT tg on tw) (hl : p + l ≤ 600) : TXT (upd tg k t) (upd on k (nI p)) (upd tw k (nI l)) := by
  intro j hj h1
  by_cases e : j = k
  · exact ⟨p, l, if_pos e, if_pos e, hl⟩
  · have h1 : tg j = 1 := (if_neg e).symm.trans h1
    obtain ⟨p2, l2, e1, e2, e3⟩ := h j hj h1
    exact ⟨p2, l2, (if_neg e).trans e1, (if_neg e).trans e2, e3⟩
theorem rl_txt2 {tg on tw on' tw' : Nat → Int32} {k : Nat} {t : Int32} (h : TXT tg on tw) (ht : ¬ t = 1) (h1 : ∀ j, j ≠ k → on' j = on j) (h2 : ∀ j, j ≠ k → tw' j = tw j) : TXT (upd tg k t) on' tw' := by
  intro j hj h3
  by_cases e : j = k
  · exact absurd ((if_pos e).symm.trans h3) ht
  · have h3 : tg j = 1 := (if_neg e).symm.trans h3
    obtain ⟨p2, l2, e1, e2, e3⟩ := h j hj h3
    exact ⟨p2, l2, (h1 j e).trans e1, (h2 j e).trans e2, e3⟩
