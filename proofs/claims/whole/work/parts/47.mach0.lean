/-! What is always true of the machine. -/
def MI (de ms ml mt : Nat) (wd : Int32) (sk : Nat → Int32) : Prop := de ≤ 64 ∧ ms ≤ 64 ∧ ml ≤ 64 ∧ mt ≤ 600 ∧ (∃ k, k < 16 ∧ wd = nI k) ∧ (∀ j, j < 64 → ∃ k, k < 16 ∧ sk j = nI k) ∧ ¬ sk 0 = 3
section MIS
variable {dq mq nq tq : Nat} {wd : Int32} {sk : Nat → Int32}
theorem MI.de (h : MI dq mq nq tq wd sk) : dq ≤ 64 := h.1
theorem MI.ms (h : MI dq mq nq tq wd sk) : mq ≤ 64 := h.2.1
theorem MI.ml (h : MI dq mq nq tq wd sk) : nq ≤ 64 := h.2.2.1
theorem MI.mt (h : MI dq mq nq tq wd sk) : tq ≤ 600 := h.2.2.2.1
theorem MI.less (h : MI dq mq nq tq wd sk) {d : Nat} (hd : d ≤ dq) : MI d mq nq tq wd sk := ⟨Nat.le_trans hd h.1, h.2⟩
theorem MI.two (h : MI dq mq nq tq wd sk) (h1 : dq ≠ 0) (h2 : sk (dq - 1) = 3) : 2 ≤ dq := by
  by_cases hd : dq = 1
  · subst hd; exact absurd h2 h.2.2.2.2.2.2
  · omega
theorem MI.put (h : MI dq mq nq tq wd sk) {i : Nat} {a : Int32} (ha : ∃ k, k < 16 ∧ a = nI k) (h3 : i = 0 → ¬ a = 3) : MI dq mq nq tq wd (upd sk i a) := by
  refine ⟨h.1, h.2.1, h.2.2.1, h.2.2.2.1, h.2.2.2.2.1, ?_, ?_⟩
  · intro j hj
    by_cases e : j = i
    · subst e; simp only [upd, if_true]; exact ha
    · simp only [upd, if_neg e]; exact h.2.2.2.2.2.1 j hj
  · by_cases e : i = 0
    · subst e; simp only [upd, if_true]; exact h3 rfl
    · simp only [upd, if_neg (Ne.symm e)]; exact h.2.2.2.2.2.2
theorem MI.push1 (h : MI dq mq nq tq wd sk) {a : Int32} (ha : ∃ k, k < 16 ∧ a = nI k) (h3 : ¬ a = 3) (hd : dq + 1 ≤ mq) : MI (dq + 1) mq nq tq wd (upd sk dq a) := by
  have := h.ms
  exact ⟨by omega, (h.put ha (fun _ => h3)).2⟩
theorem MI.push2 (h : MI dq mq nq tq wd sk) {a : Int32} (ha : ∃ k, k < 16 ∧ a = nI k) (h3 : ¬ a = 3) (hd : dq + 2 ≤ mq) : MI (dq + 2) mq nq tq wd (upd (upd sk dq a) (dq + 1) 3) := by
  have := h.ms
  exact ⟨by omega, ((h.put ha (fun _ => h3)).put (i := dq + 1) (a := 3) ⟨3, by decide, rfl⟩ (fun e => absurd e (by omega))).2⟩
end MIS
