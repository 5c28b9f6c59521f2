theorem sf_ix {a : Int32} (h : vp_in a 600) : ∃ p, p < 600 ∧ a = nI p := by
  obtain ⟨j, hj, rfl⟩ := nI_of (fun q => h (Or.inl q))
  refine ⟨j, ?_, rfl⟩
  have h2 : ¬ 600 ≤ (nI j).toNatClampNeg := fun q => h (Or.inr q)
  rw [nI_clamp hj] at h2
  omega
theorem sf_c5 {p : Nat} (hp : p < 600) : (nI (p * 8)).toNatClampNeg + (8 : Int32).toNatClampNeg ≤ 4800 := by
  have e8 : (8 : Int32).toNatClampNeg = 8 := by decide
  rw [e8, nI_clamp (by omega)]
  omega
theorem sf_b64 : ∀ d, d ≤ 64 → (nI d).toInt8.toInt32 = nI d := by decide +kernel
theorem FI.copy {lo p d : Nat} {rw rf : Nat → Int64} {wt dp : Nat → Int32} (h : FI lo rw wt dp) (hp : p < 600) (hr : ¬ rf 0 &&& 15 = 3) (hd : d ≤ 64) : FI lo (va_cpy rf rw (0 : Int32).toNatClampNeg (nI (p * 8)).toNatClampNeg (8 : Int32).toNatClampNeg) wt (upd dp p (nI d)) := by
  have e0 : (0 : Int32).toNatClampNeg = 0 := by decide
  have e8 : (8 : Int32).toNatClampNeg = 8 := by decide
  rw [e0, e8, nI_clamp (by omega)]
  refine ⟨h.1, ?_, ?_, ?_⟩
  · intro q hq
    by_cases e : q = p
    · subst e; exact Or.inr ⟨d, hd, by simp [upd]⟩
    · simp only [upd, if_neg e]; exact h.2.1 q hq
  · intro q hq
    by_cases e : q = p
    · subst e
      rw [pk_cpy_in (by omega) (by omega)]
      have e2 : 0 + (8 * q - q * 8) = 0 := by omega
      rw [e2]; exact hr
    · rw [pk_cpy_out (by omega)]; exact h.2.2.1 q hq
  · intro q hq hw
    by_cases e : q = p
    · subst e
      simp only [upd, if_true]
      exact sf_nm1 d hd
    · simp only [upd, if_neg e]; exact h.2.2.2 q hq hw
