theorem sf_c4 {p : Nat} (hp : p < 600) : (nI (p * 8 + 4)).toNatClampNeg + (4 : Int32).toNatClampNeg ≤ 4800 := by
  have e8 : (4 : Int32).toNatClampNeg = 4 := by decide
  rw [e8, nI_clamp (by omega)]
  omega
theorem sf_cpy4 {rw f : Nat → Int64} {x : Nat} (h : ¬ f 0 &&& 15 = 3) : ¬ va_cpy rw f x (4 : Int32).toNatClampNeg (4 : Int32).toNatClampNeg 0 &&& 15 = 3 := by
  have e4 : (4 : Int32).toNatClampNeg = 4 := by decide
  rw [e4, pk_cpy_out (by omega)]
  exact h
theorem sf_fl {f : Nat → Int64} {v : Int64} {i : Nat} (h : ∀ j, j < i → f j = v) : ∀ j, j < i + 1 → vp_updL f i v j = v := by
  intro j hj
  by_cases e : j = i
  · simp only [vp_updL, if_pos e]
  · simp only [vp_updL, if_neg e]; exact h j (by omega)
