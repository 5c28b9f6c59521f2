/-! LOCALS of a good layout. -/
def im_two (f : Nat → Int32) (n : Nat) (i : Int32) : Int32 := im_b f n i <<< (8 &&& 31) ||| im_b f n (i + 1)
theorem im_two_of {f : Nat → Int32} {n : Nat} {i i2 r1 x2 r4 x5 : Int32} (h1 : r1 = im_b f n i) (h4 : r4 = im_b f n i2) (e2 : r1 <<< (8 &&& 31) = x2) (e3 : i + 1 = i2) (e5 : x2 ||| r4 = x5) : x5 = im_two f n i := by
  unfold im_two
  rw [← e5, ← e2, h1, h4, ← e3]
def co_of (v : LY) (k : Int32) : Int32 := if k < 0 then 0 else if nI v.me ≤ k then 0 else v.co k.toNatClampNeg
theorem ia_co {l a : Int32} {P : Prop} (h : l = 0 ∨ P) (h1 : ¬ a < 0) (h2 : ¬ l ≤ a) : P := by
  rcases h with h | h
  · rw [h] at h2
    exact absurd (Int32.not_lt.mp h1) h2
  · exact h
def LO64 (v : LY) : Prop := ∀ k, k < v.me → co_of v (nI k) = 0 ∨ im_two v.b v.n (co_of v (nI k) + 8) ≤ 64
theorem lo_put {v : LY} {j : Nat} (h : ∀ k, k < j → co_of v (nI k) = 0 ∨ im_two v.b v.n (co_of v (nI k) + 8) ≤ 64) (hj : co_of v (nI j) = 0 ∨ im_two v.b v.n (co_of v (nI j) + 8) ≤ 64) : ∀ k, k < j + 1 → co_of v (nI k) = 0 ∨ im_two v.b v.n (co_of v (nI k) + 8) ≤ 64 := by
  intro k hk
  by_cases e : k = j
  · rw [e]; exact hj
  · exact h k (by omega)
