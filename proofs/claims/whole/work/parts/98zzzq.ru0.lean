/-! The reference's rule. -/
def so_ (al : Int32) : Nat := if al = 0 then 0 else 1
def RSM (bs : Nat → Int32) (n : Nat) (k : Int32) : Prop := ∃ q, k = nI q ∧ 1 ≤ q ∧ q ≤ 40 ∧ q ≤ n ∧ ∀ i, n - q ≤ i → i < n → 33 ≤ bt bs i ∧ bt bs i ≤ 126
def RSJ (bs : Nat → Int32) (n q j : Nat) (s : Int32) : Prop := (s = 1 ∧ ∀ i, n - q ≤ i → i < j → 33 ≤ bt bs i ∧ bt bs i ≤ 126) ∨ (s = 0 ∧ ∃ i, n - q ≤ i ∧ i < n ∧ ¬ (33 ≤ bt bs i ∧ bt bs i ≤ 126))
def RUP (rf r : Int32) (n n' : Nat) (bs ru rs ru' rs' : Nat → Int32) (al k : Int32) : Prop := (rf = 1 ∧ ¬ RSM bs n k ∧ n' = n ∧ ru' = ru ∧ rs' = rs) ∨ (rf = 2 ∧ RSM bs n k ∧ ru (so_ al) = 6 ∧ n' = n ∧ ru' = ru ∧ rs' = rs) ∨ (rf = 0 ∧ ∃ q c, k = nI q ∧ q ≤ n ∧ RSM bs n k ∧ ru (so_ al) = nI c ∧ c < 6 ∧ n' = n - q ∧ ru' = upd ru (so_ al) (nI (c + 1)) ∧ rs' = upd rs (6 * so_ al + c) (nI q) ∧ q ≤ 40 ∧ r = nI (c + 1))
theorem ru_in {b : Nat} (hb : b < 256) : (is_in (nI b) 33 126 = 0 ∧ ¬ (33 ≤ b ∧ b ≤ 126)) ∨ (is_in (nI b) 33 126 = 1 ∧ 33 ≤ b ∧ b ≤ 126) := by
  by_cases h : is_in (nI b) 33 126 = 0
  · refine Or.inl ⟨h, ?_⟩
    intro hc
    rcases is_inZ h with h1 | h1
    · have := tn_lt (b := 33) h1 (by omega) (by decide); omega
    · have := tn_lt (a := 126) h1 (by decide) (by omega); omega
  · obtain ⟨h1, h2⟩ := is_inN h
    have a := tn_nlt (b := 33) h1 (by omega) (by decide)
    have c := tn_nlt (a := 126) h2 (by decide) (by omega)
    exact Or.inr ⟨is_in1 h1 h2, a, c⟩
theorem ru_step {bs : Nat → Int32} {n q j : Nat} {s : Int32} (h : RSJ bs n q j s) (hs : ¬ s = 0) (h1 : n - q ≤ j) (h2 : j < n) (hb : bt bs j < 256) : RSJ bs n q (j + 1) (is_in (nI (bt bs j)) 33 126) := by
  rcases h with ⟨_, h⟩ | ⟨h, _⟩
  · rcases ru_in hb with ⟨e, hn⟩ | ⟨e, hy⟩
    · exact Or.inr ⟨e, j, h1, h2, hn⟩
    · refine Or.inl ⟨e, fun i h3 h4 => ?_⟩
      by_cases ei : i = j
      · rw [ei]; exact hy
      · exact h i h3 (by omega)
  · exact absurd h hs
theorem ru_k {k : Int32} (h : ¬ is_in k 1 40 = 0) : ∃ q, k = nI q ∧ 1 ≤ q ∧ q ≤ 40 := by
  obtain ⟨h1, h2⟩ := is_inN h
  have h0 : ¬ k < 0 := by
    intro h0
    apply h1
    rw [Int32.lt_iff_toInt_lt] at h0 ⊢
    have e0 : (0 : Int32).toInt = 0 := by decide
    have e1 : (1 : Int32).toInt = 1 := by decide
    omega
  obtain ⟨q, hq, rfl⟩ := nI_of h0
  have a := tn_nlt (b := 1) h1 hq (by decide)
  have c := tn_nlt (a := 40) h2 (by decide) hq
  exact ⟨q, rfl, a, c⟩
theorem ru_n1 {bs : Nat → Int32} {n : Nat} {k : Int32} (h : is_in k 1 40 = 0) : ¬ RSM bs n k := by
  rintro ⟨q, rfl, h1, h2, _⟩
  rcases is_inZ h with h3 | h3
  · have := tn_lt (b := 1) h3 (by omega) (by decide); omega
  · have := tn_lt (a := 40) h3 (by decide) (by omega); omega
theorem ru_n2 {bs : Nat → Int32} {n q : Nat} (h : n < q) (hq : q ≤ 40 := by omega) : ¬ RSM bs n (nI q) := by
  rintro ⟨q2, e, h1, h2, h3, _⟩
  have := tn_eq e (by omega) (by omega)
  omega
theorem ru_n3 {bs : Nat → Int32} {n q j : Nat} {s : Int32} (h : RSJ bs n q j s) (hs : s = 0) (hq : q ≤ 40 := by omega) : ¬ RSM bs n (nI q) := by
  rintro ⟨q2, e, h1, h2, h3, h4⟩
  have eq := tn_eq e (by omega) (by omega)
  subst eq
  rcases h with ⟨h, _⟩ | ⟨_, i, h5, h6, h7⟩
  · rw [h] at hs; exact absurd hs (by decide)
  · exact h7 (h4 i h5 h6)
theorem ru_y {bs : Nat → Int32} {n q j : Nat} {s : Int32} (h : RSJ bs n q j s) (hs : ¬ s = 0) (hj : n ≤ j) (h1 : 1 ≤ q) (h2 : q ≤ 40) (h3 : q ≤ n) : RSM bs n (nI q) := by
  rcases h with ⟨_, h⟩ | ⟨h, _⟩
  · exact ⟨q, rfl, h1, h2, h3, fun i h4 h5 => h i h4 (by omega)⟩
  · exact absurd h hs
