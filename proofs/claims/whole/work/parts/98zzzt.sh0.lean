/-! The class's rule, and its kind. -/
def RSC (f : Nat → Int32) (n : Nat) (k : Int32) : Prop := ∃ q, k = nI q ∧ 1 ≤ q ∧ q ≤ 40 ∧ q ≤ n ∧ ∀ i, n - q ≤ i → i < n → 33 ≤ ib f n i ∧ ib f n i ≤ 126
theorem ru_k2 {k : Int32} (h1 : ¬ k < 1) (h2 : ¬ 40 < k) : ∃ q, k = nI q ∧ 1 ≤ q ∧ q ≤ 40 := ru_k (fun h => (is_inZ h).elim h1 h2)
theorem ru_c1 {f : Nat → Int32} {n : Nat} {k : Int32} (h : k < 1 ∨ 40 < k) : ¬ RSC f n k := by
  rintro ⟨q, rfl, h1, h2, _⟩
  rcases h with h | h
  · have := tn_lt (b := 1) h (by omega) (by decide); omega
  · have := tn_lt (a := 40) h (by decide) (by omega); omega
theorem ru_c2 {f : Nat → Int32} {n : Nat} {k : Int32} (h : nI n < k) (hn : n ≤ 600 := by omega) : ¬ RSC f n k := by
  rintro ⟨q, rfl, h1, h2, h3, _⟩
  have := tn_lt h (by omega) (by omega)
  omega
theorem ru_c3 {f : Nat → Int32} {n q : Nat} {r : Int32} (h : (r = 1 ∧ (∀ j, n - q ≤ j → j < n → 33 ≤ ib f n j ∧ ib f n j ≤ 126)) ∨ (r = 0 ∧ ¬ (∀ j, n - q ≤ j → j < n → 33 ≤ ib f n j ∧ ib f n j ≤ 126))) (h0 : r = 0) (hq : q ≤ 40 := by omega) : ¬ RSC f n (nI q) := by
  rintro ⟨q2, e, h1, h2, h3, h4⟩
  have eq := tn_eq e (by omega) (by omega)
  subst eq
  rcases h with ⟨h, _⟩ | ⟨_, h⟩
  · rw [h] at h0; exact absurd h0 (by decide)
  · exact h h4
theorem ru_cy {f : Nat → Int32} {n q : Nat} {r : Int32} (h : (r = 1 ∧ (∀ j, n - q ≤ j → j < n → 33 ≤ ib f n j ∧ ib f n j ≤ 126)) ∨ (r = 0 ∧ ¬ (∀ j, n - q ≤ j → j < n → 33 ≤ ib f n j ∧ ib f n j ≤ 126))) (h0 : ¬ r = 0) (h1 : 1 ≤ q) (h2 : q ≤ 40) (h3 : q ≤ n) : RSC f n (nI q) := by
  rcases h with ⟨_, h⟩ | ⟨h, _⟩
  · exact ⟨q, rfl, h1, h2, h3, h⟩
  · exact absurd h h0
theorem is_full6 {c : Nat} {r : Int32} (h : (r = 1 ∧ c = 6) ∨ (r = 0 ∧ c < 6)) (h0 : ¬ r = 0) : c = 6 := by
  rcases h with ⟨_, h⟩ | ⟨h, _⟩
  · exact h
  · exact absurd h h0
theorem is_full0 {c : Nat} {r : Int32} (h : (r = 1 ∧ c = 6) ∨ (r = 0 ∧ c < 6)) (h0 : r = 0) : c < 6 := by
  rcases h with ⟨h, _⟩ | ⟨_, h⟩
  · rw [h] at h0; exact absurd h0 (by decide)
  · exact h
theorem co_rng {v : LY} {k : Int32} (h : ¬ co_of v k = 0) (hm : v.me < 2 ^ 31) : ∃ j, j < v.me ∧ k = nI j := by
  by_cases h1 : k < 0
  · exact absurd (if_pos h1) h
  · obtain ⟨j, hj, rfl⟩ := nI_of h1
    by_cases h2 : nI v.me ≤ nI j
    · exact absurd ((if_neg h1).trans (if_pos h2)) h
    · exact ⟨j, tn_nle h2 hm hj, rfl⟩
theorem vp_m1 : ¬ vp_in (-1) 600 := by unfold vp_in; decide
theorem kd_loc {v : LY} (hL : LO64 v) (hm : v.me ≤ 600) {m w d r : Int32} {ji : Nat} {D : Prop} (h1 : w = -1 ∨ ¬ co_of v m = 0) (hd : d = -1 ∨ (vp_in w 600 ∧ D)) (hn : ¬ d = -1) (hr : r = im_two v.b v.n (co_of v m + 8)) (hi : nI ji < r) (hj : ji < 2 ^ 31) : ji < 64 := by
  have hw := (hd.resolve_left hn).1
  have hc := h1.resolve_left (fun e => vp_m1 (e ▸ hw))
  obtain ⟨j, hj2, rfl⟩ := co_rng hc (by omega)
  have h64 := (hL j hj2).resolve_left hc
  rw [← hr] at h64
  have h3 : nI ji < nI 64 := Int32.lt_of_lt_of_le hi h64
  exact tn_lt h3 hj (by decide)
theorem kd_stk {dp : Nat → Int32} (hdp : ∀ p, p < 600 → dp p = -1 ∨ ∃ d, d ≤ 64 ∧ dp p = nI d) {w d : Int32} {ji : Nat} (hd : d = -1 ∨ (vp_in w 600 ∧ d = dp w.toNatClampNeg)) (hn : ¬ d = -1) (hi : nI ji < d) (hj : ji < 2 ^ 31) : ji < 64 := by
  obtain ⟨hw, e⟩ := hd.resolve_left hn
  obtain ⟨p, hp, rfl⟩ := sf_ix hw
  rw [nI_clamp (by omega)] at e
  rcases hdp p hp with e2 | ⟨d2, hd2, e2⟩
  · exact absurd (e.trans e2) hn
  · rw [e, e2] at hi
    have := tn_lt hi hj (by omega)
    omega
