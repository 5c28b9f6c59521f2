theorem sf_img {f : Nat → Int32} {n : Nat} {k r : Int32} (h : r = im_b f n k) (hz : ¬ r = 0) (hn : n ≤ 600) : ∃ j, j < 600 ∧ k = nI j := by
  by_cases h1 : k < 0
  · exact absurd (h.trans (im_b0 h1)) hz
  · by_cases h2 : nI n ≤ k
    · exact absurd (h.trans (im_b1 h2)) hz
    · obtain ⟨j, hj, rfl⟩ := nI_of h1
      exact ⟨j, by have := tn_nle h2 (by omega) hj; omega, rfl⟩
theorem ims_step {k e d x : Int32} (h : ¬ e ≤ k) (hk : ∃ j, j < 600 ∧ k = nI j) (hd : d = 1 ∨ d = 2 ∨ d = 3) (hx : k + d = x) : ims x e < ims k e := by
  obtain ⟨j, hj, rfl⟩ := hk
  have h := Int32.not_le.mp h
  rw [Int32.lt_iff_toInt_lt] at h
  have e1 : (nI j).toInt = (j : Int) := by
    exact nI_toInt (by omega)
  have e2 : ∃ m : Nat, 1 ≤ m ∧ m ≤ 3 ∧ d = nI m := by
    rcases hd with rfl | rfl | rfl
    · exact ⟨1, by decide, by decide, rfl⟩
    · exact ⟨2, by decide, by decide, rfl⟩
    · exact ⟨3, by decide, by decide, rfl⟩
  obtain ⟨m, hm1, hm2, rfl⟩ := e2
  rw [nI_add] at hx
  subst hx
  have e3 : (nI (j + m)).toInt = ((j + m : Nat) : Int) := by
    exact nI_toInt (by omega)
  unfold ims
  rw [e1] at h
  rw [e1, e3]
  omega
