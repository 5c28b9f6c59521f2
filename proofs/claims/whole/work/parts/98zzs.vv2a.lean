theorem FRG.quiet {dp iw kd : Nat → Int32} (h : FRG dp iw kd) (t : Nat) : FRG dp (upd iw t 0) kd := by
  refine ⟨h.1, ?_, h.2.2⟩
  intro p hp hw
  by_cases e : p = t
  · exact absurd (if_pos e) hw
  · simp only [upd, if_neg e] at hw; exact h.2.1 p hp hw
theorem cp_put {nw kd : Nat → Int32} {b k : Nat} (h : ∀ j, j < k → nw j = kd (b + j)) : ∀ j, j < k + 1 → upd nw k (kd (b + k)) j = kd (b + j) := by
  intro j hj
  by_cases e : j = k
  · subst e; exact if_pos rfl
  · exact (if_neg e).trans (h j (by omega))
theorem cp_put2 {bf nw : Nat → Int32} {k : Nat} (h : ∀ j, j < k → bf j = nw j) : ∀ j, j < k + 1 → upd bf k (nw k) j = nw j := by
  intro j hj
  by_cases e : j = k
  · subst e; exact if_pos rfl
  · exact (if_neg e).trans (h j (by omega))
theorem cp_now {nw kd : Nat → Int32} {b : Nat} (hk : ¬ kd b = 3 ∧ ¬ kd (b + 64) = 3) (h : ∀ j, j < 128 → nw j = kd (b + j)) : NOW nw := by
  constructor
  · rw [h 0 (by decide)]; exact hk.1
  · rw [h 64 (by decide)]; exact hk.2
theorem zr_now {nw : Nat → Int32} (h : ∀ j, j < 128 → nw j = 0) : NOW nw := by
  constructor
  · rw [h 0 (by decide)]; decide
  · rw [h 64 (by decide)]; decide
theorem fo_jT : ∀ c, c < 256 → ¬ is_in (nI c) 153 167 = 0 → fof (nI c) = nI 2 := by decide +kernel
theorem fo_j {c n : Nat} (h : fof (nI c) = nI n) (hc : ¬ is_in (nI c) 153 167 = 0) (hn : n ≤ 2) (h256 : c < 256) : n = 2 := (tn_eq ((fo_jT c h256 hc).symm.trans h) (by decide) (by omega)).symm
theorem fo_198 {c n : Nat} (h : fof (nI c) = nI n) (hc : nI c = 198) (hn : n ≤ 2) (h256 : c < 256) : n = 2 := by
  rw [hc] at h
  have e : fof 198 = nI 2 := by decide
  exact (tn_eq (e.symm.trans h) (by decide) (by omega)).symm
theorem fo_199 {c n : Nat} (h : fof (nI c) = nI n) (hc : nI c = 199) (hn : n ≤ 2) (h256 : c < 256) : n = 2 := by
  rw [hc] at h
  have e : fof 199 = nI 2 := by decide
  exact (tn_eq (e.symm.trans h) (by decide) (by omega)).symm
theorem ff_int {q : Nat} (h : q ≤ 601) : (nI q - 1).toInt = (q : Int) - 1 := by
  have e := pk_sub_toInt (a := q) (b := 1) (by omega) (by omega)
  exact e
theorem ff_lt {a q : Nat} (h : ¬ nI a ≤ nI q - 1) (hq : q ≤ 601) (ha : a ≤ 600) : q ≤ a := by
  rw [Int32.le_iff_toInt_le, ff_int hq, nI_toInt (by omega)] at h
  omega
theorem ff_ge {q : Nat} (h : 0 ≤ nI q - 1) (hq : q ≤ 601) : 1 ≤ q := by
  rw [Int32.le_iff_toInt_le, ff_int hq] at h
  have e : (0 : Int32).toInt = 0 := by decide
  omega
theorem ff_dn {q : Nat} (h : 1 ≤ q) : nI q - 1 = nI (q - 1) := sf_dn h
theorem ff_up (q : Nat) : nI q - 1 + 1 = nI (q + 1) - 1 := by
  rw [Int32.sub_add_cancel, sf_dn (q := q + 1) (by omega)]
  rfl
