/-! Numbers that the walks of the class meet. -/
theorem tn_in {i : Int32} {n N : Nat} (h1 : ¬ i < 0) (h2 : ¬ nI n ≤ i) (h : n ≤ N) (hN : N < 2 ^ 31) : vp_in i N := by
  rcases pk_ix i (n := n) (by omega) with h3 | h3 | ⟨j, hj, rfl⟩
  · exact absurd h3 h1
  · exact absurd h3 h2
  · exact vp_in_nI (by omega) hN
/-- what Image.oneAt answers -/
def im_b (f : Nat → Int32) (n : Nat) (i : Int32) : Int32 := if i < 0 ∨ nI n ≤ i then 0 else f i.toNatClampNeg &&& 255
theorem im_b0 {f : Nat → Int32} {n : Nat} {i : Int32} (h : i < 0) : im_b f n i = 0 := if_pos (Or.inl h)
theorem im_b1 {f : Nat → Int32} {n : Nat} {i : Int32} (h : nI n ≤ i) : im_b f n i = 0 := if_pos (Or.inr h)
theorem im_b2 {f : Nat → Int32} {n : Nat} {i : Int32} (h1 : ¬ i < 0) (h2 : ¬ nI n ≤ i) : im_b f n i = f i.toNatClampNeg &&& 255 := if_neg (fun h => h.elim h1 h2)
/-- the byte that feed makes of its word, and the row behind k of them -/
def fd_w (a b c d : Int32) (k : Nat) : Int32 := if k < 4 then a else if k < 8 then b else if k < 12 then c else d
def fd_v (w : Int32) (k : Nat) : Int32 := (w.toUInt32 >>> ((24 - 8 * (nI k &&& 3)).toUInt32 &&& Int32.toUInt32 31)).toInt32
def fd_f (f : Nat → Int32) (n : Nat) (a b c d : Int32) : Nat → (Nat → Int32)
  | 0 => f
  | k + 1 => upd (fd_f f n a b c d k) (n + k) (fd_v (fd_w a b c d k) k).toInt8.toInt32
theorem tn_le {a b : Nat} (h : nI a ≤ nI b) (ha : a < 2 ^ 31) (hb : b < 2 ^ 31) : a ≤ b := (nI_leI ha hb).mp h
theorem tn_nle {a b : Nat} (h : ¬ nI a ≤ nI b) (ha : a < 2 ^ 31) (hb : b < 2 ^ 31) : b < a := by
  have := mt (nI_leI ha hb).mpr h
  omega
theorem tn_lt {a b : Nat} (h : nI a < nI b) (ha : a < 2 ^ 31) (hb : b < 2 ^ 31) : a < b := (nI_ltI ha hb).mp h
theorem tn_nlt {a b : Nat} (h : ¬ nI a < nI b) (ha : a < 2 ^ 31) (hb : b < 2 ^ 31) : b ≤ a := by
  have := mt (nI_ltI ha hb).mpr h
  omega
theorem tn_01 {k : Int32} (h1 : ¬ k < 1) (h2 : ¬ 0 < k) : False := by
  rw [Int32.lt_iff_toInt_lt] at h1 h2
  have e1 : (1 : Int32).toInt = 1 := by decide
  have e0 : (0 : Int32).toInt = 0 := by decide
  omega
theorem tn_1 {k : Int32} (h1 : ¬ k < 0) (h2 : ¬ 1 < k) (h3 : ¬ k = 0) : k = 1 := by
  rw [Int32.lt_iff_toInt_lt] at h1 h2
  have e1 : (1 : Int32).toInt = 1 := by decide
  have e0 : (0 : Int32).toInt = 0 := by decide
  have h4 : ¬ k.toInt = 0 := fun h => h3 (Int32.toInt_inj.mp (by rw [h, e0]))
  exact Int32.toInt_inj.mp (by omega)
