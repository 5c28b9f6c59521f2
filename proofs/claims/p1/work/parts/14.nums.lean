/-! Numbers that the walks of the class meet. -/
theorem tn_in {i : Int32} {n N : Nat} (h1 : ¬ i < 0) (h2 : ¬ nI n ≤ i) (h : n ≤ N) (hN : N < 2 ^ 31) : vp_in i N := by
  rcases pk_ix i (n := n) (by omega) with h3 | h3 | ⟨j, hj, rfl⟩
  · exact absurd h3 h1
  · exact absurd h3 h2
  · exact vp_in_nI (by omega) hN
/-- what Image.oneAt answers -/
def im_b (f : Nat → Int32) (n : Nat) (i : Int32) : Int32 := if i < 0 ∨ nI n ≤ i then 0 else f i.toNatClampNeg &&& 255
theorem im_b0 {f : Nat → Int32} {n : Nat} {i : Int32} (h : i < 0) : im_b f n i = 0 := if_pos (Or.inl h)
theorem im_b1 {f : Nat → Int32} {n : Nat} {i : Int32} (h : nI n ≤ i) : im_b f n i = 0 := if_pos (Or.inr h)
theorem im_b2 {f : Nat → Int32} {n : Nat} {i : Int32} (h1 : ¬ i < 0) (h2 : ¬ nI n ≤ i) : im_b f n i = f i.toNatClampNeg &&& 255 := if_neg (fun h => h.elim h1 h2)
/-- the byte that feed makes of its word, and the row behind k of them -/
def fd_w (a b c d : Int32) (k : Nat) : Int32 := if k < 4 then a else if k < 8 then b else if k < 12 then c else d
def fd_v (w : Int32) (k : Nat) : Int32 := (w.toUInt32 >>> ((24 - 8 * (nI k &&& 3)).toUInt32 &&& Int32.toUInt32 31)).toInt32
def fd_f (f : Nat → Int32) (n : Nat) (a b c d : Int32) : Nat → (Nat → Int32)
  | 0 => f
  | k + 1 => upd (fd_f f n a b c d k) (n + k) (fd_v (fd_w a b c d k) k).toInt8.toInt32
theorem tn_le {a b : Nat} (h : nI a ≤ nI b) (ha : a < 2 ^ 31) (hb : b < 2 ^ 31) : a ≤ b := (nI_leI ha hb).mp h
theorem tn_nle {a b : Nat} (h : ¬ nI a ≤ nI b) (ha : a < 2 ^ 31) (hb : b < 2 ^ 31) : b < a := by
  have := mt (nI_leI ha hb).mpr h
  omega
theorem tn_lt {a b : Nat} (h : nI a < nI b) (ha : a < 2 ^ 31) (hb : b < 2 ^ 31) : a < b := (nI_ltI ha hb).mp h
theorem tn_nlt {a b : Nat} (h : ¬ nI a < nI b) (ha : a < 2 ^ 31) (hb : b < 2 ^ 31) : b ≤ a := by
  have := mt (nI_ltI ha hb).mpr h
  omega
theorem tn_01 {k : Int32} (h1 : ¬ k < 1) (h2 : ¬ 0 < k) : False := by
  rw [Int32.lt_iff_toInt_lt] at h1 h2
  have e1 : (1 : Int32).toInt = 1 := by decide
  have e0 : (0 : Int32).toInt = 0 := by decide
  omega
theorem tn_1 {k : Int32} (h1 : ¬ k < 0) (h2 : ¬ 1 < k) (h3 : ¬ k = 0) : k = 1 := by
  rw [Int32.lt_iff_toInt_lt] at h1 h2
  have e1 : (1 : Int32).toInt = 1 := by decide
  have e0 : (0 : Int32).toInt = 0 := by decide
  have h4 : ¬ k.toInt = 0 := fun h => h3 (Int32.toInt_inj.mp (by rw [h, e0]))
  exact Int32.toInt_inj.mp (by omega)
/-- an array is what it holds within its length -/
theorem tw_Pext {D : va_G} {cl : List vw_C} {ws : va_W} {H : Heap} {a N : Nat} {cA : ClassId} {f f' : Nat → Int32} (hP : va_P D cl ws H) (p : Nat) (hp : ws[p]? = some (a, .inl (cA, N, .inl f))) (h : ∀ j, j < N → f j = f' j) : va_P D cl (ws.set p (a, .inl (cA, N, .inl f'))) H := by
  have e : vp_cell cA (N, .inl f) = vp_cell cA (N, .inl f') := by
    rw [vp_cell_i, vp_cell_i]
    unfold arrV
    congr 1
    congr 1
    funext j
    show Value.int (f j.val) = Value.int (f' j.val)
    rw [h j.val j.isLt]
  intro k q hk
  by_cases hkp : k = p
  · subst hkp
    rw [List.getElem?_set_self (List.getElem?_eq_some_iff.mp hp).1] at hk
    cases hk
    show H[a]? = some (vp_cell cA (N, .inl f'))
    rw [← e]
    exact hP k _ hp
  · rw [List.getElem?_set_ne (Ne.symm hkp)] at hk
    exact hP k q hk
def fl_f (f : Nat → Int32) (v : Int32) (i : Nat) : Nat → Int32 := fun j => if j < i then v else f j
theorem fl_f0 (f : Nat → Int32) (v : Int32) : f = fl_f f v 0 := by funext j; simp [fl_f]
theorem fl_fs (f : Nat → Int32) (v : Int32) (i : Nat) : upd (fl_f f v i) i v = fl_f f v (i + 1) := by
  funext j
  by_cases h : j = i
  · subst h; simp [upd, fl_f]
  · by_cases h2 : j < i
    · simp [upd, fl_f, h, h2, show j < i + 1 by omega]
    · simp [upd, fl_f, h, h2, show ¬ j < i + 1 by omega]
theorem fl_fN {f : Nat → Int32} {v : Int32} {N : Nat} (j : Nat) (h : j < N) : fl_f f v N j = v := if_pos h
/-- what Image.holds answers -/
def im_h (n : Int32) (i : Int32) (k : Int64) : Int32 := if i < 0 ∨ k < 0 ∨ (n - i).toInt64 < k then 0 else 1
theorem im_h0 {n i : Int32} {k : Int64} (h : i < 0 ∨ k < 0 ∨ (n - i).toInt64 < k) : im_h n i k = 0 := if_pos h
theorem im_h1 {n i : Int32} {k : Int64} (h1 : ¬ i < 0) (h2 : ¬ k < 0) (h3 : ¬ (n - i).toInt64 < k) : im_h n i k = 1 := if_neg (fun h => h.elim h1 (fun h => h.elim h2 h3))
theorem tn_600 : (600 : Int32).toNatClampNeg = 600 := by decide
theorem tn_0 : (0 : Int32).toNatClampNeg = 0 := by decide
theorem tn_cf {f1 : Nat → Int32} (hf1 : ∀ j, j < 600 → fits .byte (.int (f1 j)) = true) : ∀ i, i < (600 : Int32).toNatClampNeg → fits .byte (.int (f1 ((0 : Int32).toNatClampNeg + i))) = true := fun i hi => hf1 _ (by rw [tn_600] at hi; rw [tn_0]; omega)
theorem tn_cp (f f0 : Nat → Int32) (j : Nat) (h : j < 600) : va_cpy f f0 (0 : Int32).toNatClampNeg (0 : Int32).toNatClampNeg (600 : Int32).toNatClampNeg j = f j := by
  rw [tn_0, tn_600, pk_cpy_in (by omega) (by omega)]
  congr 1
  omega
