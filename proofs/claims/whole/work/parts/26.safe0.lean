/-! Safety: what a layout holds, and what is always true of it. -/
abbrev LY : Type := Nat × (Nat → Int32) × Nat × (Nat → Int64) × (Nat → Int32) × (Nat → Int32) × (Nat → Int32) × (Nat → Int32) × (Nat → Int32) × (Nat → Int32) × (Nat → Int32) × (Nat → Int32) × (Nat → Int32) × (Nat → Int32) × Int32 × Int32 × Int32 × Nat × Nat × Int32
abbrev LY.n (v : LY) : Nat := v.1
abbrev LY.b (v : LY) : Nat → Int32 := v.2.1
abbrev LY.lo (v : LY) : Nat := v.2.2.1
abbrev LY.rw (v : LY) : Nat → Int64 := v.2.2.2.1
abbrev LY.bg (v : LY) : Nat → Int32 := v.2.2.2.2.1
abbrev LY.wt (v : LY) : Nat → Int32 := v.2.2.2.2.2.1
abbrev LY.dp (v : LY) : Nat → Int32 := v.2.2.2.2.2.2.1
abbrev LY.tg (v : LY) : Nat → Int32 := v.2.2.2.2.2.2.2.1
abbrev LY.ca (v : LY) : Nat → Int32 := v.2.2.2.2.2.2.2.2.1
abbrev LY.fs (v : LY) : Nat → Int32 := v.2.2.2.2.2.2.2.2.2.1
abbrev LY.sc (v : LY) : Nat → Int32 := v.2.2.2.2.2.2.2.2.2.2.1
abbrev LY.fa (v : LY) : Nat → Int32 := v.2.2.2.2.2.2.2.2.2.2.2.1
abbrev LY.ma (v : LY) : Nat → Int32 := v.2.2.2.2.2.2.2.2.2.2.2.2.1
abbrev LY.co (v : LY) : Nat → Int32 := v.2.2.2.2.2.2.2.2.2.2.2.2.2.1
abbrev LY.nu (v : LY) : Int32 := v.2.2.2.2.2.2.2.2.2.2.2.2.2.2.1
abbrev LY.th (v : LY) : Int32 := v.2.2.2.2.2.2.2.2.2.2.2.2.2.2.2.1
abbrev LY.it (v : LY) : Int32 := v.2.2.2.2.2.2.2.2.2.2.2.2.2.2.2.2.1
abbrev LY.fi (v : LY) : Nat := v.2.2.2.2.2.2.2.2.2.2.2.2.2.2.2.2.2.1
abbrev LY.me (v : LY) : Nat := v.2.2.2.2.2.2.2.2.2.2.2.2.2.2.2.2.2.2.1
abbrev LY.mp (v : LY) : Int32 := v.2.2.2.2.2.2.2.2.2.2.2.2.2.2.2.2.2.2.2
def LI (v : LY) : Prop := (v.n ≤ 600) ∧ (v.lo ≤ 600) ∧ (v.fi ≤ 75) ∧ (v.me ≤ 75) ∧ (∀ p, p < 600 → v.dp p = -1 ∨ ∃ d, d ≤ 64 ∧ v.dp p = nI d) ∧ (∀ p, p < 600 → (v.rw (8 * p)) &&& 15 ≠ 3) ∧ (∀ p, p < 600 → v.wt p = 1 → ¬ v.dp p = -1)
theorem LI.n {v : LY} (h : LI v) : v.n ≤ 600 := h.1
theorem LI.lo {v : LY} (h : LI v) : v.lo ≤ 600 := h.2.1
theorem LI.fi {v : LY} (h : LI v) : v.fi ≤ 75 := h.2.2.1
theorem LI.me {v : LY} (h : LI v) : v.me ≤ 75 := h.2.2.2.1
theorem LI.dp {v : LY} (h : LI v) : ∀ p, p < 600 → v.dp p = -1 ∨ ∃ d, d ≤ 64 ∧ v.dp p = nI d := h.2.2.2.2.1
theorem LI.s0 {v : LY} (h : LI v) : ∀ p, p < 600 → (v.rw (8 * p)) &&& 15 ≠ 3 := h.2.2.2.2.2.1
theorem LI.w0 {v : LY} (h : LI v) : ∀ p, p < 600 → v.wt p = 1 → ¬ v.dp p = -1 := h.2.2.2.2.2.2
/-- how far it is from one number to another -/
def ims (a b : Int32) : Nat := (b.toInt - a.toInt).toNat
theorem ims_succ {a b : Int32} (h : a < b) : (a + 1).toInt = a.toInt + 1 := by
  rw [Int32.lt_iff_toInt_lt] at h
  have h2 := Int32.toInt_lt b
  have h3 := Int32.le_toInt a
  rw [Int32.toInt_add]
  have e : (1 : Int32).toInt = 1 := by decide
  rw [e]
  apply Int.bmod_eq_of_le <;> omega
theorem ims_dec {a b : Int32} (h : ¬ b ≤ a) : ims (a + 1) b < ims a b := by
  have h := Int32.not_le.mp h
  have e := ims_succ h
  rw [Int32.lt_iff_toInt_lt] at h
  unfold ims
  omega
theorem tn_z {r : Int32} (h : r = 0 ∨ r = 1) : narrow .boolean (.int r) = .int r := by rcases h with rfl | rfl <;> decide
theorem tn_gin {k : Int32} {N : Nat} (h1 : ¬ k ≤ 0) (h2 : ¬ nI N ≤ k) (hN : N < 2 ^ 31) : vp_in k N := tn_in (n := N) (fun h => h1 (Int32.le_of_lt h)) h2 (Nat.le_refl _) hN
/-! where a switch goes to, whatever it is asked -/
theorem sw_nil (d x : Int) : Op.lookupswitch.offset [] d x = d := rfl
theorem sw_lk (T : List Int) : ∀ (ps : List (Int × Int)) (d x : Int), T.contains d = true → ps.all (fun q => T.contains q.2) = true → Op.lookupswitch.offset ps d x ∈ T := by
  intro ps
  induction ps with
  | nil => intro d x h1 _; rw [sw_nil]; exact List.contains_iff_mem.mp h1
  | cons q r ih =>
    intro d x h1 h2
    obtain ⟨a, o⟩ := q
    simp only [List.all_cons, Bool.and_eq_true] at h2
    rw [Op.lookupswitch.offset_cons]
    split
    · exact List.contains_iff_mem.mp h2.1
    · exact ih d x h1 h2.2
theorem sw_tb (T : List Int) (offs : Array Int) (lo hi x : Int) (h1 : ¬ x < lo) (h2 : ¬ hi < x) (h3 : (hi - lo + 1).toNat ≤ offs.size) (h4 : offs.toList.all (fun q => T.contains q) = true) : ∃ off ∈ T, offs[(x - lo).toNat]? = some off := by
  have hlt : (x - lo).toNat < offs.size := by omega
  refine ⟨offs[(x - lo).toNat], ?_, Array.getElem?_eq_getElem hlt⟩
  have := List.all_eq_true.mp h4 offs[(x - lo).toNat] (by simp)
  exact List.contains_iff_mem.mp this
theorem sf_two {f : Nat → Int32} {n : Nat} {i i2 r1 x2 r4 x5 : Int32} (h1 : r1 = im_b f n i) (h4 : r4 = im_b f n i2) (e2 : r1 <<< (8 &&& 31) = x2) (e5 : x2 ||| r4 = x5) : ∃ j, j < 65536 ∧ x5 = nI j := by
  obtain ⟨a, ha, hea⟩ := im_b_lt f n i
  obtain ⟨b, hb, heb⟩ := im_b_lt f n i2
  rw [hea] at h1
  rw [heb] at h4
  subst h1 h4
  refine ⟨a * 256 + b, by omega, ?_⟩
  rw [← e5, ← e2, ← tn_or8 ha hb]
  congr 1
  exact pk_shlN (n := a) (8 &&& 31) 8 (by decide) (by omega)
