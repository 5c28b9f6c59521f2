/-! What the reference says of names and types, as functions of the bytes. -/
theorem tn_neq {a b : Nat} (h : ¬ nI a = nI b) : ¬ a = b := fun e => h (by rw [e])
def sgf (x : Int32) : Int32 := if x ≤ 32 then 0 else if x = 46 then 0 else if x = 59 then 0 else if x = 91 then 0 else if x = 47 then 0 else if x = 60 then 0 else if x = 62 then 0 else 1
def nmf (bs : Nat → Int32) : Nat → Nat → Int32 → Int32
  | 0, _, g => g
  | f + 1, k, g => nmf bs f (k + 1) (if g = 0 then 0 else sgf (bs k))
theorem nmf_0 {bs : Nat → Int32} {y k : Nat} {g : Int32} (h : y ≤ k) : nmf bs (y - k) k g = g := by
  rw [Nat.sub_eq_zero_of_le h]; rfl
theorem nmf_step {bs : Nat → Int32} {y k : Nat} {g : Int32} (h : k < y) : nmf bs (y - k) k g = nmf bs (y - (k + 1)) (k + 1) (if g = 0 then 0 else sgf (bs k)) := by
  have e : y - k = y - (k + 1) + 1 := by omega
  rw [e]; rfl
def cnf (bs : Nat → Int32) (y : Nat) : Nat → Nat → Nat → Int32 → Int32
  | 0, _, _, g => g
  | f + 1, k, b, g => if k = y ∨ bs k = 47 then cnf bs y f (k + 1) (k + 1) (if g = 0 then 0 else nmf bs (k - b) b (if b < k then 1 else 0)) else cnf bs y f (k + 1) b g
theorem cnf_0 {bs : Nat → Int32} {y k b : Nat} {g : Int32} (h : y < k) : cnf bs y (y + 1 - k) k b g = g := by
  rw [Nat.sub_eq_zero_of_le (by omega)]; rfl
theorem cnf_s1 {bs : Nat → Int32} {y k b : Nat} {g : Int32} (h : k ≤ y) (h2 : k = y ∨ bs k = 47) : cnf bs y (y + 1 - k) k b g = cnf bs y (y + 1 - (k + 1)) (k + 1) (k + 1) (if g = 0 then 0 else nmf bs (k - b) b (if b < k then 1 else 0)) := by
  have e : y + 1 - k = y + 1 - (k + 1) + 1 := by omega
  rw [e, cnf, if_pos h2]
theorem cnf_s2 {bs : Nat → Int32} {y k b : Nat} {g : Int32} (h : k ≤ y) (h2 : ¬ k = y) (h3 : ¬ bs k = 47) : cnf bs y (y + 1 - k) k b g = cnf bs y (y + 1 - (k + 1)) (k + 1) b g := by
  have e : y + 1 - k = y + 1 - (k + 1) + 1 := by omega
  rw [e, cnf, if_neg (fun q => q.elim h2 h3)]
def skb (bs : Nat → Int32) (y : Nat) : Nat → Nat → Nat
  | 0, k => k
  | f + 1, k => if bs k = 91 then skb bs y f (k + 1) else k
theorem skb_0 {bs : Nat → Int32} {y k : Nat} (h : y ≤ k) : skb bs y (y - k) k = k := by
  rw [Nat.sub_eq_zero_of_le h]; rfl
theorem skb_1 {bs : Nat → Int32} {y k f : Nat} (h : ¬ bs k = 91) : skb bs y f k = k := by
  cases f with
  | zero => rfl
  | succ f => rw [skb, if_neg h]
theorem skb_s {bs : Nat → Int32} {y k : Nat} (h : k < y) (h2 : bs k = 91) : skb bs y (y - k) k = skb bs y (y - (k + 1)) (k + 1) := by
  have e : y - k = y - (k + 1) + 1 := by omega
  rw [e, skb, if_pos h2]
def ske (bs : Nat → Int32) (y : Nat) : Nat → Nat → Nat
  | 0, k => k
  | f + 1, k => if bs k = 59 then k else ske bs y f (k + 1)
theorem ske_0 {bs : Nat → Int32} {y k : Nat} (h : y ≤ k) : ske bs y (y - k) k = k := by
  rw [Nat.sub_eq_zero_of_le h]; rfl
theorem ske_1 {bs : Nat → Int32} {y k f : Nat} (h : bs k = 59) : ske bs y f k = k := by
  cases f with
  | zero => rfl
  | succ f => rw [ske, if_pos h]
theorem ske_s {bs : Nat → Int32} {y k : Nat} (h : k < y) (h2 : ¬ bs k = 59) : ske bs y (y - k) k = ske bs y (y - (k + 1)) (k + 1) := by
  have e : y - k = y - (k + 1) + 1 := by omega
  rw [e, ske, if_neg h2]
theorem skb_rng (bs : Nat → Int32) (y : Nat) : ∀ f k, k ≤ skb bs y f k ∧ skb bs y f k ≤ k + f := by
  intro f
  induction f with
  | zero => intro k; exact ⟨Nat.le_refl _, Nat.le_refl _⟩
  | succ f ih =>
    intro k
    rw [skb]
    split
    · have := ih (k + 1); omega
    · omega
theorem ske_rng (bs : Nat → Int32) (y : Nat) : ∀ f k, k ≤ ske bs y f k ∧ ske bs y f k ≤ k + f := by
  intro f
  induction f with
  | zero => intro k; exact ⟨Nat.le_refl _, Nat.le_refl _⟩
  | succ f ih =>
    intro k
    rw [ske]
    split
    · omega
    · have := ih (k + 1); omega
def tel (x : Int32) (k : Nat) : Int32 := if x = 66 then nI (k + 1) else if x = 67 then nI (k + 1) else if x = 68 then nI (k + 1) else if x = 70 then nI (k + 1) else if x = 73 then nI (k + 1) else if x = 74 then nI (k + 1) else if x = 83 then nI (k + 1) else if x = 90 then nI (k + 1) else -1
def teE (bs : Nat → Int32) (y k j : Nat) : Int32 := if j < y then (if cnf bs j (j + 1 - (k + 1)) (k + 1) (k + 1) 1 = 0 then -1 else nI (j + 1)) else -1
def teK (bs : Nat → Int32) (y k : Nat) : Int32 := if k = y then -1 else if bs k = 76 then teE bs y k (ske bs y (y - (k + 1)) (k + 1)) else tel (bs k) k
def tef (bs : Nat → Int32) (x y : Nat) : Int32 := teK bs y (skb bs y (y - x) x)
theorem tel_rng (x : Int32) (k : Nat) : tel x k = -1 ∨ tel x k = nI (k + 1) := by
  unfold tel
  repeat' split
  all_goals first | exact Or.inl rfl | exact Or.inr rfl
theorem tef_rng {bs : Nat → Int32} {x y : Nat} (h : x ≤ y) : tef bs x y = -1 ∨ ∃ r, tef bs x y = nI r ∧ x < r ∧ r ≤ y := by
  unfold tef teK
  have h1 := skb_rng bs y (y - x) x
  generalize hk : skb bs y (y - x) x = k at h1 ⊢
  split
  · exact Or.inl rfl
  · split
    · unfold teE
      have h2 := ske_rng bs y (y - (k + 1)) (k + 1)
      generalize hj : ske bs y (y - (k + 1)) (k + 1) = j at h2 ⊢
      split
      · split
        · exact Or.inl rfl
        · exact Or.inr ⟨j + 1, rfl, by omega, by omega⟩
      · exact Or.inl rfl
    · rcases tel_rng (bs k) k with e | e
      · exact Or.inl e
      · exact Or.inr ⟨k + 1, e, by omega, by omega⟩
theorem nI_m1 {n : Nat} (h : n < 2 ^ 31) : ¬ nI n = -1 := by
  intro e
  have e2 := congrArg Int32.toInt e
  rw [nI_toInt h] at e2
  have e3 : (-1 : Int32).toInt = -1 := by decide
  omega
theorem tef_lt {bs : Nat → Int32} {x y : Nat} (hy : y ≤ 600 ∧ x ≤ y) (h : tef bs x y = nI y) : x < y := by
  rcases tef_rng (bs := bs) hy.2 with e | ⟨r, e, h1, h2⟩
  · exact absurd (h.symm.trans e) (nI_m1 (by omega))
  · omega
def MTC (bs : Nat → Int32) (y : Nat) : Nat → Nat → Prop
  | 0, k => k < y ∧ bs k = 41 ∧ k + 1 < y
  | f + 1, k => (k < y ∧ bs k = 41 ∧ k + 1 < y) ∨ (k < y ∧ ¬ bs k = 41 ∧ ∃ r, tef bs k y = nI r ∧ k < r ∧ r ≤ y ∧ MTC bs y f r)
def MTX (bs : Nat → Int32) (y k : Nat) : Prop := ∃ f, MTC bs y f k
def MTY (bs : Nat → Int32) (x y : Nat) : Prop := x < y ∧ MTX bs y (x + 1)
theorem mt_back {bs : Nat → Int32} {x y k : Nat} {r : Int32} (h : r = tef bs k y) (hk : x + 1 ≤ k) (h1 : k < y) (h2 : ¬ bs k = 41) (h3 : MTX bs y k → MTX bs y (x + 1)) : r = -1 ∨ ∃ k, r = nI k ∧ x + 1 ≤ k ∧ k ≤ y ∧ (MTX bs y k → MTX bs y (x + 1)) := by
  rcases tef_rng (bs := bs) (Nat.le_of_lt h1) with e | ⟨j, e, h4, h5⟩
  · exact Or.inl (h.trans e)
  · exact Or.inr ⟨j, h.trans e, by omega, h5, fun ⟨f, hf⟩ => h3 ⟨f + 1, Or.inr ⟨h1, h2, j, e, h4, h5, hf⟩⟩⟩
def msr (v : Int32) (y : Nat) : Nat := if v = -1 then 0 else ims v (nI y) + 1
theorem mt_dec {bs : Nat → Int32} {y k : Nat} {r : Int32} (h : r = tef bs k y) (hk : k ≤ 600) (hy : y ≤ 600) (h1 : k < y) : msr r y < msr (nI k) y := by
  unfold msr
  rw [if_neg (nI_m1 (by omega))]
  rcases tef_rng (bs := bs) (Nat.le_of_lt h1) with e | ⟨j, e, h4, h5⟩
  · rw [if_pos (h.trans e)]; omega
  · rw [h.trans e, if_neg (nI_m1 (by omega))]
    unfold ims
    rw [nI_toInt (by omega), nI_toInt (by omega), nI_toInt (by omega)]
    omega
