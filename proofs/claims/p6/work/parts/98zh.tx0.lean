section
/-! What the reference says of names and types, as functions of the bytes. -/
theorem tn_neq {a b : Nat} (h : ¬ nI a = nI b) : ¬ a = b := fun e => h (by rw [e])
def sgf (x : Int32) : Int32 := if x ≤ 32 then 0 else if x = 46 then 0 else if x = 59 then 0 else if x = 91 then 0 else if x = 47 then 0 else if x = 60 then 0 else if x = 62 then 0 else 1
def nmf (bs : Nat → Int32) : Nat → Nat → Int32 → Int32
  | 0, _, g => g
  | f + 1, k, g => nmf bs f (k + 1) (if g = 0 then 0 else sgf (bs k))
theorem nmf_0 {bs : Nat → Int32} {y k : Nat} {g : Int32} (h : y ≤ k) : nmf bs (y - k) k g = g := by
  rw [Nat.sub_eq_zero_of_le h]; rfl
theorem nmf_step {bs : Nat → Int32} {y k : Nat} {g : Int32} (h : k < y) : nmf bs (y - k) k g = nmf bs (y - (k + 1)) (k + 1) (if g = 0 then 0 else sgf (bs k)) := by
  have e : y - k = y - (k + 1) + 1 := by omega
  rw [e]; rfl
def cnf (bs : Nat → Int32) (y : Nat) : Nat → Nat → Nat → Int32 → Int32
  | 0, _, _, g => g
  | f + 1, k, b, g => if k = y ∨ bs k = 47 then cnf bs y f (k + 1) (k + 1) (if g = 0 then 0 else nmf bs (k - b) b (if b < k then 1 else 0)) else cnf bs y f (k + 1) b g
theorem cnf_0 {bs : Nat → Int32} {y k b : Nat} {g : Int32} (h : y < k) : cnf bs y (y + 1 - k) k b g = g := by
  rw [Nat.sub_eq_zero_of_le (by omega)]; rfl
theorem cnf_s1 {bs : Nat → Int32} {y k b : Nat} {g : Int32} (h : k ≤ y) (h2 : k = y ∨ bs k = 47) : cnf bs y (y + 1 - k) k b g = cnf bs y (y + 1 - (k + 1)) (k + 1) (k + 1) (if g = 0 then 0 else nmf bs (k - b) b (if b < k then 1 else 0)) := by
  have e : y + 1 - k = y + 1 - (k + 1) + 1 := by omega
  rw [e, cnf, if_pos h2]
theorem cnf_s2 {bs : Nat → Int32} {y k b : Nat} {g : Int32} (h : k ≤ y) (h2 : ¬ k = y) (h3 : ¬ bs k = 47) : cnf bs y (y + 1 - k) k b g = cnf bs y (y + 1 - (k + 1)) (k + 1) b g := by
  have e : y + 1 - k = y + 1 - (k + 1) + 1 := by omega
  rw [e, cnf, if_neg (fun q => q.elim h2 h3)]
def skb (bs : Nat → Int32) (y : Nat) : Nat → Nat → Nat
  | 0, k => k
  | f + 1, k => if bs k = 91 then skb bs y f (k + 1) else k
theorem skb_0 {bs : Nat → Int32} {y k : Nat} (h : y ≤ k) : skb bs y (y - k) k = k := by
  rw [Nat.sub_eq_zero_of_le h]; rfl
theorem skb_1 {bs : Nat → Int32} {y k f : Nat} (h : ¬ bs k = 91) : skb bs y f k = k := by
  cases f with
  | zero => rfl
  | succ f => rw [skb, if_neg h]
theorem skb_s {bs : Nat → Int32} {y k : Nat} (h : k < y) (h2 : bs k = 91) : skb bs y (y - k) k = skb bs y (y - (k + 1)) (k + 1) := by
  have e : y - k = y - (k + 1) + 1 := by omega
  rw [e, skb, if_pos h2]
def ske (bs : Nat → Int32) (y : Nat) : Nat → Nat → Nat
  | 0, k => k
  | f + 1, k => if bs k = 59 then k else ske bs y f (k + 1)
theorem ske_0 {bs : Nat → Int32} {y k : Nat} (h : y ≤ k) : ske bs y (y - k) k = k := by
  rw [Nat.sub_eq_zero_of_le h]; rfl
theorem ske_1 {bs : Nat → Int32} {y k f : Nat} (h : bs k = 59) : ske bs y f k = k := by
  cases f with
  | zero => rfl
  | succ f => rw [ske, if_pos h]
theorem ske_s {bs : Nat → Int32} {y k : Nat} (h : k < y) (h2 : ¬ bs k = 59) : ske bs y (y - k) k = ske bs y (y - (k + 1)) (k + 1) := by
  have e : y - k = y - (k + 1) + 1 := by omega
  rw [e, ske, if_neg h2]
theorem skb_rng (bs : Nat → Int32) (y : Nat) : ∀ f k, k ≤ skb bs y f k ∧ skb bs y f k ≤ k + f := by
  intro f
  induction f with
  | zero => intro k; exact ⟨Nat.le_refl _, Nat.le_refl _⟩
  | succ f ih =>
    intro k
    rw [skb]
    split
    · have := ih (k + 1); omega
    · omega
theorem ske_rng (bs : Nat → Int32) (y : Nat) : ∀ f k, k ≤ ske bs y f k ∧ ske bs y f k ≤ k + f := by
  intro f
  induction f with
  | zero => intro k; exact ⟨Nat.le_refl _, Nat.le_refl _⟩
  | succ f ih =>
    intro k
    rw [ske]
    split
    · omega
    · have := ih (k + 1); omega
def tel (x : Int32) (k : Nat) : Int32 := if x = 66 then nI (k + 1) else if x = 67 then nI (k + 1) else if x = 68 then nI (k + 1) else if x = 70 then nI (k + 1) else if x = 73 then nI (k + 1) else if x = 74 then nI (k + 1) else if x = 83 then nI (k + 1) else if x = 90 then nI (k + 1) else -1
def teE (bs : Nat → Int32) (y k j : Nat) : Int32 := if j < y then (if cnf bs j (j + 1 - (k + 1)) (k + 1) (k + 1) 1 = 0 then -1 else nI (j + 1)) else -1
def teK (bs : Nat → Int32) (y k : Nat) : Int32 := if k = y then -1 else if bs k = 76 then teE bs y k (ske bs y (y - (k + 1)) (k + 1)) else tel (bs k) k
def tef (bs : Nat → Int32) (x y : Nat) : Int32 := teK bs y (skb bs y (y - x) x)
theorem tel_rng (x : Int32) (k : Nat) : tel x k = -1 ∨ tel x k = nI (k + 1) := by
  unfold tel
  repeat' split
  all_goals first | exact Or.inl rfl | exact Or.inr rfl
theorem tef_rng {bs : Nat → Int32} {x y : Nat} (h : x ≤ y) : tef bs x y = -1 ∨ ∃ r, tef bs x y = nI r ∧ x < r ∧ r ≤ y := by
  unfold tef teK
  have h1 := skb_rng bs y (y - x) x
  generalize hk : skb bs y (y - x) x = k at h1 ⊢
  split
  · exact Or.inl rfl
  · split
    · unfold teE
      have h2 := ske_rng bs y (y - (k + 1)) (k + 1)
      generalize hj : ske bs y (y - (k + 1)) (k + 1) = j at h2 ⊢
      split
      · split
        · exact Or.inl rfl
        · exact Or.inr ⟨j + 1, rfl, by omega, by omega⟩
      · exact Or.inl rfl
    · rcases tel_rng (bs k) k with e | e
      · exact Or.inl e
      · exact Or.inr ⟨k + 1, e, by omega, by omega⟩
theorem nI_m1 {n : Nat} (h : n < 2 ^ 31) : ¬ nI n = -1 := by
  intro e
  have e2 := congrArg Int32.toInt e
  rw [nI_toInt h] at e2
  have e3 : (-1 : Int32).toInt = -1 := by decide
  omega
theorem tef_lt {bs : Nat → Int32} {x y : Nat} (hy : y ≤ 600 ∧ x ≤ y) (h : tef bs x y = nI y) : x < y := by
  rcases tef_rng (bs := bs) hy.2 with e | ⟨r, e, h1, h2⟩
  · exact absurd (h.symm.trans e) (nI_m1 (by omega))
  · omega
def MTC (bs : Nat → Int32) (y : Nat) : Nat → Nat → Prop
  | 0, k => k < y ∧ bs k = 41 ∧ k + 1 < y
  | f + 1, k => (k < y ∧ bs k = 41 ∧ k + 1 < y) ∨ (k < y ∧ ¬ bs k = 41 ∧ ∃ r, tef bs k y = nI r ∧ k < r ∧ r ≤ y ∧ MTC bs y f r)
def MTX (bs : Nat → Int32) (y k : Nat) : Prop := ∃ f, MTC bs y f k
def MTY (bs : Nat → Int32) (x y : Nat) : Prop := x < y ∧ MTX bs y (x + 1)
theorem mt_back {bs : Nat → Int32} {x y k : Nat} {r : Int32} (h : r = tef bs k y) (hk : x + 1 ≤ k) (h1 : k < y) (h2 : ¬ bs k = 41) (h3 : MTX bs y k → MTX bs y (x + 1)) : r = -1 ∨ ∃ k, r = nI k ∧ x + 1 ≤ k ∧ k ≤ y ∧ (MTX bs y k → MTX bs y (x + 1)) := by
  rcases tef_rng (bs := bs) (Nat.le_of_lt h1) with e | ⟨j, e, h4, h5⟩
  · exact Or.inl (h.trans e)
  · exact Or.inr ⟨j, h.trans e, by omega, h5, fun ⟨f, hf⟩ => h3 ⟨f + 1, Or.inr ⟨h1, h2, j, e, h4, h5, hf⟩⟩⟩
def msr (v : Int32) (y : Nat) : Nat := if v = -1 then 0 else ims v (nI y) + 1
theorem mt_dec {bs : Nat → Int32} {y k : Nat} {r : Int32} (h : r = tef bs k y) (hk : k ≤ 600) (hy : y ≤ 600) (h1 : k < y) : msr r y < msr (nI k) y := by
  unfold msr
  rw [if_neg (nI_m1 (by omega))]
  rcases tef_rng (bs := bs) (Nat.le_of_lt h1) with e | ⟨j, e, h4, h5⟩
  · rw [if_pos (h.trans e)]; omega
  · rw [h.trans e, if_neg (nI_m1 (by omega))]
    unfold ims
    rw [nI_toInt (by omega), nI_toInt (by omega), nI_toInt (by omega)]
    omega
end
section
theorem d_Mod_isClassName_0 : decode b_Mod_isClassName 0 = .ok (.iconst 1, 1) := by decide +kernel
theorem d_Mod_isClassName_1 : decode b_Mod_isClassName 1 = .ok (.istore_n 3, 1) := by decide +kernel
theorem d_Mod_isClassName_2 : decode b_Mod_isClassName 2 = .ok (.iload_n 1, 1) := by decide +kernel
theorem d_Mod_isClassName_3 : decode b_Mod_isClassName 3 = .ok (.istore 4, 2) := by decide +kernel
theorem d_Mod_isClassName_5 : decode b_Mod_isClassName 5 = .ok (.iload_n 1, 1) := by decide +kernel
theorem d_Mod_isClassName_6 : decode b_Mod_isClassName 6 = .ok (.istore 5, 2) := by decide +kernel
theorem d_Mod_isClassName_8 : decode b_Mod_isClassName 8 = .ok (.iload 5, 2) := by decide +kernel
theorem d_Mod_isClassName_10 : decode b_Mod_isClassName 10 = .ok (.iload_n 2, 1) := by decide +kernel
theorem d_Mod_isClassName_11 : decode b_Mod_isClassName 11 = .ok (.if_icmp .gt 54, 3) := by decide +kernel
theorem d_Mod_isClassName_14 : decode b_Mod_isClassName 14 = .ok (.iload 5, 2) := by decide +kernel
theorem d_Mod_isClassName_16 : decode b_Mod_isClassName 16 = .ok (.iload_n 2, 1) := by decide +kernel
theorem d_Mod_isClassName_17 : decode b_Mod_isClassName 17 = .ok (.if_icmp .eq 15, 3) := by decide +kernel
theorem d_Mod_isClassName_20 : decode b_Mod_isClassName 20 = .ok (.aload_n 0, 1) := by decide +kernel
theorem d_Mod_isClassName_21 : decode b_Mod_isClassName 21 = .ok (.getfield 7, 3) := by decide +kernel
theorem d_Mod_isClassName_24 : decode b_Mod_isClassName 24 = .ok (.iload 5, 2) := by decide +kernel
theorem d_Mod_isClassName_26 : decode b_Mod_isClassName 26 = .ok (.iaload, 1) := by decide +kernel
theorem d_Mod_isClassName_27 : decode b_Mod_isClassName 27 = .ok (.bipush 47, 2) := by decide +kernel
theorem d_Mod_isClassName_29 : decode b_Mod_isClassName 29 = .ok (.if_icmp .ne 30, 3) := by decide +kernel
theorem d_Mod_isClassName_32 : decode b_Mod_isClassName 32 = .ok (.iload_n 3, 1) := by decide +kernel
theorem d_Mod_isClassName_33 : decode b_Mod_isClassName 33 = .ok (.ifCond .eq 18, 3) := by decide +kernel
theorem d_Mod_isClassName_36 : decode b_Mod_isClassName 36 = .ok (.aload_n 0, 1) := by decide +kernel
theorem d_Mod_isClassName_37 : decode b_Mod_isClassName 37 = .ok (.iload 4, 2) := by decide +kernel
theorem d_Mod_isClassName_39 : decode b_Mod_isClassName 39 = .ok (.iload 5, 2) := by decide +kernel
theorem d_Mod_isClassName_41 : decode b_Mod_isClassName 41 = .ok (.invokevirtual 241, 3) := by decide +kernel
theorem d_Mod_isClassName_44 : decode b_Mod_isClassName 44 = .ok (.ifCond .eq 7, 3) := by decide +kernel
theorem d_Mod_isClassName_47 : decode b_Mod_isClassName 47 = .ok (.iconst 1, 1) := by decide +kernel
theorem d_Mod_isClassName_48 : decode b_Mod_isClassName 48 = .ok (.goto 4, 3) := by decide +kernel
theorem d_Mod_isClassName_51 : decode b_Mod_isClassName 51 = .ok (.iconst 0, 1) := by decide +kernel
theorem d_Mod_isClassName_52 : decode b_Mod_isClassName 52 = .ok (.istore_n 3, 1) := by decide +kernel
theorem d_Mod_isClassName_53 : decode b_Mod_isClassName 53 = .ok (.iload 5, 2) := by decide +kernel
theorem d_Mod_isClassName_55 : decode b_Mod_isClassName 55 = .ok (.iconst 1, 1) := by decide +kernel
theorem d_Mod_isClassName_56 : decode b_Mod_isClassName 56 = .ok (.iadd, 1) := by decide +kernel
theorem d_Mod_isClassName_57 : decode b_Mod_isClassName 57 = .ok (.istore 4, 2) := by decide +kernel
theorem d_Mod_isClassName_59 : decode b_Mod_isClassName 59 = .ok (.iinc 5 1, 3) := by decide +kernel
theorem d_Mod_isClassName_62 : decode b_Mod_isClassName 62 = .ok (.goto (-54), 3) := by decide +kernel
theorem d_Mod_isClassName_65 : decode b_Mod_isClassName 65 = .ok (.iload_n 3, 1) := by decide +kernel
theorem d_Mod_isClassName_66 : decode b_Mod_isClassName 66 = .ok (.ireturn, 1) := by decide +kernel
theorem d_Mod_isMethodType_0 : decode b_Mod_isMethodType 0 = .ok (.iload_n 1, 1) := by decide +kernel
theorem d_Mod_isMethodType_1 : decode b_Mod_isMethodType 1 = .ok (.iload_n 2, 1) := by decide +kernel
theorem d_Mod_isMethodType_2 : decode b_Mod_isMethodType 2 = .ok (.if_icmp .eq 14, 3) := by decide +kernel
theorem d_Mod_isMethodType_5 : decode b_Mod_isMethodType 5 = .ok (.aload_n 0, 1) := by decide +kernel
theorem d_Mod_isMethodType_6 : decode b_Mod_isMethodType 6 = .ok (.getfield 7, 3) := by decide +kernel
theorem d_Mod_isMethodType_9 : decode b_Mod_isMethodType 9 = .ok (.iload_n 1, 1) := by decide +kernel
theorem d_Mod_isMethodType_10 : decode b_Mod_isMethodType 10 = .ok (.iaload, 1) := by decide +kernel
theorem d_Mod_isMethodType_11 : decode b_Mod_isMethodType 11 = .ok (.bipush 40, 2) := by decide +kernel
theorem d_Mod_isMethodType_13 : decode b_Mod_isMethodType 13 = .ok (.if_icmp .eq 5, 3) := by decide +kernel
theorem d_Mod_isMethodType_16 : decode b_Mod_isMethodType 16 = .ok (.iconst 0, 1) := by decide +kernel
theorem d_Mod_isMethodType_17 : decode b_Mod_isMethodType 17 = .ok (.ireturn, 1) := by decide +kernel
theorem d_Mod_isMethodType_18 : decode b_Mod_isMethodType 18 = .ok (.iload_n 1, 1) := by decide +kernel
theorem d_Mod_isMethodType_19 : decode b_Mod_isMethodType 19 = .ok (.iconst 1, 1) := by decide +kernel
theorem d_Mod_isMethodType_20 : decode b_Mod_isMethodType 20 = .ok (.iadd, 1) := by decide +kernel
theorem d_Mod_isMethodType_21 : decode b_Mod_isMethodType 21 = .ok (.istore_n 3, 1) := by decide +kernel
theorem d_Mod_isMethodType_22 : decode b_Mod_isMethodType 22 = .ok (.iload_n 3, 1) := by decide +kernel
theorem d_Mod_isMethodType_23 : decode b_Mod_isMethodType 23 = .ok (.ifCond .lt 29, 3) := by decide +kernel
theorem d_Mod_isMethodType_26 : decode b_Mod_isMethodType 26 = .ok (.iload_n 3, 1) := by decide +kernel
theorem d_Mod_isMethodType_27 : decode b_Mod_isMethodType 27 = .ok (.iload_n 2, 1) := by decide +kernel
theorem d_Mod_isMethodType_28 : decode b_Mod_isMethodType 28 = .ok (.if_icmp .ge 24, 3) := by decide +kernel
theorem d_Mod_isMethodType_31 : decode b_Mod_isMethodType 31 = .ok (.aload_n 0, 1) := by decide +kernel
theorem d_Mod_isMethodType_32 : decode b_Mod_isMethodType 32 = .ok (.getfield 7, 3) := by decide +kernel
theorem d_Mod_isMethodType_35 : decode b_Mod_isMethodType 35 = .ok (.iload_n 3, 1) := by decide +kernel
theorem d_Mod_isMethodType_36 : decode b_Mod_isMethodType 36 = .ok (.iaload, 1) := by decide +kernel
theorem d_Mod_isMethodType_37 : decode b_Mod_isMethodType 37 = .ok (.bipush 41, 2) := by decide +kernel
theorem d_Mod_isMethodType_39 : decode b_Mod_isMethodType 39 = .ok (.if_icmp .eq 13, 3) := by decide +kernel
theorem d_Mod_isMethodType_42 : decode b_Mod_isMethodType 42 = .ok (.aload_n 0, 1) := by decide +kernel
theorem d_Mod_isMethodType_43 : decode b_Mod_isMethodType 43 = .ok (.iload_n 3, 1) := by decide +kernel
theorem d_Mod_isMethodType_44 : decode b_Mod_isMethodType 44 = .ok (.iload_n 2, 1) := by decide +kernel
theorem d_Mod_isMethodType_45 : decode b_Mod_isMethodType 45 = .ok (.invokevirtual 247, 3) := by decide +kernel
theorem d_Mod_isMethodType_48 : decode b_Mod_isMethodType 48 = .ok (.istore_n 3, 1) := by decide +kernel
theorem d_Mod_isMethodType_49 : decode b_Mod_isMethodType 49 = .ok (.goto (-27), 3) := by decide +kernel
theorem d_Mod_isMethodType_52 : decode b_Mod_isMethodType 52 = .ok (.iload_n 3, 1) := by decide +kernel
theorem d_Mod_isMethodType_53 : decode b_Mod_isMethodType 53 = .ok (.ifCond .lt 8, 3) := by decide +kernel
theorem d_Mod_isMethodType_56 : decode b_Mod_isMethodType 56 = .ok (.iload_n 3, 1) := by decide +kernel
theorem d_Mod_isMethodType_57 : decode b_Mod_isMethodType 57 = .ok (.iload_n 2, 1) := by decide +kernel
theorem d_Mod_isMethodType_58 : decode b_Mod_isMethodType 58 = .ok (.if_icmp .lt 5, 3) := by decide +kernel
theorem d_Mod_isMethodType_61 : decode b_Mod_isMethodType 61 = .ok (.iconst 0, 1) := by decide +kernel
theorem d_Mod_isMethodType_62 : decode b_Mod_isMethodType 62 = .ok (.ireturn, 1) := by decide +kernel
theorem d_Mod_isMethodType_63 : decode b_Mod_isMethodType 63 = .ok (.aload_n 0, 1) := by decide +kernel
theorem d_Mod_isMethodType_64 : decode b_Mod_isMethodType 64 = .ok (.iload_n 3, 1) := by decide +kernel
theorem d_Mod_isMethodType_65 : decode b_Mod_isMethodType 65 = .ok (.iconst 1, 1) := by decide +kernel
theorem d_Mod_isMethodType_66 : decode b_Mod_isMethodType 66 = .ok (.iadd, 1) := by decide +kernel
theorem d_Mod_isMethodType_67 : decode b_Mod_isMethodType 67 = .ok (.iload_n 2, 1) := by decide +kernel
theorem d_Mod_isMethodType_68 : decode b_Mod_isMethodType 68 = .ok (.invokevirtual 251, 3) := by decide +kernel
theorem d_Mod_isMethodType_71 : decode b_Mod_isMethodType 71 = .ok (.ifCond .ne 23, 3) := by decide +kernel
theorem d_Mod_isMethodType_74 : decode b_Mod_isMethodType 74 = .ok (.iload_n 3, 1) := by decide +kernel
theorem d_Mod_isMethodType_75 : decode b_Mod_isMethodType 75 = .ok (.iconst 2, 1) := by decide +kernel
theorem d_Mod_isMethodType_76 : decode b_Mod_isMethodType 76 = .ok (.iadd, 1) := by decide +kernel
theorem d_Mod_isMethodType_77 : decode b_Mod_isMethodType 77 = .ok (.iload_n 2, 1) := by decide +kernel
theorem d_Mod_isMethodType_78 : decode b_Mod_isMethodType 78 = .ok (.if_icmp .ne 20, 3) := by decide +kernel
theorem d_Mod_isMethodType_81 : decode b_Mod_isMethodType 81 = .ok (.aload_n 0, 1) := by decide +kernel
theorem d_Mod_isMethodType_82 : decode b_Mod_isMethodType 82 = .ok (.getfield 7, 3) := by decide +kernel
theorem d_Mod_isMethodType_85 : decode b_Mod_isMethodType 85 = .ok (.iload_n 3, 1) := by decide +kernel
theorem d_Mod_isMethodType_86 : decode b_Mod_isMethodType 86 = .ok (.iconst 1, 1) := by decide +kernel
theorem d_Mod_isMethodType_87 : decode b_Mod_isMethodType 87 = .ok (.iadd, 1) := by decide +kernel
theorem d_Mod_isMethodType_88 : decode b_Mod_isMethodType 88 = .ok (.iaload, 1) := by decide +kernel
theorem d_Mod_isMethodType_89 : decode b_Mod_isMethodType 89 = .ok (.bipush 86, 2) := by decide +kernel
theorem d_Mod_isMethodType_91 : decode b_Mod_isMethodType 91 = .ok (.if_icmp .ne 7, 3) := by decide +kernel
theorem d_Mod_isMethodType_94 : decode b_Mod_isMethodType 94 = .ok (.iconst 1, 1) := by decide +kernel
theorem d_Mod_isMethodType_95 : decode b_Mod_isMethodType 95 = .ok (.goto 4, 3) := by decide +kernel
theorem d_Mod_isMethodType_98 : decode b_Mod_isMethodType 98 = .ok (.iconst 0, 1) := by decide +kernel
theorem d_Mod_isMethodType_99 : decode b_Mod_isMethodType 99 = .ok (.ireturn, 1) := by decide +kernel
theorem d_Mod_isName_0 : decode b_Mod_isName 0 = .ok (.iload_n 1, 1) := by decide +kernel
theorem d_Mod_isName_1 : decode b_Mod_isName 1 = .ok (.iload_n 2, 1) := by decide +kernel
theorem d_Mod_isName_2 : decode b_Mod_isName 2 = .ok (.if_icmp .ge 7, 3) := by decide +kernel
theorem d_Mod_isName_5 : decode b_Mod_isName 5 = .ok (.iconst 1, 1) := by decide +kernel
theorem d_Mod_isName_6 : decode b_Mod_isName 6 = .ok (.goto 4, 3) := by decide +kernel
theorem d_Mod_isName_9 : decode b_Mod_isName 9 = .ok (.iconst 0, 1) := by decide +kernel
theorem d_Mod_isName_10 : decode b_Mod_isName 10 = .ok (.istore_n 3, 1) := by decide +kernel
theorem d_Mod_isName_11 : decode b_Mod_isName 11 = .ok (.iload_n 1, 1) := by decide +kernel
theorem d_Mod_isName_12 : decode b_Mod_isName 12 = .ok (.istore 4, 2) := by decide +kernel
theorem d_Mod_isName_14 : decode b_Mod_isName 14 = .ok (.iload 4, 2) := by decide +kernel
theorem d_Mod_isName_16 : decode b_Mod_isName 16 = .ok (.iload_n 2, 1) := by decide +kernel
theorem d_Mod_isName_17 : decode b_Mod_isName 17 = .ok (.if_icmp .ge 32, 3) := by decide +kernel
theorem d_Mod_isName_20 : decode b_Mod_isName 20 = .ok (.iload_n 3, 1) := by decide +kernel
theorem d_Mod_isName_21 : decode b_Mod_isName 21 = .ok (.ifCond .eq 20, 3) := by decide +kernel
theorem d_Mod_isName_24 : decode b_Mod_isName 24 = .ok (.aload_n 0, 1) := by decide +kernel
theorem d_Mod_isName_25 : decode b_Mod_isName 25 = .ok (.getfield 7, 3) := by decide +kernel
theorem d_Mod_isName_28 : decode b_Mod_isName 28 = .ok (.iload 4, 2) := by decide +kernel
theorem d_Mod_isName_30 : decode b_Mod_isName 30 = .ok (.iaload, 1) := by decide +kernel
theorem d_Mod_isName_31 : decode b_Mod_isName 31 = .ok (.invokestatic 238, 3) := by decide +kernel
theorem d_Mod_isName_34 : decode b_Mod_isName 34 = .ok (.ifCond .eq 7, 3) := by decide +kernel
theorem d_Mod_isName_37 : decode b_Mod_isName 37 = .ok (.iconst 1, 1) := by decide +kernel
theorem d_Mod_isName_38 : decode b_Mod_isName 38 = .ok (.goto 4, 3) := by decide +kernel
theorem d_Mod_isName_41 : decode b_Mod_isName 41 = .ok (.iconst 0, 1) := by decide +kernel
theorem d_Mod_isName_42 : decode b_Mod_isName 42 = .ok (.istore_n 3, 1) := by decide +kernel
theorem d_Mod_isName_43 : decode b_Mod_isName 43 = .ok (.iinc 4 1, 3) := by decide +kernel
theorem d_Mod_isName_46 : decode b_Mod_isName 46 = .ok (.goto (-32), 3) := by decide +kernel
theorem d_Mod_isName_49 : decode b_Mod_isName 49 = .ok (.iload_n 3, 1) := by decide +kernel
theorem d_Mod_isName_50 : decode b_Mod_isName 50 = .ok (.ireturn, 1) := by decide +kernel
theorem d_Mod_isSign_0 : decode b_Mod_isSign 0 = .ok (.iload_n 0, 1) := by decide +kernel
theorem d_Mod_isSign_1 : decode b_Mod_isSign 1 = .ok (.bipush 32, 2) := by decide +kernel
theorem d_Mod_isSign_3 : decode b_Mod_isSign 3 = .ok (.if_icmp .le 43, 3) := by decide +kernel
theorem d_Mod_isSign_6 : decode b_Mod_isSign 6 = .ok (.iload_n 0, 1) := by decide +kernel
theorem d_Mod_isSign_7 : decode b_Mod_isSign 7 = .ok (.bipush 46, 2) := by decide +kernel
theorem d_Mod_isSign_9 : decode b_Mod_isSign 9 = .ok (.if_icmp .eq 37, 3) := by decide +kernel
theorem d_Mod_isSign_12 : decode b_Mod_isSign 12 = .ok (.iload_n 0, 1) := by decide +kernel
theorem d_Mod_isSign_13 : decode b_Mod_isSign 13 = .ok (.bipush 59, 2) := by decide +kernel
theorem d_Mod_isSign_15 : decode b_Mod_isSign 15 = .ok (.if_icmp .eq 31, 3) := by decide +kernel
theorem d_Mod_isSign_18 : decode b_Mod_isSign 18 = .ok (.iload_n 0, 1) := by decide +kernel
theorem d_Mod_isSign_19 : decode b_Mod_isSign 19 = .ok (.bipush 91, 2) := by decide +kernel
theorem d_Mod_isSign_21 : decode b_Mod_isSign 21 = .ok (.if_icmp .eq 25, 3) := by decide +kernel
theorem d_Mod_isSign_24 : decode b_Mod_isSign 24 = .ok (.iload_n 0, 1) := by decide +kernel
theorem d_Mod_isSign_25 : decode b_Mod_isSign 25 = .ok (.bipush 47, 2) := by decide +kernel
theorem d_Mod_isSign_27 : decode b_Mod_isSign 27 = .ok (.if_icmp .eq 19, 3) := by decide +kernel
theorem d_Mod_isSign_30 : decode b_Mod_isSign 30 = .ok (.iload_n 0, 1) := by decide +kernel
theorem d_Mod_isSign_31 : decode b_Mod_isSign 31 = .ok (.bipush 60, 2) := by decide +kernel
theorem d_Mod_isSign_33 : decode b_Mod_isSign 33 = .ok (.if_icmp .eq 13, 3) := by decide +kernel
theorem d_Mod_isSign_36 : decode b_Mod_isSign 36 = .ok (.iload_n 0, 1) := by decide +kernel
theorem d_Mod_isSign_37 : decode b_Mod_isSign 37 = .ok (.bipush 62, 2) := by decide +kernel
theorem d_Mod_isSign_39 : decode b_Mod_isSign 39 = .ok (.if_icmp .eq 7, 3) := by decide +kernel
theorem d_Mod_isSign_42 : decode b_Mod_isSign 42 = .ok (.iconst 1, 1) := by decide +kernel
theorem d_Mod_isSign_43 : decode b_Mod_isSign 43 = .ok (.goto 4, 3) := by decide +kernel
theorem d_Mod_isSign_46 : decode b_Mod_isSign 46 = .ok (.iconst 0, 1) := by decide +kernel
theorem d_Mod_isSign_47 : decode b_Mod_isSign 47 = .ok (.ireturn, 1) := by decide +kernel
theorem d_Mod_isType_0 : decode b_Mod_isType 0 = .ok (.aload_n 0, 1) := by decide +kernel
theorem d_Mod_isType_1 : decode b_Mod_isType 1 = .ok (.iload_n 1, 1) := by decide +kernel
theorem d_Mod_isType_2 : decode b_Mod_isType 2 = .ok (.iload_n 2, 1) := by decide +kernel
theorem d_Mod_isType_3 : decode b_Mod_isType 3 = .ok (.invokevirtual 247, 3) := by decide +kernel
theorem d_Mod_isType_6 : decode b_Mod_isType 6 = .ok (.iload_n 2, 1) := by decide +kernel
theorem d_Mod_isType_7 : decode b_Mod_isType 7 = .ok (.if_icmp .ne 7, 3) := by decide +kernel
theorem d_Mod_isType_10 : decode b_Mod_isType 10 = .ok (.iconst 1, 1) := by decide +kernel
theorem d_Mod_isType_11 : decode b_Mod_isType 11 = .ok (.goto 4, 3) := by decide +kernel
theorem d_Mod_isType_14 : decode b_Mod_isType 14 = .ok (.iconst 0, 1) := by decide +kernel
theorem d_Mod_isType_15 : decode b_Mod_isType 15 = .ok (.ireturn, 1) := by decide +kernel
theorem d_Mod_typeEnd_0 : decode b_Mod_typeEnd 0 = .ok (.iload_n 1, 1) := by decide +kernel
theorem d_Mod_typeEnd_1 : decode b_Mod_typeEnd 1 = .ok (.istore_n 3, 1) := by decide +kernel
theorem d_Mod_typeEnd_2 : decode b_Mod_typeEnd 2 = .ok (.iload_n 3, 1) := by decide +kernel
theorem d_Mod_typeEnd_3 : decode b_Mod_typeEnd 3 = .ok (.iload_n 2, 1) := by decide +kernel
theorem d_Mod_typeEnd_4 : decode b_Mod_typeEnd 4 = .ok (.if_icmp .ge 20, 3) := by decide +kernel
theorem d_Mod_typeEnd_7 : decode b_Mod_typeEnd 7 = .ok (.aload_n 0, 1) := by decide +kernel
theorem d_Mod_typeEnd_8 : decode b_Mod_typeEnd 8 = .ok (.getfield 7, 3) := by decide +kernel
theorem d_Mod_typeEnd_11 : decode b_Mod_typeEnd 11 = .ok (.iload_n 3, 1) := by decide +kernel
theorem d_Mod_typeEnd_12 : decode b_Mod_typeEnd 12 = .ok (.iaload, 1) := by decide +kernel
theorem d_Mod_typeEnd_13 : decode b_Mod_typeEnd 13 = .ok (.bipush 91, 2) := by decide +kernel
theorem d_Mod_typeEnd_15 : decode b_Mod_typeEnd 15 = .ok (.if_icmp .ne 9, 3) := by decide +kernel
theorem d_Mod_typeEnd_18 : decode b_Mod_typeEnd 18 = .ok (.iinc 3 1, 3) := by decide +kernel
theorem d_Mod_typeEnd_21 : decode b_Mod_typeEnd 21 = .ok (.goto (-19), 3) := by decide +kernel
theorem d_Mod_typeEnd_24 : decode b_Mod_typeEnd 24 = .ok (.iload_n 3, 1) := by decide +kernel
theorem d_Mod_typeEnd_25 : decode b_Mod_typeEnd 25 = .ok (.iload_n 2, 1) := by decide +kernel
theorem d_Mod_typeEnd_26 : decode b_Mod_typeEnd 26 = .ok (.if_icmp .ne 5, 3) := by decide +kernel
theorem d_Mod_typeEnd_29 : decode b_Mod_typeEnd 29 = .ok (.iconst (-1), 1) := by decide +kernel
theorem d_Mod_typeEnd_30 : decode b_Mod_typeEnd 30 = .ok (.ireturn, 1) := by decide +kernel
theorem d_Mod_typeEnd_31 : decode b_Mod_typeEnd 31 = .ok (.aload_n 0, 1) := by decide +kernel
theorem d_Mod_typeEnd_32 : decode b_Mod_typeEnd 32 = .ok (.getfield 7, 3) := by decide +kernel
theorem d_Mod_typeEnd_35 : decode b_Mod_typeEnd 35 = .ok (.iload_n 3, 1) := by decide +kernel
theorem d_Mod_typeEnd_36 : decode b_Mod_typeEnd 36 = .ok (.iaload, 1) := by decide +kernel
theorem d_Mod_typeEnd_37 : decode b_Mod_typeEnd 37 = .ok (.istore 4, 2) := by decide +kernel
theorem d_Mod_typeEnd_39 : decode b_Mod_typeEnd 39 = .ok (.iload 4, 2) := by decide +kernel
theorem d_Mod_typeEnd_41 : decode b_Mod_typeEnd 41 = .ok (.bipush 76, 2) := by decide +kernel
theorem d_Mod_typeEnd_43 : decode b_Mod_typeEnd 43 = .ok (.if_icmp .ne 59, 3) := by decide +kernel
theorem d_Mod_typeEnd_46 : decode b_Mod_typeEnd 46 = .ok (.iload_n 3, 1) := by decide +kernel
theorem d_Mod_typeEnd_47 : decode b_Mod_typeEnd 47 = .ok (.iconst 1, 1) := by decide +kernel
theorem d_Mod_typeEnd_48 : decode b_Mod_typeEnd 48 = .ok (.iadd, 1) := by decide +kernel
theorem d_Mod_typeEnd_49 : decode b_Mod_typeEnd 49 = .ok (.istore 5, 2) := by decide +kernel
theorem d_Mod_typeEnd_51 : decode b_Mod_typeEnd 51 = .ok (.iload 5, 2) := by decide +kernel
theorem d_Mod_typeEnd_53 : decode b_Mod_typeEnd 53 = .ok (.iload_n 2, 1) := by decide +kernel
theorem d_Mod_typeEnd_54 : decode b_Mod_typeEnd 54 = .ok (.if_icmp .ge 21, 3) := by decide +kernel
theorem d_Mod_typeEnd_57 : decode b_Mod_typeEnd 57 = .ok (.aload_n 0, 1) := by decide +kernel
theorem d_Mod_typeEnd_58 : decode b_Mod_typeEnd 58 = .ok (.getfield 7, 3) := by decide +kernel
theorem d_Mod_typeEnd_61 : decode b_Mod_typeEnd 61 = .ok (.iload 5, 2) := by decide +kernel
theorem d_Mod_typeEnd_63 : decode b_Mod_typeEnd 63 = .ok (.iaload, 1) := by decide +kernel
theorem d_Mod_typeEnd_64 : decode b_Mod_typeEnd 64 = .ok (.bipush 59, 2) := by decide +kernel
theorem d_Mod_typeEnd_66 : decode b_Mod_typeEnd 66 = .ok (.if_icmp .eq 9, 3) := by decide +kernel
theorem d_Mod_typeEnd_69 : decode b_Mod_typeEnd 69 = .ok (.iinc 5 1, 3) := by decide +kernel
theorem d_Mod_typeEnd_72 : decode b_Mod_typeEnd 72 = .ok (.goto (-21), 3) := by decide +kernel
theorem d_Mod_typeEnd_75 : decode b_Mod_typeEnd 75 = .ok (.iload 5, 2) := by decide +kernel
theorem d_Mod_typeEnd_77 : decode b_Mod_typeEnd 77 = .ok (.iload_n 2, 1) := by decide +kernel
theorem d_Mod_typeEnd_78 : decode b_Mod_typeEnd 78 = .ok (.if_icmp .ge 22, 3) := by decide +kernel
theorem d_Mod_typeEnd_81 : decode b_Mod_typeEnd 81 = .ok (.aload_n 0, 1) := by decide +kernel
theorem d_Mod_typeEnd_82 : decode b_Mod_typeEnd 82 = .ok (.iload_n 3, 1) := by decide +kernel
theorem d_Mod_typeEnd_83 : decode b_Mod_typeEnd 83 = .ok (.iconst 1, 1) := by decide +kernel
theorem d_Mod_typeEnd_84 : decode b_Mod_typeEnd 84 = .ok (.iadd, 1) := by decide +kernel
theorem d_Mod_typeEnd_85 : decode b_Mod_typeEnd 85 = .ok (.iload 5, 2) := by decide +kernel
theorem d_Mod_typeEnd_87 : decode b_Mod_typeEnd 87 = .ok (.invokevirtual 244, 3) := by decide +kernel
theorem d_Mod_typeEnd_90 : decode b_Mod_typeEnd 90 = .ok (.ifCond .eq 10, 3) := by decide +kernel
theorem d_Mod_typeEnd_93 : decode b_Mod_typeEnd 93 = .ok (.iload 5, 2) := by decide +kernel
theorem d_Mod_typeEnd_95 : decode b_Mod_typeEnd 95 = .ok (.iconst 1, 1) := by decide +kernel
theorem d_Mod_typeEnd_96 : decode b_Mod_typeEnd 96 = .ok (.iadd, 1) := by decide +kernel
theorem d_Mod_typeEnd_97 : decode b_Mod_typeEnd 97 = .ok (.goto 4, 3) := by decide +kernel
theorem d_Mod_typeEnd_100 : decode b_Mod_typeEnd 100 = .ok (.iconst (-1), 1) := by decide +kernel
theorem d_Mod_typeEnd_101 : decode b_Mod_typeEnd 101 = .ok (.ireturn, 1) := by decide +kernel
theorem d_Mod_typeEnd_102 : decode b_Mod_typeEnd 102 = .ok (.iload 4, 2) := by decide +kernel
theorem d_Mod_typeEnd_104 : decode b_Mod_typeEnd 104 = .ok (.bipush 66, 2) := by decide +kernel
theorem d_Mod_typeEnd_106 : decode b_Mod_typeEnd 106 = .ok (.if_icmp .eq 52, 3) := by decide +kernel
theorem d_Mod_typeEnd_109 : decode b_Mod_typeEnd 109 = .ok (.iload 4, 2) := by decide +kernel
theorem d_Mod_typeEnd_111 : decode b_Mod_typeEnd 111 = .ok (.bipush 67, 2) := by decide +kernel
theorem d_Mod_typeEnd_113 : decode b_Mod_typeEnd 113 = .ok (.if_icmp .eq 45, 3) := by decide +kernel
theorem d_Mod_typeEnd_116 : decode b_Mod_typeEnd 116 = .ok (.iload 4, 2) := by decide +kernel
theorem d_Mod_typeEnd_118 : decode b_Mod_typeEnd 118 = .ok (.bipush 68, 2) := by decide +kernel
theorem d_Mod_typeEnd_120 : decode b_Mod_typeEnd 120 = .ok (.if_icmp .eq 38, 3) := by decide +kernel
theorem d_Mod_typeEnd_123 : decode b_Mod_typeEnd 123 = .ok (.iload 4, 2) := by decide +kernel
theorem d_Mod_typeEnd_125 : decode b_Mod_typeEnd 125 = .ok (.bipush 70, 2) := by decide +kernel
theorem d_Mod_typeEnd_127 : decode b_Mod_typeEnd 127 = .ok (.if_icmp .eq 31, 3) := by decide +kernel
theorem d_Mod_typeEnd_130 : decode b_Mod_typeEnd 130 = .ok (.iload 4, 2) := by decide +kernel
theorem d_Mod_typeEnd_132 : decode b_Mod_typeEnd 132 = .ok (.bipush 73, 2) := by decide +kernel
theorem d_Mod_typeEnd_134 : decode b_Mod_typeEnd 134 = .ok (.if_icmp .eq 24, 3) := by decide +kernel
theorem d_Mod_typeEnd_137 : decode b_Mod_typeEnd 137 = .ok (.iload 4, 2) := by decide +kernel
theorem d_Mod_typeEnd_139 : decode b_Mod_typeEnd 139 = .ok (.bipush 74, 2) := by decide +kernel
theorem d_Mod_typeEnd_141 : decode b_Mod_typeEnd 141 = .ok (.if_icmp .eq 17, 3) := by decide +kernel
theorem d_Mod_typeEnd_144 : decode b_Mod_typeEnd 144 = .ok (.iload 4, 2) := by decide +kernel
theorem d_Mod_typeEnd_146 : decode b_Mod_typeEnd 146 = .ok (.bipush 83, 2) := by decide +kernel
theorem d_Mod_typeEnd_148 : decode b_Mod_typeEnd 148 = .ok (.if_icmp .eq 10, 3) := by decide +kernel
theorem d_Mod_typeEnd_151 : decode b_Mod_typeEnd 151 = .ok (.iload 4, 2) := by decide +kernel
theorem d_Mod_typeEnd_153 : decode b_Mod_typeEnd 153 = .ok (.bipush 90, 2) := by decide +kernel
theorem d_Mod_typeEnd_155 : decode b_Mod_typeEnd 155 = .ok (.if_icmp .ne 9, 3) := by decide +kernel
theorem d_Mod_typeEnd_158 : decode b_Mod_typeEnd 158 = .ok (.iload_n 3, 1) := by decide +kernel
theorem d_Mod_typeEnd_159 : decode b_Mod_typeEnd 159 = .ok (.iconst 1, 1) := by decide +kernel
theorem d_Mod_typeEnd_160 : decode b_Mod_typeEnd 160 = .ok (.iadd, 1) := by decide +kernel
theorem d_Mod_typeEnd_161 : decode b_Mod_typeEnd 161 = .ok (.goto 4, 3) := by decide +kernel
theorem d_Mod_typeEnd_164 : decode b_Mod_typeEnd 164 = .ok (.iconst (-1), 1) := by decide +kernel
theorem d_Mod_typeEnd_165 : decode b_Mod_typeEnd 165 = .ok (.ireturn, 1) := by decide +kernel
end
section
set_option maxHeartbeats 4000000 in
set_option maxRecDepth 100000 in
theorem g_Mod_isSign (l : Launch) (g : tw_G) (sz : Nat) (x : Int32) : Met l y_Mod_isSign [.code y_Mod_isSign b_Mod_isSign 1 (some .boolean)] ({ frames := 0, cells := 0, slots := 0, locals := 0 }) (tw_P g [.int x] [] sz) (vp_Si (fun (r : Int32) => (r = 0 ∨ r = 1) ∧ r = sgf x)) 0 0 (fun _ => False) := by
  refine tw_met (l := l) (g := g) (y := y_Mod_isSign) (cc := b_Mod_isSign) (maxL := 1) (ret := (some .boolean)) (rm := { frames := 0, cells := 0, slots := 0, locals := 0 }) (mc := 0) (ms := 0) (av := [.int x]) (ws := []) (sz := sz) (Qc := fun _ => (vp_Si (fun (r : Int32) => (r = 0 ∨ r = 1) ∧ r = sgf x))) (free := fun _ _ => False) (by decide) (Nat.le_of_ble_eq_true rfl) ?_
  intro p e s m below meth c ls A E hB hK hZ hP hD hS hA hl
  obtain ⟨hx, hb, hml, hr, hown, hts, hlocks, hin⟩ := id E
  have hl : lv_has ls 1 [(0, .int x)] := hl
  refine lv_iload_n hx hb d_Mod_isSign_0 rfl (lv_at hl 0 rfl) ?_
  refine lv_bipush (v := 32) hx hb d_Mod_isSign_1 (by decide) ?_
  refine lv_icmp_le (tgt := 46) hx hb d_Mod_isSign_3 (by decide) (fun h3 => ?_) (fun h3 => ?_)
  · refine lv_iconst (v := 0) hx hb d_Mod_isSign_46 (by decide) ?_
    exact tw_zsret E (by decide) (⟨(Or.inl rfl), (by unfold sgf; rw [if_pos h3])⟩) d_Mod_isSign_47
  · refine lv_iload_n hx hb d_Mod_isSign_6 rfl (lv_at hl 0 rfl) ?_
    refine lv_bipush (v := 46) hx hb d_Mod_isSign_7 (by decide) ?_
    refine lv_icmp_eq (tgt := 46) hx hb d_Mod_isSign_9 (by decide) (fun h9 => ?_) (fun h9 => ?_)
    · refine lv_iconst (v := 0) hx hb d_Mod_isSign_46 (by decide) ?_
      exact tw_zsret E (by decide) (⟨(Or.inl rfl), (by unfold sgf; rw [if_neg h3, if_pos h9])⟩) d_Mod_isSign_47
    · refine lv_iload_n hx hb d_Mod_isSign_12 rfl (lv_at hl 0 rfl) ?_
      refine lv_bipush (v := 59) hx hb d_Mod_isSign_13 (by decide) ?_
      refine lv_icmp_eq (tgt := 46) hx hb d_Mod_isSign_15 (by decide) (fun h15 => ?_) (fun h15 => ?_)
      · refine lv_iconst (v := 0) hx hb d_Mod_isSign_46 (by decide) ?_
        exact tw_zsret E (by decide) (⟨(Or.inl rfl), (by unfold sgf; rw [if_neg h3, if_neg h9, if_pos h15])⟩) d_Mod_isSign_47
      · refine lv_iload_n hx hb d_Mod_isSign_18 rfl (lv_at hl 0 rfl) ?_
        refine lv_bipush (v := 91) hx hb d_Mod_isSign_19 (by decide) ?_
        refine lv_icmp_eq (tgt := 46) hx hb d_Mod_isSign_21 (by decide) (fun h21 => ?_) (fun h21 => ?_)
        · refine lv_iconst (v := 0) hx hb d_Mod_isSign_46 (by decide) ?_
          exact tw_zsret E (by decide) (⟨(Or.inl rfl), (by unfold sgf; rw [if_neg h3, if_neg h9, if_neg h15, if_pos h21])⟩) d_Mod_isSign_47
        · refine lv_iload_n hx hb d_Mod_isSign_24 rfl (lv_at hl 0 rfl) ?_
          refine lv_bipush (v := 47) hx hb d_Mod_isSign_25 (by decide) ?_
          refine lv_icmp_eq (tgt := 46) hx hb d_Mod_isSign_27 (by decide) (fun h27 => ?_) (fun h27 => ?_)
          · refine lv_iconst (v := 0) hx hb d_Mod_isSign_46 (by decide) ?_
            exact tw_zsret E (by decide) (⟨(Or.inl rfl), (by unfold sgf; rw [if_neg h3, if_neg h9, if_neg h15, if_neg h21, if_pos h27])⟩) d_Mod_isSign_47
          · refine lv_iload_n hx hb d_Mod_isSign_30 rfl (lv_at hl 0 rfl) ?_
            refine lv_bipush (v := 60) hx hb d_Mod_isSign_31 (by decide) ?_
            refine lv_icmp_eq (tgt := 46) hx hb d_Mod_isSign_33 (by decide) (fun h33 => ?_) (fun h33 => ?_)
            · refine lv_iconst (v := 0) hx hb d_Mod_isSign_46 (by decide) ?_
              exact tw_zsret E (by decide) (⟨(Or.inl rfl), (by unfold sgf; rw [if_neg h3, if_neg h9, if_neg h15, if_neg h21, if_neg h27, if_pos h33])⟩) d_Mod_isSign_47
            · refine lv_iload_n hx hb d_Mod_isSign_36 rfl (lv_at hl 0 rfl) ?_
              refine lv_bipush (v := 62) hx hb d_Mod_isSign_37 (by decide) ?_
              refine lv_icmp_eq (tgt := 46) hx hb d_Mod_isSign_39 (by decide) (fun h39 => ?_) (fun h39 => ?_)
              · refine lv_iconst (v := 0) hx hb d_Mod_isSign_46 (by decide) ?_
                exact tw_zsret E (by decide) (⟨(Or.inl rfl), (by unfold sgf; rw [if_neg h3, if_neg h9, if_neg h15, if_neg h21, if_neg h27, if_neg h33, if_pos h39])⟩) d_Mod_isSign_47
              · refine lv_iconst (v := 1) hx hb d_Mod_isSign_42 (by decide) ?_
                refine lv_goto (tgt := 47) hx hb d_Mod_isSign_43 (by decide) ?_
                exact tw_zsret E (by decide) (⟨(Or.inr rfl), (by unfold sgf; rw [if_neg h3, if_neg h9, if_neg h15, if_neg h21, if_neg h27, if_neg h33, if_neg h39])⟩) d_Mod_isSign_47
set_option maxHeartbeats 4000000 in
set_option maxRecDepth 100000 in
theorem g_Mod_isName (l : Launch) (g : tw_G) (sz : Nat) (h0 : Nat) (q : Nat → Nat) (rf : Int32) (n : Nat) (mm : Int32) (mb : Int32) (fa : Int32) (fp : Int32) (av : Nat) (ev : Nat) (wi : Int32) (mn : Nat) (tp : Int32) (tc : Int32) (sc : Int32) (nf : Nat) (fd : Nat) (me : Nat) (mp : Int32) (xn : Nat) (mt : Nat) (wh : Nat) (tq : Nat) (ag : Nat) (an : Int32) (ig : Int32) (bs : Nat → Int32) (x : Nat) (y : Nat) (hx6 : x ≤ 600) (hy6 : y ≤ 600) : Met l y_Mod_isName [.code y_Mod_isName b_Mod_isName 5 (some .boolean)] ({ frames := 1, cells := 0, slots := 0, locals := 20 }) (tw_P g [.ref h0, .int (nI x), .int (nI y)] [(h0, .inr (10, mob q rf n mm mb fa fp av ev wi mn tp tc sc nf fd me mp xn mt wh tq ag an ig)), ((q 2), aI g 600 bs)] sz) (vp_Si (fun (r : Int32) => (r = 0 ∨ r = 1) ∧ r = nmf bs (y - x) x (if x < y then 1 else 0))) 0 0 (fun _ => False) := by
  refine tw_met (l := l) (g := g) (y := y_Mod_isName) (cc := b_Mod_isName) (maxL := 5) (ret := (some .boolean)) (rm := { frames := 1, cells := 0, slots := 0, locals := 20 }) (mc := 0) (ms := 0) (av := [.ref h0, .int (nI x), .int (nI y)]) (ws := [(h0, .inr (10, mob q rf n mm mb fa fp av ev wi mn tp tc sc nf fd me mp xn mt wh tq ag an ig)), ((q 2), aI g 600 bs)]) (sz := sz) (Qc := fun _ => (vp_Si (fun (r : Int32) => (r = 0 ∨ r = 1) ∧ r = nmf bs (y - x) x (if x < y then 1 else 0)))) (free := fun _ _ => False) (by decide) (Nat.le_of_ble_eq_true rfl) ?_
  intro p e s m below meth c ls A E hB hK hZ hP hD hS hA hl
  obtain ⟨hx, hb, hml, hr, hown, hts, hlocks, hin⟩ := id E
  have hl : lv_has ls 5 [(0, .ref h0), (1, .int (nI x)), (2, .int (nI y))] := hl
  refine lv_iload_n hx hb d_Mod_isName_0 rfl (lv_at hl 1 rfl) ?_
  refine lv_iload_n hx hb d_Mod_isName_1 rfl (lv_at hl 2 rfl) ?_
  refine lv_icmp_ge (tgt := 9) hx hb d_Mod_isName_2 (by decide) (fun h2 => ?_) (fun h2 => ?_)
  · have h2 := tn_le h2 (by omega) (by omega)
    refine lv_iconst (v := 0) hx hb d_Mod_isName_9 (by decide) ?_
    refine lv_istore_n hx hb d_Mod_isName_10 rfl hl (by decide) rfl (fun ls hl => ?_)
    have hl : lv_has ls 5 [(3, .int 0), (0, .ref h0), (1, .int (nI x)), (2, .int (nI y))] := hl
    refine lv_iload_n hx hb d_Mod_isName_11 rfl (lv_at hl 2 rfl) ?_
    refine lv_istore hx hb d_Mod_isName_12 hl (by decide) rfl (fun ls hl => ?_)
    have hl : lv_has ls 5 [(4, .int (nI x)), (3, .int 0), (0, .ref h0), (1, .int (nI x)), (2, .int (nI y))] := hl
    have loop14 : ∀ (kq : Nat) (g9 : Int32) (k : Nat) (ls : Array Slot) , y - k = kq → (hk1 : x ≤ k) → (hk2 : k ≤ 600) → (hg : g9 = 0 ∨ g9 = 1) → (hN : nmf bs (y - k) k g9 = nmf bs (y - x) x (if x < y then 1 else 0)) → lv_has ls 5 [(4, .int (nI k)), (3, .int g9), (0, .ref h0), (1, .int (nI x)), (2, .int (nI y))] → W p l e ({ frames := 1, cells := 0, slots := 0, locals := 20 }) s m [.ref h0, .int (nI x), .int (nI y)].toArray below meth c s.heap [] 0 0 (MQ below (vp_Si (fun (r : Int32) => (r = 0 ∨ r = 1) ∧ r = nmf bs (y - x) x (if x < y then 1 else 0))) [.ref h0, .int (nI x), .int (nI y)].toArray s 0 0 (fun _ => False)) (F0 m 14 ls []) := by
      intro kq
      induction kq using Nat.strongRecOn with
      | _ kq ih =>
        intro g9 k ls hk hk1 hk2 hg hN hl 
        refine lv_iload hx hb d_Mod_isName_14 (lv_at hl 0 rfl) ?_
        refine lv_iload_n hx hb d_Mod_isName_16 rfl (lv_at hl 4 rfl) ?_
        refine lv_icmp_ge (tgt := 49) hx hb d_Mod_isName_17 (by decide) (fun h17 => ?_) (fun h17 => ?_)
        · have h17 := tn_le h17 (by omega) (by omega)
          refine lv_iload_n hx hb d_Mod_isName_49 rfl (lv_at hl 1 rfl) ?_
          exact tw_zsret E (tn_z hg) (⟨hg, (by rw [← hN, nmf_0 h17])⟩) d_Mod_isName_50
        · have h17 := tn_nle h17 (by omega) (by omega)
          refine lv_iload_n hx hb d_Mod_isName_20 rfl (lv_at hl 1 rfl) ?_
          refine lv_if_eq (tgt := 41) hx hb d_Mod_isName_21 (by decide) (fun h21 => ?_) (fun h21 => ?_)
          · refine lv_iconst (v := 0) hx hb d_Mod_isName_41 (by decide) ?_
            refine lv_istore_n hx hb d_Mod_isName_42 rfl hl (by decide) rfl (fun ls hl => ?_)
            have hl : lv_has ls 5 [(3, .int 0), (4, .int (nI k)), (0, .ref h0), (1, .int (nI x)), (2, .int (nI y))] := hl
            refine lv_iinc (k := 1) (v := nI (k + 1)) hx hb d_Mod_isName_43 hl rfl ((nI_succ k).symm) (by decide) rfl (fun ls hl => ?_)
            have hl : lv_has ls 5 [(4, .int (nI (k + 1))), (3, .int 0), (0, .ref h0), (1, .int (nI x)), (2, .int (nI y))] := hl
            refine lv_goto (tgt := 14) hx hb d_Mod_isName_46 (by decide) ?_
            exact ih _ (by omega) 0 (k + 1) ls rfl (by omega) (by omega) (Or.inl rfl) (by rw [← hN, nmf_step h17, if_pos h21]) (lv_sub hl [0, 1, 2, 3, 4] rfl)
          · refine lv_aload_n hx hb d_Mod_isName_24 rfl (lv_at hl 2 rfl) ?_
            refine va_get (D := g.1) (ci := 10) (v := .ref (q 2)) (C := R_Mod) (T := F_Mod) (N := 61) hx hb hts in_Mod hown hK hP 0 rfl rfl 2 (by decide) (hts _ wd_1252) (fun _ h9 => h9) rfl d_Mod_isName_25 ?_
            refine lv_iload hx hb d_Mod_isName_28 (lv_at hl 0 rfl) ?_
            refine va_iald hx hb hK hP 1 0 rfl rfl (vp_in_nI (by omega) (by decide)) d_Mod_isName_30 ?_
            refine tw_ri (e2 := bs k) (by rw [nI_clamp (by omega)]) ?_
            refine tw_si (tw_runS (ws := [(h0, .inr (10, mob q rf n mm mb fa fp av ev wi mn tp tc sc nf fd me mp xn mt wh tq ag an ig)), ((q 2), aI g 600 bs)]) (wc := []) (As := [.int (bs k)]) (rest := []) E hB hK hZ (g_Mod_isSign l g s.heap.size (bs k)) mc_Mod_isSign ms_Mod_isSign wd_1548 hP hD hS hA [] rfl (by decide) rfl rfl (by decide) rfl hl.1 rfl (Nat.le_of_ble_eq_true rfl) (by decide) d_Mod_isName_31) (fun r1 hr1 => ?_)
            have hB1 := hr1
            refine lv_if_eq (tgt := 41) hx hb d_Mod_isName_34 (by decide) (fun h34 => ?_) (fun h34 => ?_)
            · refine lv_iconst (v := 0) hx hb d_Mod_isName_41 (by decide) ?_
              refine lv_istore_n hx hb d_Mod_isName_42 rfl hl (by decide) rfl (fun ls hl => ?_)
              have hl : lv_has ls 5 [(3, .int 0), (4, .int (nI k)), (0, .ref h0), (1, .int (nI x)), (2, .int (nI y))] := hl
              refine lv_iinc (k := 1) (v := nI (k + 1)) hx hb d_Mod_isName_43 hl rfl ((nI_succ k).symm) (by decide) rfl (fun ls hl => ?_)
              have hl : lv_has ls 5 [(4, .int (nI (k + 1))), (3, .int 0), (0, .ref h0), (1, .int (nI x)), (2, .int (nI y))] := hl
              refine lv_goto (tgt := 14) hx hb d_Mod_isName_46 (by decide) ?_
              exact ih _ (by omega) 0 (k + 1) ls rfl (by omega) (by omega) (Or.inl rfl) (by rw [← hN, nmf_step h17, if_neg h21, ← hB1.2, h34]) (lv_sub hl [0, 1, 2, 3, 4] rfl)
            · refine lv_iconst (v := 1) hx hb d_Mod_isName_37 (by decide) ?_
              refine lv_goto (tgt := 42) hx hb d_Mod_isName_38 (by decide) ?_
              refine lv_istore_n hx hb d_Mod_isName_42 rfl hl (by decide) rfl (fun ls hl => ?_)
              have hl : lv_has ls 5 [(3, .int 1), (4, .int (nI k)), (0, .ref h0), (1, .int (nI x)), (2, .int (nI y))] := hl
              refine lv_iinc (k := 1) (v := nI (k + 1)) hx hb d_Mod_isName_43 hl rfl ((nI_succ k).symm) (by decide) rfl (fun ls hl => ?_)
              have hl : lv_has ls 5 [(4, .int (nI (k + 1))), (3, .int 1), (0, .ref h0), (1, .int (nI x)), (2, .int (nI y))] := hl
              refine lv_goto (tgt := 14) hx hb d_Mod_isName_46 (by decide) ?_
              exact ih _ (by omega) 1 (k + 1) ls rfl (by omega) (by omega) (Or.inr rfl) (by rw [← hN, nmf_step h17, if_neg h21, ← hB1.2, (hB1.1.resolve_left h34)]) (lv_sub hl [0, 1, 2, 3, 4] rfl)
    exact loop14 _ 0 x ls rfl (Nat.le_refl _) hx6 (Or.inl rfl) (by rw [if_neg (by omega)]) (hl)
  · have h2 := tn_nle h2 (by omega) (by omega)
    refine lv_iconst (v := 1) hx hb d_Mod_isName_5 (by decide) ?_
    refine lv_goto (tgt := 10) hx hb d_Mod_isName_6 (by decide) ?_
    refine lv_istore_n hx hb d_Mod_isName_10 rfl hl (by decide) rfl (fun ls hl => ?_)
    have hl : lv_has ls 5 [(3, .int 1), (0, .ref h0), (1, .int (nI x)), (2, .int (nI y))] := hl
    refine lv_iload_n hx hb d_Mod_isName_11 rfl (lv_at hl 2 rfl) ?_
    refine lv_istore hx hb d_Mod_isName_12 hl (by decide) rfl (fun ls hl => ?_)
    have hl : lv_has ls 5 [(4, .int (nI x)), (3, .int 1), (0, .ref h0), (1, .int (nI x)), (2, .int (nI y))] := hl
    have loop14 : ∀ (kq : Nat) (g9 : Int32) (k : Nat) (ls : Array Slot) , y - k = kq → (hk1 : x ≤ k) → (hk2 : k ≤ 600) → (hg : g9 = 0 ∨ g9 = 1) → (hN : nmf bs (y - k) k g9 = nmf bs (y - x) x (if x < y then 1 else 0)) → lv_has ls 5 [(4, .int (nI k)), (3, .int g9), (0, .ref h0), (1, .int (nI x)), (2, .int (nI y))] → W p l e ({ frames := 1, cells := 0, slots := 0, locals := 20 }) s m [.ref h0, .int (nI x), .int (nI y)].toArray below meth c s.heap [] 0 0 (MQ below (vp_Si (fun (r : Int32) => (r = 0 ∨ r = 1) ∧ r = nmf bs (y - x) x (if x < y then 1 else 0))) [.ref h0, .int (nI x), .int (nI y)].toArray s 0 0 (fun _ => False)) (F0 m 14 ls []) := by
      intro kq
      induction kq using Nat.strongRecOn with
      | _ kq ih =>
        intro g9 k ls hk hk1 hk2 hg hN hl 
        refine lv_iload hx hb d_Mod_isName_14 (lv_at hl 0 rfl) ?_
        refine lv_iload_n hx hb d_Mod_isName_16 rfl (lv_at hl 4 rfl) ?_
        refine lv_icmp_ge (tgt := 49) hx hb d_Mod_isName_17 (by decide) (fun h17 => ?_) (fun h17 => ?_)
        · have h17 := tn_le h17 (by omega) (by omega)
          refine lv_iload_n hx hb d_Mod_isName_49 rfl (lv_at hl 1 rfl) ?_
          exact tw_zsret E (tn_z hg) (⟨hg, (by rw [← hN, nmf_0 h17])⟩) d_Mod_isName_50
        · have h17 := tn_nle h17 (by omega) (by omega)
          refine lv_iload_n hx hb d_Mod_isName_20 rfl (lv_at hl 1 rfl) ?_
          refine lv_if_eq (tgt := 41) hx hb d_Mod_isName_21 (by decide) (fun h21 => ?_) (fun h21 => ?_)
          · refine lv_iconst (v := 0) hx hb d_Mod_isName_41 (by decide) ?_
            refine lv_istore_n hx hb d_Mod_isName_42 rfl hl (by decide) rfl (fun ls hl => ?_)
            have hl : lv_has ls 5 [(3, .int 0), (4, .int (nI k)), (0, .ref h0), (1, .int (nI x)), (2, .int (nI y))] := hl
            refine lv_iinc (k := 1) (v := nI (k + 1)) hx hb d_Mod_isName_43 hl rfl ((nI_succ k).symm) (by decide) rfl (fun ls hl => ?_)
            have hl : lv_has ls 5 [(4, .int (nI (k + 1))), (3, .int 0), (0, .ref h0), (1, .int (nI x)), (2, .int (nI y))] := hl
            refine lv_goto (tgt := 14) hx hb d_Mod_isName_46 (by decide) ?_
            exact ih _ (by omega) 0 (k + 1) ls rfl (by omega) (by omega) (Or.inl rfl) (by rw [← hN, nmf_step h17, if_pos h21]) (lv_sub hl [0, 1, 2, 3, 4] rfl)
          · refine lv_aload_n hx hb d_Mod_isName_24 rfl (lv_at hl 2 rfl) ?_
            refine va_get (D := g.1) (ci := 10) (v := .ref (q 2)) (C := R_Mod) (T := F_Mod) (N := 61) hx hb hts in_Mod hown hK hP 0 rfl rfl 2 (by decide) (hts _ wd_1252) (fun _ h9 => h9) rfl d_Mod_isName_25 ?_
            refine lv_iload hx hb d_Mod_isName_28 (lv_at hl 0 rfl) ?_
            refine va_iald hx hb hK hP 1 0 rfl rfl (vp_in_nI (by omega) (by decide)) d_Mod_isName_30 ?_
            refine tw_ri (e2 := bs k) (by rw [nI_clamp (by omega)]) ?_
            refine tw_si (tw_runS (ws := [(h0, .inr (10, mob q rf n mm mb fa fp av ev wi mn tp tc sc nf fd me mp xn mt wh tq ag an ig)), ((q 2), aI g 600 bs)]) (wc := []) (As := [.int (bs k)]) (rest := []) E hB hK hZ (g_Mod_isSign l g s.heap.size (bs k)) mc_Mod_isSign ms_Mod_isSign wd_1548 hP hD hS hA [] rfl (by decide) rfl rfl (by decide) rfl hl.1 rfl (Nat.le_of_ble_eq_true rfl) (by decide) d_Mod_isName_31) (fun r2 hr2 => ?_)
            have hB2 := hr2
            refine lv_if_eq (tgt := 41) hx hb d_Mod_isName_34 (by decide) (fun h34 => ?_) (fun h34 => ?_)
            · refine lv_iconst (v := 0) hx hb d_Mod_isName_41 (by decide) ?_
              refine lv_istore_n hx hb d_Mod_isName_42 rfl hl (by decide) rfl (fun ls hl => ?_)
              have hl : lv_has ls 5 [(3, .int 0), (4, .int (nI k)), (0, .ref h0), (1, .int (nI x)), (2, .int (nI y))] := hl
              refine lv_iinc (k := 1) (v := nI (k + 1)) hx hb d_Mod_isName_43 hl rfl ((nI_succ k).symm) (by decide) rfl (fun ls hl => ?_)
              have hl : lv_has ls 5 [(4, .int (nI (k + 1))), (3, .int 0), (0, .ref h0), (1, .int (nI x)), (2, .int (nI y))] := hl
              refine lv_goto (tgt := 14) hx hb d_Mod_isName_46 (by decide) ?_
              exact ih _ (by omega) 0 (k + 1) ls rfl (by omega) (by omega) (Or.inl rfl) (by rw [← hN, nmf_step h17, if_neg h21, ← hB2.2, h34]) (lv_sub hl [0, 1, 2, 3, 4] rfl)
            · refine lv_iconst (v := 1) hx hb d_Mod_isName_37 (by decide) ?_
              refine lv_goto (tgt := 42) hx hb d_Mod_isName_38 (by decide) ?_
              refine lv_istore_n hx hb d_Mod_isName_42 rfl hl (by decide) rfl (fun ls hl => ?_)
              have hl : lv_has ls 5 [(3, .int 1), (4, .int (nI k)), (0, .ref h0), (1, .int (nI x)), (2, .int (nI y))] := hl
              refine lv_iinc (k := 1) (v := nI (k + 1)) hx hb d_Mod_isName_43 hl rfl ((nI_succ k).symm) (by decide) rfl (fun ls hl => ?_)
              have hl : lv_has ls 5 [(4, .int (nI (k + 1))), (3, .int 1), (0, .ref h0), (1, .int (nI x)), (2, .int (nI y))] := hl
              refine lv_goto (tgt := 14) hx hb d_Mod_isName_46 (by decide) ?_
              exact ih _ (by omega) 1 (k + 1) ls rfl (by omega) (by omega) (Or.inr rfl) (by rw [← hN, nmf_step h17, if_neg h21, ← hB2.2, (hB2.1.resolve_left h34)]) (lv_sub hl [0, 1, 2, 3, 4] rfl)
    exact loop14 _ 1 x ls rfl (Nat.le_refl _) hx6 (Or.inr rfl) (by rw [if_pos h2]) (hl)
set_option maxHeartbeats 4000000 in
set_option maxRecDepth 100000 in
theorem g_Mod_isClassName (l : Launch) (g : tw_G) (sz : Nat) (h0 : Nat) (q : Nat → Nat) (rf : Int32) (n : Nat) (mm : Int32) (mb : Int32) (fa : Int32) (fp : Int32) (av : Nat) (ev : Nat) (wi : Int32) (mn : Nat) (tp : Int32) (tc : Int32) (sc : Int32) (nf : Nat) (fd : Nat) (me : Nat) (mp : Int32) (xn : Nat) (mt : Nat) (wh : Nat) (tq : Nat) (ag : Nat) (an : Int32) (ig : Int32) (bs : Nat → Int32) (x : Nat) (y : Nat) (hxy : x ≤ y) (hy6 : y ≤ 600) : Met l y_Mod_isClassName [.code y_Mod_isClassName b_Mod_isClassName 6 (some .boolean)] ({ frames := 2, cells := 0, slots := 0, locals := 44 }) (tw_P g [.ref h0, .int (nI x), .int (nI y)] [(h0, .inr (10, mob q rf n mm mb fa fp av ev wi mn tp tc sc nf fd me mp xn mt wh tq ag an ig)), ((q 2), aI g 600 bs)] sz) (vp_Si (fun (r : Int32) => (r = 0 ∨ r = 1) ∧ r = cnf bs y (y + 1 - x) x x 1)) 0 0 (fun _ => False) := by
  refine tw_met (l := l) (g := g) (y := y_Mod_isClassName) (cc := b_Mod_isClassName) (maxL := 6) (ret := (some .boolean)) (rm := { frames := 2, cells := 0, slots := 0, locals := 44 }) (mc := 0) (ms := 0) (av := [.ref h0, .int (nI x), .int (nI y)]) (ws := [(h0, .inr (10, mob q rf n mm mb fa fp av ev wi mn tp tc sc nf fd me mp xn mt wh tq ag an ig)), ((q 2), aI g 600 bs)]) (sz := sz) (Qc := fun _ => (vp_Si (fun (r : Int32) => (r = 0 ∨ r = 1) ∧ r = cnf bs y (y + 1 - x) x x 1))) (free := fun _ _ => False) (by decide) (Nat.le_of_ble_eq_true rfl) ?_
  intro p e s m below meth c ls A E hB hK hZ hP hD hS hA hl
  obtain ⟨hx, hb, hml, hr, hown, hts, hlocks, hin⟩ := id E
  have hl : lv_has ls 6 [(0, .ref h0), (1, .int (nI x)), (2, .int (nI y))] := hl
  refine lv_iconst (v := 1) hx hb d_Mod_isClassName_0 (by decide) ?_
  refine lv_istore_n hx hb d_Mod_isClassName_1 rfl hl (by decide) rfl (fun ls hl => ?_)
  have hl : lv_has ls 6 [(3, .int 1), (0, .ref h0), (1, .int (nI x)), (2, .int (nI y))] := hl
  refine lv_iload_n hx hb d_Mod_isClassName_2 rfl (lv_at hl 2 rfl) ?_
  refine lv_istore hx hb d_Mod_isClassName_3 hl (by decide) rfl (fun ls hl => ?_)
  have hl : lv_has ls 6 [(4, .int (nI x)), (3, .int 1), (0, .ref h0), (1, .int (nI x)), (2, .int (nI y))] := hl
  refine lv_iload_n hx hb d_Mod_isClassName_5 rfl (lv_at hl 3 rfl) ?_
  refine lv_istore hx hb d_Mod_isClassName_6 hl (by decide) rfl (fun ls hl => ?_)
  have hl : lv_has ls 6 [(5, .int (nI x)), (4, .int (nI x)), (3, .int 1), (0, .ref h0), (1, .int (nI x)), (2, .int (nI y))] := hl
  have loop8 : ∀ (kq : Nat) (g9 : Int32) (b9 : Nat) (k : Nat) (ls : Array Slot) , y + 1 - k = kq → (hk1 : x ≤ k) → (hk2 : k ≤ y + 1) → (hb9 : b9 ≤ k) → (hg : g9 = 0 ∨ g9 = 1) → (hC : cnf bs y (y + 1 - k) k b9 g9 = cnf bs y (y + 1 - x) x x 1) → lv_has ls 6 [(5, .int (nI k)), (4, .int (nI b9)), (3, .int g9), (0, .ref h0), (1, .int (nI x)), (2, .int (nI y))] → W p l e ({ frames := 2, cells := 0, slots := 0, locals := 44 }) s m [.ref h0, .int (nI x), .int (nI y)].toArray below meth c s.heap [] 0 0 (MQ below (vp_Si (fun (r : Int32) => (r = 0 ∨ r = 1) ∧ r = cnf bs y (y + 1 - x) x x 1)) [.ref h0, .int (nI x), .int (nI y)].toArray s 0 0 (fun _ => False)) (F0 m 8 ls []) := by
    intro kq
    induction kq using Nat.strongRecOn with
    | _ kq ih =>
      intro g9 b9 k ls hk hk1 hk2 hb9 hg hC hl 
      refine lv_iload hx hb d_Mod_isClassName_8 (lv_at hl 0 rfl) ?_
      refine lv_iload_n hx hb d_Mod_isClassName_10 rfl (lv_at hl 5 rfl) ?_
      refine lv_icmp_gt (tgt := 65) hx hb d_Mod_isClassName_11 (by decide) (fun h11 => ?_) (fun h11 => ?_)
      · have h11 := tn_lt h11 (by omega) (by omega)
        refine lv_iload_n hx hb d_Mod_isClassName_65 rfl (lv_at hl 2 rfl) ?_
        exact tw_zsret E (tn_z hg) (⟨hg, (by rw [← hC, cnf_0 h11])⟩) d_Mod_isClassName_66
      · have h11 := tn_nlt h11 (by omega) (by omega)
        refine lv_iload hx hb d_Mod_isClassName_14 (lv_at hl 0 rfl) ?_
        refine lv_iload_n hx hb d_Mod_isClassName_16 rfl (lv_at hl 5 rfl) ?_
        refine lv_icmp_eq (tgt := 32) hx hb d_Mod_isClassName_17 (by decide) (fun h17 => ?_) (fun h17 => ?_)
        · have h17 := tn_eq h17 (by omega) (by omega)
          refine lv_iload_n hx hb d_Mod_isClassName_32 rfl (lv_at hl 2 rfl) ?_
          refine lv_if_eq (tgt := 51) hx hb d_Mod_isClassName_33 (by decide) (fun h33 => ?_) (fun h33 => ?_)
          · refine lv_iconst (v := 0) hx hb d_Mod_isClassName_51 (by decide) ?_
            refine lv_istore_n hx hb d_Mod_isClassName_52 rfl hl (by decide) rfl (fun ls hl => ?_)
            have hl : lv_has ls 6 [(3, .int 0), (5, .int (nI k)), (4, .int (nI b9)), (0, .ref h0), (1, .int (nI x)), (2, .int (nI y))] := hl
            refine lv_iload hx hb d_Mod_isClassName_53 (lv_at hl 1 rfl) ?_
            refine lv_iconst (v := 1) hx hb d_Mod_isClassName_55 (by decide) ?_
            refine lv_iadd hx hb d_Mod_isClassName_56 ?_
            refine tw_ri (e2 := nI (k + 1)) (nI_add k 1) ?_
            refine lv_istore hx hb d_Mod_isClassName_57 hl (by decide) rfl (fun ls hl => ?_)
            have hl : lv_has ls 6 [(4, .int (nI (k + 1))), (3, .int 0), (5, .int (nI k)), (0, .ref h0), (1, .int (nI x)), (2, .int (nI y))] := hl
            refine lv_iinc (k := 2) (v := nI (k + 1)) hx hb d_Mod_isClassName_59 hl rfl ((nI_succ k).symm) (by decide) rfl (fun ls hl => ?_)
            have hl : lv_has ls 6 [(5, .int (nI (k + 1))), (4, .int (nI (k + 1))), (3, .int 0), (0, .ref h0), (1, .int (nI x)), (2, .int (nI y))] := hl
            refine lv_goto (tgt := 8) hx hb d_Mod_isClassName_62 (by decide) ?_
            exact ih _ (by omega) 0 (k + 1) (k + 1) ls rfl (by omega) (by omega) (by omega) (Or.inl rfl) (by rw [← hC, cnf_s1 (by omega) (Or.inl h17), if_pos h33]) (lv_sub hl [0, 1, 2, 3, 4, 5] rfl)
          · refine lv_aload_n hx hb d_Mod_isClassName_36 rfl (lv_at hl 3 rfl) ?_
            refine lv_iload hx hb d_Mod_isClassName_37 (lv_at hl 1 rfl) ?_
            refine lv_iload hx hb d_Mod_isClassName_39 (lv_at hl 0 rfl) ?_
            refine tw_si (tw_runV (ws := [(h0, .inr (10, mob q rf n mm mb fa fp av ev wi mn tp tc sc nf fd me mp xn mt wh tq ag an ig)), ((q 2), aI g 600 bs)]) (wc := [(h0, .inr (10, mob q rf n mm mb fa fp av ev wi mn tp tc sc nf fd me mp xn mt wh tq ag an ig)), ((q 2), aI g 600 bs)]) (As := [.int (nI b9), .int (nI k)]) (rest := []) E hB hK hZ (g_Mod_isName l g s.heap.size h0 q rf n mm mb fa fp av ev wi mn tp tc sc nf fd me mp xn mt wh tq ag an ig bs b9 k (by omega) (by omega)) mc_Mod_isName mi_Mod_isName me_Mod_isName wd_1544 hP hD hS hA [0, 1] rfl (by decide) 0 rfl rfl rfl rfl rfl (by decide) rfl hl.1 rfl (Nat.le_of_ble_eq_true rfl) (by decide) d_Mod_isClassName_41) (fun r1 hr1 => ?_)
            have hB1 := hr1
            refine lv_if_eq (tgt := 51) hx hb d_Mod_isClassName_44 (by decide) (fun h44 => ?_) (fun h44 => ?_)
            · refine lv_iconst (v := 0) hx hb d_Mod_isClassName_51 (by decide) ?_
              refine lv_istore_n hx hb d_Mod_isClassName_52 rfl hl (by decide) rfl (fun ls hl => ?_)
              have hl : lv_has ls 6 [(3, .int 0), (5, .int (nI k)), (4, .int (nI b9)), (0, .ref h0), (1, .int (nI x)), (2, .int (nI y))] := hl
              refine lv_iload hx hb d_Mod_isClassName_53 (lv_at hl 1 rfl) ?_
              refine lv_iconst (v := 1) hx hb d_Mod_isClassName_55 (by decide) ?_
              refine lv_iadd hx hb d_Mod_isClassName_56 ?_
              refine tw_ri (e2 := nI (k + 1)) (nI_add k 1) ?_
              refine lv_istore hx hb d_Mod_isClassName_57 hl (by decide) rfl (fun ls hl => ?_)
              have hl : lv_has ls 6 [(4, .int (nI (k + 1))), (3, .int 0), (5, .int (nI k)), (0, .ref h0), (1, .int (nI x)), (2, .int (nI y))] := hl
              refine lv_iinc (k := 2) (v := nI (k + 1)) hx hb d_Mod_isClassName_59 hl rfl ((nI_succ k).symm) (by decide) rfl (fun ls hl => ?_)
              have hl : lv_has ls 6 [(5, .int (nI (k + 1))), (4, .int (nI (k + 1))), (3, .int 0), (0, .ref h0), (1, .int (nI x)), (2, .int (nI y))] := hl
              refine lv_goto (tgt := 8) hx hb d_Mod_isClassName_62 (by decide) ?_
              exact ih _ (by omega) 0 (k + 1) (k + 1) ls rfl (by omega) (by omega) (by omega) (Or.inl rfl) (by rw [← hC, cnf_s1 (by omega) (Or.inl h17), if_neg h33, ← hB1.2, h44]) (lv_sub hl [0, 1, 2, 3, 4, 5] rfl)
            · refine lv_iconst (v := 1) hx hb d_Mod_isClassName_47 (by decide) ?_
              refine lv_goto (tgt := 52) hx hb d_Mod_isClassName_48 (by decide) ?_
              refine lv_istore_n hx hb d_Mod_isClassName_52 rfl hl (by decide) rfl (fun ls hl => ?_)
              have hl : lv_has ls 6 [(3, .int 1), (5, .int (nI k)), (4, .int (nI b9)), (0, .ref h0), (1, .int (nI x)), (2, .int (nI y))] := hl
              refine lv_iload hx hb d_Mod_isClassName_53 (lv_at hl 1 rfl) ?_
              refine lv_iconst (v := 1) hx hb d_Mod_isClassName_55 (by decide) ?_
              refine lv_iadd hx hb d_Mod_isClassName_56 ?_
              refine tw_ri (e2 := nI (k + 1)) (nI_add k 1) ?_
              refine lv_istore hx hb d_Mod_isClassName_57 hl (by decide) rfl (fun ls hl => ?_)
              have hl : lv_has ls 6 [(4, .int (nI (k + 1))), (3, .int 1), (5, .int (nI k)), (0, .ref h0), (1, .int (nI x)), (2, .int (nI y))] := hl
              refine lv_iinc (k := 2) (v := nI (k + 1)) hx hb d_Mod_isClassName_59 hl rfl ((nI_succ k).symm) (by decide) rfl (fun ls hl => ?_)
              have hl : lv_has ls 6 [(5, .int (nI (k + 1))), (4, .int (nI (k + 1))), (3, .int 1), (0, .ref h0), (1, .int (nI x)), (2, .int (nI y))] := hl
              refine lv_goto (tgt := 8) hx hb d_Mod_isClassName_62 (by decide) ?_
              exact ih _ (by omega) 1 (k + 1) (k + 1) ls rfl (by omega) (by omega) (by omega) (Or.inr rfl) (by rw [← hC, cnf_s1 (by omega) (Or.inl h17), if_neg h33, ← hB1.2, (hB1.1.resolve_left h44)]) (lv_sub hl [0, 1, 2, 3, 4, 5] rfl)
        · have h17 := tn_neq h17
          refine lv_aload_n hx hb d_Mod_isClassName_20 rfl (lv_at hl 3 rfl) ?_
          refine va_get (D := g.1) (ci := 10) (v := .ref (q 2)) (C := R_Mod) (T := F_Mod) (N := 61) hx hb hts in_Mod hown hK hP 0 rfl rfl 2 (by decide) (hts _ wd_1252) (fun _ h9 => h9) rfl d_Mod_isClassName_21 ?_
          refine lv_iload hx hb d_Mod_isClassName_24 (lv_at hl 0 rfl) ?_
          refine va_iald hx hb hK hP 1 0 rfl rfl (vp_in_nI (by omega) (by decide)) d_Mod_isClassName_26 ?_
          refine tw_ri (e2 := bs k) (by rw [nI_clamp (by omega)]) ?_
          refine lv_bipush (v := 47) hx hb d_Mod_isClassName_27 (by decide) ?_
          refine lv_icmp_ne (tgt := 59) hx hb d_Mod_isClassName_29 (by decide) (fun h29 => ?_) (fun h29 => ?_)
          · refine lv_iinc (k := 0) (v := nI (k + 1)) hx hb d_Mod_isClassName_59 hl rfl ((nI_succ k).symm) (by decide) rfl (fun ls hl => ?_)
            have hl : lv_has ls 6 [(5, .int (nI (k + 1))), (4, .int (nI b9)), (3, .int g9), (0, .ref h0), (1, .int (nI x)), (2, .int (nI y))] := hl
            refine lv_goto (tgt := 8) hx hb d_Mod_isClassName_62 (by decide) ?_
            exact ih _ (by omega) g9 b9 (k + 1) ls rfl (by omega) (by omega) (by omega) hg (by rw [← hC, cnf_s2 (by omega) h17 h29]) (lv_sub hl [0, 1, 2, 3, 4, 5] rfl)
          · refine lv_iload_n hx hb d_Mod_isClassName_32 rfl (lv_at hl 2 rfl) ?_
            refine lv_if_eq (tgt := 51) hx hb d_Mod_isClassName_33 (by decide) (fun h33 => ?_) (fun h33 => ?_)
            · refine lv_iconst (v := 0) hx hb d_Mod_isClassName_51 (by decide) ?_
              refine lv_istore_n hx hb d_Mod_isClassName_52 rfl hl (by decide) rfl (fun ls hl => ?_)
              have hl : lv_has ls 6 [(3, .int 0), (5, .int (nI k)), (4, .int (nI b9)), (0, .ref h0), (1, .int (nI x)), (2, .int (nI y))] := hl
              refine lv_iload hx hb d_Mod_isClassName_53 (lv_at hl 1 rfl) ?_
              refine lv_iconst (v := 1) hx hb d_Mod_isClassName_55 (by decide) ?_
              refine lv_iadd hx hb d_Mod_isClassName_56 ?_
              refine tw_ri (e2 := nI (k + 1)) (nI_add k 1) ?_
              refine lv_istore hx hb d_Mod_isClassName_57 hl (by decide) rfl (fun ls hl => ?_)
              have hl : lv_has ls 6 [(4, .int (nI (k + 1))), (3, .int 0), (5, .int (nI k)), (0, .ref h0), (1, .int (nI x)), (2, .int (nI y))] := hl
              refine lv_iinc (k := 2) (v := nI (k + 1)) hx hb d_Mod_isClassName_59 hl rfl ((nI_succ k).symm) (by decide) rfl (fun ls hl => ?_)
              have hl : lv_has ls 6 [(5, .int (nI (k + 1))), (4, .int (nI (k + 1))), (3, .int 0), (0, .ref h0), (1, .int (nI x)), (2, .int (nI y))] := hl
              refine lv_goto (tgt := 8) hx hb d_Mod_isClassName_62 (by decide) ?_
              exact ih _ (by omega) 0 (k + 1) (k + 1) ls rfl (by omega) (by omega) (by omega) (Or.inl rfl) (by rw [← hC, cnf_s1 (by omega) (Or.inr h29), if_pos h33]) (lv_sub hl [0, 1, 2, 3, 4, 5] rfl)
            · refine lv_aload_n hx hb d_Mod_isClassName_36 rfl (lv_at hl 3 rfl) ?_
              refine lv_iload hx hb d_Mod_isClassName_37 (lv_at hl 1 rfl) ?_
              refine lv_iload hx hb d_Mod_isClassName_39 (lv_at hl 0 rfl) ?_
              refine tw_si (tw_runV (ws := [(h0, .inr (10, mob q rf n mm mb fa fp av ev wi mn tp tc sc nf fd me mp xn mt wh tq ag an ig)), ((q 2), aI g 600 bs)]) (wc := [(h0, .inr (10, mob q rf n mm mb fa fp av ev wi mn tp tc sc nf fd me mp xn mt wh tq ag an ig)), ((q 2), aI g 600 bs)]) (As := [.int (nI b9), .int (nI k)]) (rest := []) E hB hK hZ (g_Mod_isName l g s.heap.size h0 q rf n mm mb fa fp av ev wi mn tp tc sc nf fd me mp xn mt wh tq ag an ig bs b9 k (by omega) (by omega)) mc_Mod_isName mi_Mod_isName me_Mod_isName wd_1544 hP hD hS hA [0, 1] rfl (by decide) 0 rfl rfl rfl rfl rfl (by decide) rfl hl.1 rfl (Nat.le_of_ble_eq_true rfl) (by decide) d_Mod_isClassName_41) (fun r2 hr2 => ?_)
              have hB2 := hr2
              refine lv_if_eq (tgt := 51) hx hb d_Mod_isClassName_44 (by decide) (fun h44 => ?_) (fun h44 => ?_)
              · refine lv_iconst (v := 0) hx hb d_Mod_isClassName_51 (by decide) ?_
                refine lv_istore_n hx hb d_Mod_isClassName_52 rfl hl (by decide) rfl (fun ls hl => ?_)
                have hl : lv_has ls 6 [(3, .int 0), (5, .int (nI k)), (4, .int (nI b9)), (0, .ref h0), (1, .int (nI x)), (2, .int (nI y))] := hl
                refine lv_iload hx hb d_Mod_isClassName_53 (lv_at hl 1 rfl) ?_
                refine lv_iconst (v := 1) hx hb d_Mod_isClassName_55 (by decide) ?_
                refine lv_iadd hx hb d_Mod_isClassName_56 ?_
                refine tw_ri (e2 := nI (k + 1)) (nI_add k 1) ?_
                refine lv_istore hx hb d_Mod_isClassName_57 hl (by decide) rfl (fun ls hl => ?_)
                have hl : lv_has ls 6 [(4, .int (nI (k + 1))), (3, .int 0), (5, .int (nI k)), (0, .ref h0), (1, .int (nI x)), (2, .int (nI y))] := hl
                refine lv_iinc (k := 2) (v := nI (k + 1)) hx hb d_Mod_isClassName_59 hl rfl ((nI_succ k).symm) (by decide) rfl (fun ls hl => ?_)
                have hl : lv_has ls 6 [(5, .int (nI (k + 1))), (4, .int (nI (k + 1))), (3, .int 0), (0, .ref h0), (1, .int (nI x)), (2, .int (nI y))] := hl
                refine lv_goto (tgt := 8) hx hb d_Mod_isClassName_62 (by decide) ?_
                exact ih _ (by omega) 0 (k + 1) (k + 1) ls rfl (by omega) (by omega) (by omega) (Or.inl rfl) (by rw [← hC, cnf_s1 (by omega) (Or.inr h29), if_neg h33, ← hB2.2, h44]) (lv_sub hl [0, 1, 2, 3, 4, 5] rfl)
              · refine lv_iconst (v := 1) hx hb d_Mod_isClassName_47 (by decide) ?_
                refine lv_goto (tgt := 52) hx hb d_Mod_isClassName_48 (by decide) ?_
                refine lv_istore_n hx hb d_Mod_isClassName_52 rfl hl (by decide) rfl (fun ls hl => ?_)
                have hl : lv_has ls 6 [(3, .int 1), (5, .int (nI k)), (4, .int (nI b9)), (0, .ref h0), (1, .int (nI x)), (2, .int (nI y))] := hl
                refine lv_iload hx hb d_Mod_isClassName_53 (lv_at hl 1 rfl) ?_
                refine lv_iconst (v := 1) hx hb d_Mod_isClassName_55 (by decide) ?_
                refine lv_iadd hx hb d_Mod_isClassName_56 ?_
                refine tw_ri (e2 := nI (k + 1)) (nI_add k 1) ?_
                refine lv_istore hx hb d_Mod_isClassName_57 hl (by decide) rfl (fun ls hl => ?_)
                have hl : lv_has ls 6 [(4, .int (nI (k + 1))), (3, .int 1), (5, .int (nI k)), (0, .ref h0), (1, .int (nI x)), (2, .int (nI y))] := hl
                refine lv_iinc (k := 2) (v := nI (k + 1)) hx hb d_Mod_isClassName_59 hl rfl ((nI_succ k).symm) (by decide) rfl (fun ls hl => ?_)
                have hl : lv_has ls 6 [(5, .int (nI (k + 1))), (4, .int (nI (k + 1))), (3, .int 1), (0, .ref h0), (1, .int (nI x)), (2, .int (nI y))] := hl
                refine lv_goto (tgt := 8) hx hb d_Mod_isClassName_62 (by decide) ?_
                exact ih _ (by omega) 1 (k + 1) (k + 1) ls rfl (by omega) (by omega) (by omega) (Or.inr rfl) (by rw [← hC, cnf_s1 (by omega) (Or.inr h29), if_neg h33, ← hB2.2, (hB2.1.resolve_left h44)]) (lv_sub hl [0, 1, 2, 3, 4, 5] rfl)
  exact loop8 _ 1 x x ls rfl (Nat.le_refl _) (by omega) (Nat.le_refl _) (Or.inr rfl) rfl (hl)
set_option maxHeartbeats 4000000 in
set_option maxRecDepth 100000 in
theorem g_Mod_typeEnd (l : Launch) (g : tw_G) (sz : Nat) (h0 : Nat) (q : Nat → Nat) (rf : Int32) (n : Nat) (mm : Int32) (mb : Int32) (fa : Int32) (fp : Int32) (av : Nat) (ev : Nat) (wi : Int32) (mn : Nat) (tp : Int32) (tc : Int32) (sc : Int32) (nf : Nat) (fd : Nat) (me : Nat) (mp : Int32) (xn : Nat) (mt : Nat) (wh : Nat) (tq : Nat) (ag : Nat) (an : Int32) (ig : Int32) (bs : Nat → Int32) (x : Nat) (y : Nat) (hxy : x ≤ y) (hy6 : y ≤ 600) : Met l y_Mod_typeEnd [.code y_Mod_typeEnd b_Mod_typeEnd 6 (some .int)] ({ frames := 3, cells := 0, slots := 0, locals := 69 }) (tw_P g [.ref h0, .int (nI x), .int (nI y)] [(h0, .inr (10, mob q rf n mm mb fa fp av ev wi mn tp tc sc nf fd me mp xn mt wh tq ag an ig)), ((q 2), aI g 600 bs)] sz) (vp_Si (fun (r : Int32) => r = tef bs x y)) 0 0 (fun _ => False) := by
  refine tw_met (l := l) (g := g) (y := y_Mod_typeEnd) (cc := b_Mod_typeEnd) (maxL := 6) (ret := (some .int)) (rm := { frames := 3, cells := 0, slots := 0, locals := 69 }) (mc := 0) (ms := 0) (av := [.ref h0, .int (nI x), .int (nI y)]) (ws := [(h0, .inr (10, mob q rf n mm mb fa fp av ev wi mn tp tc sc nf fd me mp xn mt wh tq ag an ig)), ((q 2), aI g 600 bs)]) (sz := sz) (Qc := fun _ => (vp_Si (fun (r : Int32) => r = tef bs x y))) (free := fun _ _ => False) (by decide) (Nat.le_of_ble_eq_true rfl) ?_
  intro p e s m below meth c ls A E hB hK hZ hP hD hS hA hl
  obtain ⟨hx, hb, hml, hr, hown, hts, hlocks, hin⟩ := id E
  have hl : lv_has ls 6 [(0, .ref h0), (1, .int (nI x)), (2, .int (nI y))] := hl
  refine lv_iload_n hx hb d_Mod_typeEnd_0 rfl (lv_at hl 1 rfl) ?_
  refine lv_istore_n hx hb d_Mod_typeEnd_1 rfl hl (by decide) rfl (fun ls hl => ?_)
  have hl : lv_has ls 6 [(3, .int (nI x)), (0, .ref h0), (1, .int (nI x)), (2, .int (nI y))] := hl
  have loop2 : ∀ (kq : Nat) (k : Nat) (ls : Array Slot) , y - k = kq → (hk1 : x ≤ k) → (hk2 : k ≤ y) → (hk0 : skb bs y (y - k) k = skb bs y (y - x) x) → lv_has ls 6 [(3, .int (nI k)), (0, .ref h0), (1, .int (nI x)), (2, .int (nI y))] → W p l e ({ frames := 3, cells := 0, slots := 0, locals := 69 }) s m [.ref h0, .int (nI x), .int (nI y)].toArray below meth c s.heap [] 0 0 (MQ below (vp_Si (fun (r : Int32) => r = tef bs x y)) [.ref h0, .int (nI x), .int (nI y)].toArray s 0 0 (fun _ => False)) (F0 m 2 ls []) := by
    intro kq
    induction kq using Nat.strongRecOn with
    | _ kq ih =>
      intro k ls hk hk1 hk2 hk0 hl 
      refine lv_iload_n hx hb d_Mod_typeEnd_2 rfl (lv_at hl 0 rfl) ?_
      refine lv_iload_n hx hb d_Mod_typeEnd_3 rfl (lv_at hl 3 rfl) ?_
      refine lv_icmp_ge (tgt := 24) hx hb d_Mod_typeEnd_4 (by decide) (fun h4 => ?_) (fun h4 => ?_)
      · have h4 := tn_le h4 (by omega) (by omega)
        have hKk : skb bs y (y - x) x = k := by rw [← hk0]; exact skb_0 h4
        refine lv_iload_n hx hb d_Mod_typeEnd_24 rfl (lv_at hl 0 rfl) ?_
        refine lv_iload_n hx hb d_Mod_typeEnd_25 rfl (lv_at hl 3 rfl) ?_
        refine lv_icmp_ne (tgt := 31) hx hb d_Mod_typeEnd_26 (by decide) (fun h26 => ?_) (fun h26 => ?_)
        · have h26 := tn_neq h26
          have hky : k < y := by omega
          refine lv_aload_n hx hb d_Mod_typeEnd_31 rfl (lv_at hl 1 rfl) ?_
          refine va_get (D := g.1) (ci := 10) (v := .ref (q 2)) (C := R_Mod) (T := F_Mod) (N := 61) hx hb hts in_Mod hown hK hP 0 rfl rfl 2 (by decide) (hts _ wd_1252) (fun _ h9 => h9) rfl d_Mod_typeEnd_32 ?_
          refine lv_iload_n hx hb d_Mod_typeEnd_35 rfl (lv_at hl 0 rfl) ?_
          refine va_iald hx hb hK hP 1 0 rfl rfl (vp_in_nI (by omega) (by decide)) d_Mod_typeEnd_36 ?_
          refine tw_ri (e2 := bs k) (by rw [nI_clamp (by omega)]) ?_
          refine lv_istore hx hb d_Mod_typeEnd_37 hl (by decide) rfl (fun ls hl => ?_)
          have hl : lv_has ls 6 [(4, .int (bs k)), (3, .int (nI k)), (0, .ref h0), (1, .int (nI x)), (2, .int (nI y))] := hl
          refine lv_iload hx hb d_Mod_typeEnd_39 (lv_at hl 0 rfl) ?_
          refine lv_bipush (v := 76) hx hb d_Mod_typeEnd_41 (by decide) ?_
          refine lv_icmp_ne (tgt := 102) hx hb d_Mod_typeEnd_43 (by decide) (fun h43 => ?_) (fun h43 => ?_)
          · refine lv_iload hx hb d_Mod_typeEnd_102 (lv_at hl 0 rfl) ?_
            refine lv_bipush (v := 66) hx hb d_Mod_typeEnd_104 (by decide) ?_
            refine lv_icmp_eq (tgt := 158) hx hb d_Mod_typeEnd_106 (by decide) (fun h106 => ?_) (fun h106 => ?_)
            · refine lv_iload_n hx hb d_Mod_typeEnd_158 rfl (lv_at hl 1 rfl) ?_
              refine lv_iconst (v := 1) hx hb d_Mod_typeEnd_159 (by decide) ?_
              refine lv_iadd hx hb d_Mod_typeEnd_160 ?_
              refine tw_ri (e2 := nI (k + 1)) (nI_add k 1) ?_
              refine lv_goto (tgt := 165) hx hb d_Mod_typeEnd_161 (by decide) ?_
              exact tw_isret E (by unfold tef; rw [hKk]; unfold teK; rw [if_neg h26, if_neg h43]; unfold tel; rw [if_pos h106]) d_Mod_typeEnd_165
            · refine lv_iload hx hb d_Mod_typeEnd_109 (lv_at hl 0 rfl) ?_
              refine lv_bipush (v := 67) hx hb d_Mod_typeEnd_111 (by decide) ?_
              refine lv_icmp_eq (tgt := 158) hx hb d_Mod_typeEnd_113 (by decide) (fun h113 => ?_) (fun h113 => ?_)
              · refine lv_iload_n hx hb d_Mod_typeEnd_158 rfl (lv_at hl 1 rfl) ?_
                refine lv_iconst (v := 1) hx hb d_Mod_typeEnd_159 (by decide) ?_
                refine lv_iadd hx hb d_Mod_typeEnd_160 ?_
                refine tw_ri (e2 := nI (k + 1)) (nI_add k 1) ?_
                refine lv_goto (tgt := 165) hx hb d_Mod_typeEnd_161 (by decide) ?_
                exact tw_isret E (by unfold tef; rw [hKk]; unfold teK; rw [if_neg h26, if_neg h43]; unfold tel; rw [if_neg h106, if_pos h113]) d_Mod_typeEnd_165
              · refine lv_iload hx hb d_Mod_typeEnd_116 (lv_at hl 0 rfl) ?_
                refine lv_bipush (v := 68) hx hb d_Mod_typeEnd_118 (by decide) ?_
                refine lv_icmp_eq (tgt := 158) hx hb d_Mod_typeEnd_120 (by decide) (fun h120 => ?_) (fun h120 => ?_)
                · refine lv_iload_n hx hb d_Mod_typeEnd_158 rfl (lv_at hl 1 rfl) ?_
                  refine lv_iconst (v := 1) hx hb d_Mod_typeEnd_159 (by decide) ?_
                  refine lv_iadd hx hb d_Mod_typeEnd_160 ?_
                  refine tw_ri (e2 := nI (k + 1)) (nI_add k 1) ?_
                  refine lv_goto (tgt := 165) hx hb d_Mod_typeEnd_161 (by decide) ?_
                  exact tw_isret E (by unfold tef; rw [hKk]; unfold teK; rw [if_neg h26, if_neg h43]; unfold tel; rw [if_neg h106, if_neg h113, if_pos h120]) d_Mod_typeEnd_165
                · refine lv_iload hx hb d_Mod_typeEnd_123 (lv_at hl 0 rfl) ?_
                  refine lv_bipush (v := 70) hx hb d_Mod_typeEnd_125 (by decide) ?_
                  refine lv_icmp_eq (tgt := 158) hx hb d_Mod_typeEnd_127 (by decide) (fun h127 => ?_) (fun h127 => ?_)
                  · refine lv_iload_n hx hb d_Mod_typeEnd_158 rfl (lv_at hl 1 rfl) ?_
                    refine lv_iconst (v := 1) hx hb d_Mod_typeEnd_159 (by decide) ?_
                    refine lv_iadd hx hb d_Mod_typeEnd_160 ?_
                    refine tw_ri (e2 := nI (k + 1)) (nI_add k 1) ?_
                    refine lv_goto (tgt := 165) hx hb d_Mod_typeEnd_161 (by decide) ?_
                    exact tw_isret E (by unfold tef; rw [hKk]; unfold teK; rw [if_neg h26, if_neg h43]; unfold tel; rw [if_neg h106, if_neg h113, if_neg h120, if_pos h127]) d_Mod_typeEnd_165
                  · refine lv_iload hx hb d_Mod_typeEnd_130 (lv_at hl 0 rfl) ?_
                    refine lv_bipush (v := 73) hx hb d_Mod_typeEnd_132 (by decide) ?_
                    refine lv_icmp_eq (tgt := 158) hx hb d_Mod_typeEnd_134 (by decide) (fun h134 => ?_) (fun h134 => ?_)
                    · refine lv_iload_n hx hb d_Mod_typeEnd_158 rfl (lv_at hl 1 rfl) ?_
                      refine lv_iconst (v := 1) hx hb d_Mod_typeEnd_159 (by decide) ?_
                      refine lv_iadd hx hb d_Mod_typeEnd_160 ?_
                      refine tw_ri (e2 := nI (k + 1)) (nI_add k 1) ?_
                      refine lv_goto (tgt := 165) hx hb d_Mod_typeEnd_161 (by decide) ?_
                      exact tw_isret E (by unfold tef; rw [hKk]; unfold teK; rw [if_neg h26, if_neg h43]; unfold tel; rw [if_neg h106, if_neg h113, if_neg h120, if_neg h127, if_pos h134]) d_Mod_typeEnd_165
                    · refine lv_iload hx hb d_Mod_typeEnd_137 (lv_at hl 0 rfl) ?_
                      refine lv_bipush (v := 74) hx hb d_Mod_typeEnd_139 (by decide) ?_
                      refine lv_icmp_eq (tgt := 158) hx hb d_Mod_typeEnd_141 (by decide) (fun h141 => ?_) (fun h141 => ?_)
                      · refine lv_iload_n hx hb d_Mod_typeEnd_158 rfl (lv_at hl 1 rfl) ?_
                        refine lv_iconst (v := 1) hx hb d_Mod_typeEnd_159 (by decide) ?_
                        refine lv_iadd hx hb d_Mod_typeEnd_160 ?_
                        refine tw_ri (e2 := nI (k + 1)) (nI_add k 1) ?_
                        refine lv_goto (tgt := 165) hx hb d_Mod_typeEnd_161 (by decide) ?_
                        exact tw_isret E (by unfold tef; rw [hKk]; unfold teK; rw [if_neg h26, if_neg h43]; unfold tel; rw [if_neg h106, if_neg h113, if_neg h120, if_neg h127, if_neg h134, if_pos h141]) d_Mod_typeEnd_165
                      · refine lv_iload hx hb d_Mod_typeEnd_144 (lv_at hl 0 rfl) ?_
                        refine lv_bipush (v := 83) hx hb d_Mod_typeEnd_146 (by decide) ?_
                        refine lv_icmp_eq (tgt := 158) hx hb d_Mod_typeEnd_148 (by decide) (fun h148 => ?_) (fun h148 => ?_)
                        · refine lv_iload_n hx hb d_Mod_typeEnd_158 rfl (lv_at hl 1 rfl) ?_
                          refine lv_iconst (v := 1) hx hb d_Mod_typeEnd_159 (by decide) ?_
                          refine lv_iadd hx hb d_Mod_typeEnd_160 ?_
                          refine tw_ri (e2 := nI (k + 1)) (nI_add k 1) ?_
                          refine lv_goto (tgt := 165) hx hb d_Mod_typeEnd_161 (by decide) ?_
                          exact tw_isret E (by unfold tef; rw [hKk]; unfold teK; rw [if_neg h26, if_neg h43]; unfold tel; rw [if_neg h106, if_neg h113, if_neg h120, if_neg h127, if_neg h134, if_neg h141, if_pos h148]) d_Mod_typeEnd_165
                        · refine lv_iload hx hb d_Mod_typeEnd_151 (lv_at hl 0 rfl) ?_
                          refine lv_bipush (v := 90) hx hb d_Mod_typeEnd_153 (by decide) ?_
                          refine lv_icmp_ne (tgt := 164) hx hb d_Mod_typeEnd_155 (by decide) (fun h155 => ?_) (fun h155 => ?_)
                          · refine lv_iconst (v := (-1)) hx hb d_Mod_typeEnd_164 (by decide) ?_
                            exact tw_isret E (by unfold tef; rw [hKk]; unfold teK; rw [if_neg h26, if_neg h43]; unfold tel; rw [if_neg h106, if_neg h113, if_neg h120, if_neg h127, if_neg h134, if_neg h141, if_neg h148, if_neg h155]) d_Mod_typeEnd_165
                          · refine lv_iload_n hx hb d_Mod_typeEnd_158 rfl (lv_at hl 1 rfl) ?_
                            refine lv_iconst (v := 1) hx hb d_Mod_typeEnd_159 (by decide) ?_
                            refine lv_iadd hx hb d_Mod_typeEnd_160 ?_
                            refine tw_ri (e2 := nI (k + 1)) (nI_add k 1) ?_
                            refine lv_goto (tgt := 165) hx hb d_Mod_typeEnd_161 (by decide) ?_
                            exact tw_isret E (by unfold tef; rw [hKk]; unfold teK; rw [if_neg h26, if_neg h43]; unfold tel; rw [if_neg h106, if_neg h113, if_neg h120, if_neg h127, if_neg h134, if_neg h141, if_neg h148, if_pos h155]) d_Mod_typeEnd_165
          · refine lv_iload_n hx hb d_Mod_typeEnd_46 rfl (lv_at hl 1 rfl) ?_
            refine lv_iconst (v := 1) hx hb d_Mod_typeEnd_47 (by decide) ?_
            refine lv_iadd hx hb d_Mod_typeEnd_48 ?_
            refine tw_ri (e2 := nI (k + 1)) (nI_add k 1) ?_
            refine lv_istore hx hb d_Mod_typeEnd_49 hl (by decide) rfl (fun ls hl => ?_)
            have hl : lv_has ls 6 [(5, .int (nI (k + 1))), (4, .int (bs k)), (3, .int (nI k)), (0, .ref h0), (1, .int (nI x)), (2, .int (nI y))] := hl
            have loop51 : ∀ (kq : Nat) (j : Nat) (ls : Array Slot) , y - j = kq → (hj1 : k + 1 ≤ j) → (hj2 : j ≤ y) → (hj0 : ske bs y (y - j) j = ske bs y (y - (k + 1)) (k + 1)) → lv_has ls 6 [(5, .int (nI j)), (4, .int (bs k)), (3, .int (nI k)), (0, .ref h0), (1, .int (nI x)), (2, .int (nI y))] → W p l e ({ frames := 3, cells := 0, slots := 0, locals := 69 }) s m [.ref h0, .int (nI x), .int (nI y)].toArray below meth c s.heap [] 0 0 (MQ below (vp_Si (fun (r : Int32) => r = tef bs x y)) [.ref h0, .int (nI x), .int (nI y)].toArray s 0 0 (fun _ => False)) (F0 m 51 ls []) := by
              intro kq
              induction kq using Nat.strongRecOn with
              | _ kq ih51 =>
                intro j ls hk51 hj1 hj2 hj0 hl 
                refine lv_iload hx hb d_Mod_typeEnd_51 (lv_at hl 0 rfl) ?_
                refine lv_iload_n hx hb d_Mod_typeEnd_53 rfl (lv_at hl 5 rfl) ?_
                refine lv_icmp_ge (tgt := 75) hx hb d_Mod_typeEnd_54 (by decide) (fun h54 => ?_) (fun h54 => ?_)
                · have h54 := tn_le h54 (by omega) (by omega)
                  have hJ : ske bs y (y - (k + 1)) (k + 1) = j := by rw [← hj0]; exact ske_0 h54
                  refine lv_iload hx hb d_Mod_typeEnd_75 (lv_at hl 0 rfl) ?_
                  refine lv_iload_n hx hb d_Mod_typeEnd_77 rfl (lv_at hl 5 rfl) ?_
                  refine lv_icmp_ge (tgt := 100) hx hb d_Mod_typeEnd_78 (by decide) (fun h78 => ?_) (fun h78 => ?_)
                  · have h78 := tn_le h78 (by omega) (by omega)
                    refine lv_iconst (v := (-1)) hx hb d_Mod_typeEnd_100 (by decide) ?_
                    exact tw_isret E (by unfold tef; rw [hKk]; unfold teK; rw [if_neg h26, if_pos h43, hJ]; unfold teE; rw [if_neg (by omega)]) d_Mod_typeEnd_101
                  · have h78 := tn_nle h78 (by omega) (by omega)
                    refine lv_aload_n hx hb d_Mod_typeEnd_81 rfl (lv_at hl 3 rfl) ?_
                    refine lv_iload_n hx hb d_Mod_typeEnd_82 rfl (lv_at hl 2 rfl) ?_
                    refine lv_iconst (v := 1) hx hb d_Mod_typeEnd_83 (by decide) ?_
                    refine lv_iadd hx hb d_Mod_typeEnd_84 ?_
                    refine tw_ri (e2 := nI (k + 1)) (nI_add k 1) ?_
                    refine lv_iload hx hb d_Mod_typeEnd_85 (lv_at hl 0 rfl) ?_
                    refine tw_si (tw_runV (ws := [(h0, .inr (10, mob q rf n mm mb fa fp av ev wi mn tp tc sc nf fd me mp xn mt wh tq ag an ig)), ((q 2), aI g 600 bs)]) (wc := [(h0, .inr (10, mob q rf n mm mb fa fp av ev wi mn tp tc sc nf fd me mp xn mt wh tq ag an ig)), ((q 2), aI g 600 bs)]) (As := [.int (nI (k + 1)), .int (nI j)]) (rest := []) E hB hK hZ (g_Mod_isClassName l g s.heap.size h0 q rf n mm mb fa fp av ev wi mn tp tc sc nf fd me mp xn mt wh tq ag an ig bs (k + 1) j (by omega) (by omega)) mc_Mod_isClassName mi_Mod_isClassName me_Mod_isClassName wd_1540 hP hD hS hA [0, 1] rfl (by decide) 0 rfl rfl rfl rfl rfl (by decide) rfl hl.1 rfl (Nat.le_of_ble_eq_true rfl) (by decide) d_Mod_typeEnd_87) (fun r1 hr1 => ?_)
                    have hB1 := hr1
                    refine lv_if_eq (tgt := 100) hx hb d_Mod_typeEnd_90 (by decide) (fun h90 => ?_) (fun h90 => ?_)
                    · refine lv_iconst (v := (-1)) hx hb d_Mod_typeEnd_100 (by decide) ?_
                      exact tw_isret E (by unfold tef; rw [hKk]; unfold teK; rw [if_neg h26, if_pos h43, hJ]; unfold teE; rw [if_pos h78, ← hB1.2, if_pos h90]) d_Mod_typeEnd_101
                    · refine lv_iload hx hb d_Mod_typeEnd_93 (lv_at hl 0 rfl) ?_
                      refine lv_iconst (v := 1) hx hb d_Mod_typeEnd_95 (by decide) ?_
                      refine lv_iadd hx hb d_Mod_typeEnd_96 ?_
                      refine tw_ri (e2 := nI (j + 1)) (nI_add j 1) ?_
                      refine lv_goto (tgt := 101) hx hb d_Mod_typeEnd_97 (by decide) ?_
                      exact tw_isret E (by unfold tef; rw [hKk]; unfold teK; rw [if_neg h26, if_pos h43, hJ]; unfold teE; rw [if_pos h78, ← hB1.2, if_neg h90]) d_Mod_typeEnd_101
                · have h54 := tn_nle h54 (by omega) (by omega)
                  refine lv_aload_n hx hb d_Mod_typeEnd_57 rfl (lv_at hl 3 rfl) ?_
                  refine va_get (D := g.1) (ci := 10) (v := .ref (q 2)) (C := R_Mod) (T := F_Mod) (N := 61) hx hb hts in_Mod hown hK hP 0 rfl rfl 2 (by decide) (hts _ wd_1252) (fun _ h9 => h9) rfl d_Mod_typeEnd_58 ?_
                  refine lv_iload hx hb d_Mod_typeEnd_61 (lv_at hl 0 rfl) ?_
                  refine va_iald hx hb hK hP 1 0 rfl rfl (vp_in_nI (by omega) (by decide)) d_Mod_typeEnd_63 ?_
                  refine tw_ri (e2 := bs j) (by rw [nI_clamp (by omega)]) ?_
                  refine lv_bipush (v := 59) hx hb d_Mod_typeEnd_64 (by decide) ?_
                  refine lv_icmp_eq (tgt := 75) hx hb d_Mod_typeEnd_66 (by decide) (fun h66 => ?_) (fun h66 => ?_)
                  · have hJ : ske bs y (y - (k + 1)) (k + 1) = j := by rw [← hj0]; exact ske_1 h66
                    refine lv_iload hx hb d_Mod_typeEnd_75 (lv_at hl 0 rfl) ?_
                    refine lv_iload_n hx hb d_Mod_typeEnd_77 rfl (lv_at hl 5 rfl) ?_
                    refine lv_icmp_ge (tgt := 100) hx hb d_Mod_typeEnd_78 (by decide) (fun h78 => ?_) (fun h78 => ?_)
                    · have h78 := tn_le h78 (by omega) (by omega)
                      refine lv_iconst (v := (-1)) hx hb d_Mod_typeEnd_100 (by decide) ?_
                      exact tw_isret E (by unfold tef; rw [hKk]; unfold teK; rw [if_neg h26, if_pos h43, hJ]; unfold teE; rw [if_neg (by omega)]) d_Mod_typeEnd_101
                    · have h78 := tn_nle h78 (by omega) (by omega)
                      refine lv_aload_n hx hb d_Mod_typeEnd_81 rfl (lv_at hl 3 rfl) ?_
                      refine lv_iload_n hx hb d_Mod_typeEnd_82 rfl (lv_at hl 2 rfl) ?_
                      refine lv_iconst (v := 1) hx hb d_Mod_typeEnd_83 (by decide) ?_
                      refine lv_iadd hx hb d_Mod_typeEnd_84 ?_
                      refine tw_ri (e2 := nI (k + 1)) (nI_add k 1) ?_
                      refine lv_iload hx hb d_Mod_typeEnd_85 (lv_at hl 0 rfl) ?_
                      refine tw_si (tw_runV (ws := [(h0, .inr (10, mob q rf n mm mb fa fp av ev wi mn tp tc sc nf fd me mp xn mt wh tq ag an ig)), ((q 2), aI g 600 bs)]) (wc := [(h0, .inr (10, mob q rf n mm mb fa fp av ev wi mn tp tc sc nf fd me mp xn mt wh tq ag an ig)), ((q 2), aI g 600 bs)]) (As := [.int (nI (k + 1)), .int (nI j)]) (rest := []) E hB hK hZ (g_Mod_isClassName l g s.heap.size h0 q rf n mm mb fa fp av ev wi mn tp tc sc nf fd me mp xn mt wh tq ag an ig bs (k + 1) j (by omega) (by omega)) mc_Mod_isClassName mi_Mod_isClassName me_Mod_isClassName wd_1540 hP hD hS hA [0, 1] rfl (by decide) 0 rfl rfl rfl rfl rfl (by decide) rfl hl.1 rfl (Nat.le_of_ble_eq_true rfl) (by decide) d_Mod_typeEnd_87) (fun r2 hr2 => ?_)
                      have hB2 := hr2
                      refine lv_if_eq (tgt := 100) hx hb d_Mod_typeEnd_90 (by decide) (fun h90 => ?_) (fun h90 => ?_)
                      · refine lv_iconst (v := (-1)) hx hb d_Mod_typeEnd_100 (by decide) ?_
                        exact tw_isret E (by unfold tef; rw [hKk]; unfold teK; rw [if_neg h26, if_pos h43, hJ]; unfold teE; rw [if_pos h78, ← hB2.2, if_pos h90]) d_Mod_typeEnd_101
                      · refine lv_iload hx hb d_Mod_typeEnd_93 (lv_at hl 0 rfl) ?_
                        refine lv_iconst (v := 1) hx hb d_Mod_typeEnd_95 (by decide) ?_
                        refine lv_iadd hx hb d_Mod_typeEnd_96 ?_
                        refine tw_ri (e2 := nI (j + 1)) (nI_add j 1) ?_
                        refine lv_goto (tgt := 101) hx hb d_Mod_typeEnd_97 (by decide) ?_
                        exact tw_isret E (by unfold tef; rw [hKk]; unfold teK; rw [if_neg h26, if_pos h43, hJ]; unfold teE; rw [if_pos h78, ← hB2.2, if_neg h90]) d_Mod_typeEnd_101
                  · refine lv_iinc (k := 0) (v := nI (j + 1)) hx hb d_Mod_typeEnd_69 hl rfl ((nI_succ j).symm) (by decide) rfl (fun ls hl => ?_)
                    have hl : lv_has ls 6 [(5, .int (nI (j + 1))), (4, .int (bs k)), (3, .int (nI k)), (0, .ref h0), (1, .int (nI x)), (2, .int (nI y))] := hl
                    refine lv_goto (tgt := 51) hx hb d_Mod_typeEnd_72 (by decide) ?_
                    exact ih51 _ (by omega) (j + 1) ls rfl (by omega) (by omega) (by rw [← hj0, ske_s h54 h66]) (lv_sub hl [0, 1, 2, 3, 4, 5] rfl)
            exact loop51 _ (k + 1) ls rfl (Nat.le_refl _) (by omega) rfl (hl)
        · have h26 := tn_eq h26 (by omega) (by omega)
          refine lv_iconst (v := (-1)) hx hb d_Mod_typeEnd_29 (by decide) ?_
          exact tw_isret E (by unfold tef; rw [hKk]; unfold teK; rw [if_pos h26]) d_Mod_typeEnd_30
      · have h4 := tn_nle h4 (by omega) (by omega)
        refine lv_aload_n hx hb d_Mod_typeEnd_7 rfl (lv_at hl 1 rfl) ?_
        refine va_get (D := g.1) (ci := 10) (v := .ref (q 2)) (C := R_Mod) (T := F_Mod) (N := 61) hx hb hts in_Mod hown hK hP 0 rfl rfl 2 (by decide) (hts _ wd_1252) (fun _ h9 => h9) rfl d_Mod_typeEnd_8 ?_
        refine lv_iload_n hx hb d_Mod_typeEnd_11 rfl (lv_at hl 0 rfl) ?_
        refine va_iald hx hb hK hP 1 0 rfl rfl (vp_in_nI (by omega) (by decide)) d_Mod_typeEnd_12 ?_
        refine tw_ri (e2 := bs k) (by rw [nI_clamp (by omega)]) ?_
        refine lv_bipush (v := 91) hx hb d_Mod_typeEnd_13 (by decide) ?_
        refine lv_icmp_ne (tgt := 24) hx hb d_Mod_typeEnd_15 (by decide) (fun h15 => ?_) (fun h15 => ?_)
        · have hKk : skb bs y (y - x) x = k := by rw [← hk0]; exact skb_1 h15
          refine lv_iload_n hx hb d_Mod_typeEnd_24 rfl (lv_at hl 0 rfl) ?_
          refine lv_iload_n hx hb d_Mod_typeEnd_25 rfl (lv_at hl 3 rfl) ?_
          refine lv_icmp_ne (tgt := 31) hx hb d_Mod_typeEnd_26 (by decide) (fun h26 => ?_) (fun h26 => ?_)
          · have h26 := tn_neq h26
            have hky : k < y := by omega
            refine lv_aload_n hx hb d_Mod_typeEnd_31 rfl (lv_at hl 1 rfl) ?_
            refine va_get (D := g.1) (ci := 10) (v := .ref (q 2)) (C := R_Mod) (T := F_Mod) (N := 61) hx hb hts in_Mod hown hK hP 0 rfl rfl 2 (by decide) (hts _ wd_1252) (fun _ h9 => h9) rfl d_Mod_typeEnd_32 ?_
            refine lv_iload_n hx hb d_Mod_typeEnd_35 rfl (lv_at hl 0 rfl) ?_
            refine va_iald hx hb hK hP 1 0 rfl rfl (vp_in_nI (by omega) (by decide)) d_Mod_typeEnd_36 ?_
            refine tw_ri (e2 := bs k) (by rw [nI_clamp (by omega)]) ?_
            refine lv_istore hx hb d_Mod_typeEnd_37 hl (by decide) rfl (fun ls hl => ?_)
            have hl : lv_has ls 6 [(4, .int (bs k)), (3, .int (nI k)), (0, .ref h0), (1, .int (nI x)), (2, .int (nI y))] := hl
            refine lv_iload hx hb d_Mod_typeEnd_39 (lv_at hl 0 rfl) ?_
            refine lv_bipush (v := 76) hx hb d_Mod_typeEnd_41 (by decide) ?_
            refine lv_icmp_ne (tgt := 102) hx hb d_Mod_typeEnd_43 (by decide) (fun h43 => ?_) (fun h43 => ?_)
            · refine lv_iload hx hb d_Mod_typeEnd_102 (lv_at hl 0 rfl) ?_
              refine lv_bipush (v := 66) hx hb d_Mod_typeEnd_104 (by decide) ?_
              refine lv_icmp_eq (tgt := 158) hx hb d_Mod_typeEnd_106 (by decide) (fun h106 => ?_) (fun h106 => ?_)
              · refine lv_iload_n hx hb d_Mod_typeEnd_158 rfl (lv_at hl 1 rfl) ?_
                refine lv_iconst (v := 1) hx hb d_Mod_typeEnd_159 (by decide) ?_
                refine lv_iadd hx hb d_Mod_typeEnd_160 ?_
                refine tw_ri (e2 := nI (k + 1)) (nI_add k 1) ?_
                refine lv_goto (tgt := 165) hx hb d_Mod_typeEnd_161 (by decide) ?_
                exact tw_isret E (by unfold tef; rw [hKk]; unfold teK; rw [if_neg h26, if_neg h43]; unfold tel; rw [if_pos h106]) d_Mod_typeEnd_165
              · refine lv_iload hx hb d_Mod_typeEnd_109 (lv_at hl 0 rfl) ?_
                refine lv_bipush (v := 67) hx hb d_Mod_typeEnd_111 (by decide) ?_
                refine lv_icmp_eq (tgt := 158) hx hb d_Mod_typeEnd_113 (by decide) (fun h113 => ?_) (fun h113 => ?_)
                · refine lv_iload_n hx hb d_Mod_typeEnd_158 rfl (lv_at hl 1 rfl) ?_
                  refine lv_iconst (v := 1) hx hb d_Mod_typeEnd_159 (by decide) ?_
                  refine lv_iadd hx hb d_Mod_typeEnd_160 ?_
                  refine tw_ri (e2 := nI (k + 1)) (nI_add k 1) ?_
                  refine lv_goto (tgt := 165) hx hb d_Mod_typeEnd_161 (by decide) ?_
                  exact tw_isret E (by unfold tef; rw [hKk]; unfold teK; rw [if_neg h26, if_neg h43]; unfold tel; rw [if_neg h106, if_pos h113]) d_Mod_typeEnd_165
                · refine lv_iload hx hb d_Mod_typeEnd_116 (lv_at hl 0 rfl) ?_
                  refine lv_bipush (v := 68) hx hb d_Mod_typeEnd_118 (by decide) ?_
                  refine lv_icmp_eq (tgt := 158) hx hb d_Mod_typeEnd_120 (by decide) (fun h120 => ?_) (fun h120 => ?_)
                  · refine lv_iload_n hx hb d_Mod_typeEnd_158 rfl (lv_at hl 1 rfl) ?_
                    refine lv_iconst (v := 1) hx hb d_Mod_typeEnd_159 (by decide) ?_
                    refine lv_iadd hx hb d_Mod_typeEnd_160 ?_
                    refine tw_ri (e2 := nI (k + 1)) (nI_add k 1) ?_
                    refine lv_goto (tgt := 165) hx hb d_Mod_typeEnd_161 (by decide) ?_
                    exact tw_isret E (by unfold tef; rw [hKk]; unfold teK; rw [if_neg h26, if_neg h43]; unfold tel; rw [if_neg h106, if_neg h113, if_pos h120]) d_Mod_typeEnd_165
                  · refine lv_iload hx hb d_Mod_typeEnd_123 (lv_at hl 0 rfl) ?_
                    refine lv_bipush (v := 70) hx hb d_Mod_typeEnd_125 (by decide) ?_
                    refine lv_icmp_eq (tgt := 158) hx hb d_Mod_typeEnd_127 (by decide) (fun h127 => ?_) (fun h127 => ?_)
                    · refine lv_iload_n hx hb d_Mod_typeEnd_158 rfl (lv_at hl 1 rfl) ?_
                      refine lv_iconst (v := 1) hx hb d_Mod_typeEnd_159 (by decide) ?_
                      refine lv_iadd hx hb d_Mod_typeEnd_160 ?_
                      refine tw_ri (e2 := nI (k + 1)) (nI_add k 1) ?_
                      refine lv_goto (tgt := 165) hx hb d_Mod_typeEnd_161 (by decide) ?_
                      exact tw_isret E (by unfold tef; rw [hKk]; unfold teK; rw [if_neg h26, if_neg h43]; unfold tel; rw [if_neg h106, if_neg h113, if_neg h120, if_pos h127]) d_Mod_typeEnd_165
                    · refine lv_iload hx hb d_Mod_typeEnd_130 (lv_at hl 0 rfl) ?_
                      refine lv_bipush (v := 73) hx hb d_Mod_typeEnd_132 (by decide) ?_
                      refine lv_icmp_eq (tgt := 158) hx hb d_Mod_typeEnd_134 (by decide) (fun h134 => ?_) (fun h134 => ?_)
                      · refine lv_iload_n hx hb d_Mod_typeEnd_158 rfl (lv_at hl 1 rfl) ?_
                        refine lv_iconst (v := 1) hx hb d_Mod_typeEnd_159 (by decide) ?_
                        refine lv_iadd hx hb d_Mod_typeEnd_160 ?_
                        refine tw_ri (e2 := nI (k + 1)) (nI_add k 1) ?_
                        refine lv_goto (tgt := 165) hx hb d_Mod_typeEnd_161 (by decide) ?_
                        exact tw_isret E (by unfold tef; rw [hKk]; unfold teK; rw [if_neg h26, if_neg h43]; unfold tel; rw [if_neg h106, if_neg h113, if_neg h120, if_neg h127, if_pos h134]) d_Mod_typeEnd_165
                      · refine lv_iload hx hb d_Mod_typeEnd_137 (lv_at hl 0 rfl) ?_
                        refine lv_bipush (v := 74) hx hb d_Mod_typeEnd_139 (by decide) ?_
                        refine lv_icmp_eq (tgt := 158) hx hb d_Mod_typeEnd_141 (by decide) (fun h141 => ?_) (fun h141 => ?_)
                        · refine lv_iload_n hx hb d_Mod_typeEnd_158 rfl (lv_at hl 1 rfl) ?_
                          refine lv_iconst (v := 1) hx hb d_Mod_typeEnd_159 (by decide) ?_
                          refine lv_iadd hx hb d_Mod_typeEnd_160 ?_
                          refine tw_ri (e2 := nI (k + 1)) (nI_add k 1) ?_
                          refine lv_goto (tgt := 165) hx hb d_Mod_typeEnd_161 (by decide) ?_
                          exact tw_isret E (by unfold tef; rw [hKk]; unfold teK; rw [if_neg h26, if_neg h43]; unfold tel; rw [if_neg h106, if_neg h113, if_neg h120, if_neg h127, if_neg h134, if_pos h141]) d_Mod_typeEnd_165
                        · refine lv_iload hx hb d_Mod_typeEnd_144 (lv_at hl 0 rfl) ?_
                          refine lv_bipush (v := 83) hx hb d_Mod_typeEnd_146 (by decide) ?_
                          refine lv_icmp_eq (tgt := 158) hx hb d_Mod_typeEnd_148 (by decide) (fun h148 => ?_) (fun h148 => ?_)
                          · refine lv_iload_n hx hb d_Mod_typeEnd_158 rfl (lv_at hl 1 rfl) ?_
                            refine lv_iconst (v := 1) hx hb d_Mod_typeEnd_159 (by decide) ?_
                            refine lv_iadd hx hb d_Mod_typeEnd_160 ?_
                            refine tw_ri (e2 := nI (k + 1)) (nI_add k 1) ?_
                            refine lv_goto (tgt := 165) hx hb d_Mod_typeEnd_161 (by decide) ?_
                            exact tw_isret E (by unfold tef; rw [hKk]; unfold teK; rw [if_neg h26, if_neg h43]; unfold tel; rw [if_neg h106, if_neg h113, if_neg h120, if_neg h127, if_neg h134, if_neg h141, if_pos h148]) d_Mod_typeEnd_165
                          · refine lv_iload hx hb d_Mod_typeEnd_151 (lv_at hl 0 rfl) ?_
                            refine lv_bipush (v := 90) hx hb d_Mod_typeEnd_153 (by decide) ?_
                            refine lv_icmp_ne (tgt := 164) hx hb d_Mod_typeEnd_155 (by decide) (fun h155 => ?_) (fun h155 => ?_)
                            · refine lv_iconst (v := (-1)) hx hb d_Mod_typeEnd_164 (by decide) ?_
                              exact tw_isret E (by unfold tef; rw [hKk]; unfold teK; rw [if_neg h26, if_neg h43]; unfold tel; rw [if_neg h106, if_neg h113, if_neg h120, if_neg h127, if_neg h134, if_neg h141, if_neg h148, if_neg h155]) d_Mod_typeEnd_165
                            · refine lv_iload_n hx hb d_Mod_typeEnd_158 rfl (lv_at hl 1 rfl) ?_
                              refine lv_iconst (v := 1) hx hb d_Mod_typeEnd_159 (by decide) ?_
                              refine lv_iadd hx hb d_Mod_typeEnd_160 ?_
                              refine tw_ri (e2 := nI (k + 1)) (nI_add k 1) ?_
                              refine lv_goto (tgt := 165) hx hb d_Mod_typeEnd_161 (by decide) ?_
                              exact tw_isret E (by unfold tef; rw [hKk]; unfold teK; rw [if_neg h26, if_neg h43]; unfold tel; rw [if_neg h106, if_neg h113, if_neg h120, if_neg h127, if_neg h134, if_neg h141, if_neg h148, if_pos h155]) d_Mod_typeEnd_165
            · refine lv_iload_n hx hb d_Mod_typeEnd_46 rfl (lv_at hl 1 rfl) ?_
              refine lv_iconst (v := 1) hx hb d_Mod_typeEnd_47 (by decide) ?_
              refine lv_iadd hx hb d_Mod_typeEnd_48 ?_
              refine tw_ri (e2 := nI (k + 1)) (nI_add k 1) ?_
              refine lv_istore hx hb d_Mod_typeEnd_49 hl (by decide) rfl (fun ls hl => ?_)
              have hl : lv_has ls 6 [(5, .int (nI (k + 1))), (4, .int (bs k)), (3, .int (nI k)), (0, .ref h0), (1, .int (nI x)), (2, .int (nI y))] := hl
              have loop51 : ∀ (kq : Nat) (j : Nat) (ls : Array Slot) , y - j = kq → (hj1 : k + 1 ≤ j) → (hj2 : j ≤ y) → (hj0 : ske bs y (y - j) j = ske bs y (y - (k + 1)) (k + 1)) → lv_has ls 6 [(5, .int (nI j)), (4, .int (bs k)), (3, .int (nI k)), (0, .ref h0), (1, .int (nI x)), (2, .int (nI y))] → W p l e ({ frames := 3, cells := 0, slots := 0, locals := 69 }) s m [.ref h0, .int (nI x), .int (nI y)].toArray below meth c s.heap [] 0 0 (MQ below (vp_Si (fun (r : Int32) => r = tef bs x y)) [.ref h0, .int (nI x), .int (nI y)].toArray s 0 0 (fun _ => False)) (F0 m 51 ls []) := by
                intro kq
                induction kq using Nat.strongRecOn with
                | _ kq ih51 =>
                  intro j ls hk51 hj1 hj2 hj0 hl 
                  refine lv_iload hx hb d_Mod_typeEnd_51 (lv_at hl 0 rfl) ?_
                  refine lv_iload_n hx hb d_Mod_typeEnd_53 rfl (lv_at hl 5 rfl) ?_
                  refine lv_icmp_ge (tgt := 75) hx hb d_Mod_typeEnd_54 (by decide) (fun h54 => ?_) (fun h54 => ?_)
                  · have h54 := tn_le h54 (by omega) (by omega)
                    have hJ : ske bs y (y - (k + 1)) (k + 1) = j := by rw [← hj0]; exact ske_0 h54
                    refine lv_iload hx hb d_Mod_typeEnd_75 (lv_at hl 0 rfl) ?_
                    refine lv_iload_n hx hb d_Mod_typeEnd_77 rfl (lv_at hl 5 rfl) ?_
                    refine lv_icmp_ge (tgt := 100) hx hb d_Mod_typeEnd_78 (by decide) (fun h78 => ?_) (fun h78 => ?_)
                    · have h78 := tn_le h78 (by omega) (by omega)
                      refine lv_iconst (v := (-1)) hx hb d_Mod_typeEnd_100 (by decide) ?_
                      exact tw_isret E (by unfold tef; rw [hKk]; unfold teK; rw [if_neg h26, if_pos h43, hJ]; unfold teE; rw [if_neg (by omega)]) d_Mod_typeEnd_101
                    · have h78 := tn_nle h78 (by omega) (by omega)
                      refine lv_aload_n hx hb d_Mod_typeEnd_81 rfl (lv_at hl 3 rfl) ?_
                      refine lv_iload_n hx hb d_Mod_typeEnd_82 rfl (lv_at hl 2 rfl) ?_
                      refine lv_iconst (v := 1) hx hb d_Mod_typeEnd_83 (by decide) ?_
                      refine lv_iadd hx hb d_Mod_typeEnd_84 ?_
                      refine tw_ri (e2 := nI (k + 1)) (nI_add k 1) ?_
                      refine lv_iload hx hb d_Mod_typeEnd_85 (lv_at hl 0 rfl) ?_
                      refine tw_si (tw_runV (ws := [(h0, .inr (10, mob q rf n mm mb fa fp av ev wi mn tp tc sc nf fd me mp xn mt wh tq ag an ig)), ((q 2), aI g 600 bs)]) (wc := [(h0, .inr (10, mob q rf n mm mb fa fp av ev wi mn tp tc sc nf fd me mp xn mt wh tq ag an ig)), ((q 2), aI g 600 bs)]) (As := [.int (nI (k + 1)), .int (nI j)]) (rest := []) E hB hK hZ (g_Mod_isClassName l g s.heap.size h0 q rf n mm mb fa fp av ev wi mn tp tc sc nf fd me mp xn mt wh tq ag an ig bs (k + 1) j (by omega) (by omega)) mc_Mod_isClassName mi_Mod_isClassName me_Mod_isClassName wd_1540 hP hD hS hA [0, 1] rfl (by decide) 0 rfl rfl rfl rfl rfl (by decide) rfl hl.1 rfl (Nat.le_of_ble_eq_true rfl) (by decide) d_Mod_typeEnd_87) (fun r3 hr3 => ?_)
                      have hB3 := hr3
                      refine lv_if_eq (tgt := 100) hx hb d_Mod_typeEnd_90 (by decide) (fun h90 => ?_) (fun h90 => ?_)
                      · refine lv_iconst (v := (-1)) hx hb d_Mod_typeEnd_100 (by decide) ?_
                        exact tw_isret E (by unfold tef; rw [hKk]; unfold teK; rw [if_neg h26, if_pos h43, hJ]; unfold teE; rw [if_pos h78, ← hB3.2, if_pos h90]) d_Mod_typeEnd_101
                      · refine lv_iload hx hb d_Mod_typeEnd_93 (lv_at hl 0 rfl) ?_
                        refine lv_iconst (v := 1) hx hb d_Mod_typeEnd_95 (by decide) ?_
                        refine lv_iadd hx hb d_Mod_typeEnd_96 ?_
                        refine tw_ri (e2 := nI (j + 1)) (nI_add j 1) ?_
                        refine lv_goto (tgt := 101) hx hb d_Mod_typeEnd_97 (by decide) ?_
                        exact tw_isret E (by unfold tef; rw [hKk]; unfold teK; rw [if_neg h26, if_pos h43, hJ]; unfold teE; rw [if_pos h78, ← hB3.2, if_neg h90]) d_Mod_typeEnd_101
                  · have h54 := tn_nle h54 (by omega) (by omega)
                    refine lv_aload_n hx hb d_Mod_typeEnd_57 rfl (lv_at hl 3 rfl) ?_
                    refine va_get (D := g.1) (ci := 10) (v := .ref (q 2)) (C := R_Mod) (T := F_Mod) (N := 61) hx hb hts in_Mod hown hK hP 0 rfl rfl 2 (by decide) (hts _ wd_1252) (fun _ h9 => h9) rfl d_Mod_typeEnd_58 ?_
                    refine lv_iload hx hb d_Mod_typeEnd_61 (lv_at hl 0 rfl) ?_
                    refine va_iald hx hb hK hP 1 0 rfl rfl (vp_in_nI (by omega) (by decide)) d_Mod_typeEnd_63 ?_
                    refine tw_ri (e2 := bs j) (by rw [nI_clamp (by omega)]) ?_
                    refine lv_bipush (v := 59) hx hb d_Mod_typeEnd_64 (by decide) ?_
                    refine lv_icmp_eq (tgt := 75) hx hb d_Mod_typeEnd_66 (by decide) (fun h66 => ?_) (fun h66 => ?_)
                    · have hJ : ske bs y (y - (k + 1)) (k + 1) = j := by rw [← hj0]; exact ske_1 h66
                      refine lv_iload hx hb d_Mod_typeEnd_75 (lv_at hl 0 rfl) ?_
                      refine lv_iload_n hx hb d_Mod_typeEnd_77 rfl (lv_at hl 5 rfl) ?_
                      refine lv_icmp_ge (tgt := 100) hx hb d_Mod_typeEnd_78 (by decide) (fun h78 => ?_) (fun h78 => ?_)
                      · have h78 := tn_le h78 (by omega) (by omega)
                        refine lv_iconst (v := (-1)) hx hb d_Mod_typeEnd_100 (by decide) ?_
                        exact tw_isret E (by unfold tef; rw [hKk]; unfold teK; rw [if_neg h26, if_pos h43, hJ]; unfold teE; rw [if_neg (by omega)]) d_Mod_typeEnd_101
                      · have h78 := tn_nle h78 (by omega) (by omega)
                        refine lv_aload_n hx hb d_Mod_typeEnd_81 rfl (lv_at hl 3 rfl) ?_
                        refine lv_iload_n hx hb d_Mod_typeEnd_82 rfl (lv_at hl 2 rfl) ?_
                        refine lv_iconst (v := 1) hx hb d_Mod_typeEnd_83 (by decide) ?_
                        refine lv_iadd hx hb d_Mod_typeEnd_84 ?_
                        refine tw_ri (e2 := nI (k + 1)) (nI_add k 1) ?_
                        refine lv_iload hx hb d_Mod_typeEnd_85 (lv_at hl 0 rfl) ?_
                        refine tw_si (tw_runV (ws := [(h0, .inr (10, mob q rf n mm mb fa fp av ev wi mn tp tc sc nf fd me mp xn mt wh tq ag an ig)), ((q 2), aI g 600 bs)]) (wc := [(h0, .inr (10, mob q rf n mm mb fa fp av ev wi mn tp tc sc nf fd me mp xn mt wh tq ag an ig)), ((q 2), aI g 600 bs)]) (As := [.int (nI (k + 1)), .int (nI j)]) (rest := []) E hB hK hZ (g_Mod_isClassName l g s.heap.size h0 q rf n mm mb fa fp av ev wi mn tp tc sc nf fd me mp xn mt wh tq ag an ig bs (k + 1) j (by omega) (by omega)) mc_Mod_isClassName mi_Mod_isClassName me_Mod_isClassName wd_1540 hP hD hS hA [0, 1] rfl (by decide) 0 rfl rfl rfl rfl rfl (by decide) rfl hl.1 rfl (Nat.le_of_ble_eq_true rfl) (by decide) d_Mod_typeEnd_87) (fun r4 hr4 => ?_)
                        have hB4 := hr4
                        refine lv_if_eq (tgt := 100) hx hb d_Mod_typeEnd_90 (by decide) (fun h90 => ?_) (fun h90 => ?_)
                        · refine lv_iconst (v := (-1)) hx hb d_Mod_typeEnd_100 (by decide) ?_
                          exact tw_isret E (by unfold tef; rw [hKk]; unfold teK; rw [if_neg h26, if_pos h43, hJ]; unfold teE; rw [if_pos h78, ← hB4.2, if_pos h90]) d_Mod_typeEnd_101
                        · refine lv_iload hx hb d_Mod_typeEnd_93 (lv_at hl 0 rfl) ?_
                          refine lv_iconst (v := 1) hx hb d_Mod_typeEnd_95 (by decide) ?_
                          refine lv_iadd hx hb d_Mod_typeEnd_96 ?_
                          refine tw_ri (e2 := nI (j + 1)) (nI_add j 1) ?_
                          refine lv_goto (tgt := 101) hx hb d_Mod_typeEnd_97 (by decide) ?_
                          exact tw_isret E (by unfold tef; rw [hKk]; unfold teK; rw [if_neg h26, if_pos h43, hJ]; unfold teE; rw [if_pos h78, ← hB4.2, if_neg h90]) d_Mod_typeEnd_101
                    · refine lv_iinc (k := 0) (v := nI (j + 1)) hx hb d_Mod_typeEnd_69 hl rfl ((nI_succ j).symm) (by decide) rfl (fun ls hl => ?_)
                      have hl : lv_has ls 6 [(5, .int (nI (j + 1))), (4, .int (bs k)), (3, .int (nI k)), (0, .ref h0), (1, .int (nI x)), (2, .int (nI y))] := hl
                      refine lv_goto (tgt := 51) hx hb d_Mod_typeEnd_72 (by decide) ?_
                      exact ih51 _ (by omega) (j + 1) ls rfl (by omega) (by omega) (by rw [← hj0, ske_s h54 h66]) (lv_sub hl [0, 1, 2, 3, 4, 5] rfl)
              exact loop51 _ (k + 1) ls rfl (Nat.le_refl _) (by omega) rfl (hl)
          · have h26 := tn_eq h26 (by omega) (by omega)
            refine lv_iconst (v := (-1)) hx hb d_Mod_typeEnd_29 (by decide) ?_
            exact tw_isret E (by unfold tef; rw [hKk]; unfold teK; rw [if_pos h26]) d_Mod_typeEnd_30
        · refine lv_iinc (k := 0) (v := nI (k + 1)) hx hb d_Mod_typeEnd_18 hl rfl ((nI_succ k).symm) (by decide) rfl (fun ls hl => ?_)
          have hl : lv_has ls 6 [(3, .int (nI (k + 1))), (0, .ref h0), (1, .int (nI x)), (2, .int (nI y))] := hl
          refine lv_goto (tgt := 2) hx hb d_Mod_typeEnd_21 (by decide) ?_
          exact ih _ (by omega) (k + 1) ls rfl (by omega) (by omega) (by rw [← hk0, skb_s h4 h15]) (lv_sub hl [0, 1, 2, 3] rfl)
  exact loop2 _ x ls rfl (Nat.le_refl _) hxy rfl (hl)
set_option maxHeartbeats 4000000 in
set_option maxRecDepth 100000 in
theorem g_Mod_isType (l : Launch) (g : tw_G) (sz : Nat) (h0 : Nat) (q : Nat → Nat) (rf : Int32) (n : Nat) (mm : Int32) (mb : Int32) (fa : Int32) (fp : Int32) (av : Nat) (ev : Nat) (wi : Int32) (mn : Nat) (tp : Int32) (tc : Int32) (sc : Int32) (nf : Nat) (fd : Nat) (me : Nat) (mp : Int32) (xn : Nat) (mt : Nat) (wh : Nat) (tq : Nat) (ag : Nat) (an : Int32) (ig : Int32) (bs : Nat → Int32) (x : Nat) (y : Nat) (hxy : x ≤ y) (hy6 : y ≤ 600) : Met l y_Mod_isType [.code y_Mod_isType b_Mod_isType 3 (some .boolean)] ({ frames := 4, cells := 0, slots := 0, locals := 94 }) (tw_P g [.ref h0, .int (nI x), .int (nI y)] [(h0, .inr (10, mob q rf n mm mb fa fp av ev wi mn tp tc sc nf fd me mp xn mt wh tq ag an ig)), ((q 2), aI g 600 bs)] sz) (vp_Si (fun (r : Int32) => (r = 0 ∨ r = 1) ∧ (r = 1 → tef bs x y = nI y))) 0 0 (fun _ => False) := by
  refine tw_met (l := l) (g := g) (y := y_Mod_isType) (cc := b_Mod_isType) (maxL := 3) (ret := (some .boolean)) (rm := { frames := 4, cells := 0, slots := 0, locals := 94 }) (mc := 0) (ms := 0) (av := [.ref h0, .int (nI x), .int (nI y)]) (ws := [(h0, .inr (10, mob q rf n mm mb fa fp av ev wi mn tp tc sc nf fd me mp xn mt wh tq ag an ig)), ((q 2), aI g 600 bs)]) (sz := sz) (Qc := fun _ => (vp_Si (fun (r : Int32) => (r = 0 ∨ r = 1) ∧ (r = 1 → tef bs x y = nI y)))) (free := fun _ _ => False) (by decide) (Nat.le_of_ble_eq_true rfl) ?_
  intro p e s m below meth c ls A E hB hK hZ hP hD hS hA hl
  obtain ⟨hx, hb, hml, hr, hown, hts, hlocks, hin⟩ := id E
  have hl : lv_has ls 3 [(0, .ref h0), (1, .int (nI x)), (2, .int (nI y))] := hl
  refine lv_aload_n hx hb d_Mod_isType_0 rfl (lv_at hl 0 rfl) ?_
  refine lv_iload_n hx hb d_Mod_isType_1 rfl (lv_at hl 1 rfl) ?_
  refine lv_iload_n hx hb d_Mod_isType_2 rfl (lv_at hl 2 rfl) ?_
  refine tw_si (tw_runV (ws := [(h0, .inr (10, mob q rf n mm mb fa fp av ev wi mn tp tc sc nf fd me mp xn mt wh tq ag an ig)), ((q 2), aI g 600 bs)]) (wc := [(h0, .inr (10, mob q rf n mm mb fa fp av ev wi mn tp tc sc nf fd me mp xn mt wh tq ag an ig)), ((q 2), aI g 600 bs)]) (As := [.int (nI x), .int (nI y)]) (rest := []) E hB hK hZ (g_Mod_typeEnd l g s.heap.size h0 q rf n mm mb fa fp av ev wi mn tp tc sc nf fd me mp xn mt wh tq ag an ig bs x y (by omega) (by omega)) mc_Mod_typeEnd mi_Mod_typeEnd me_Mod_typeEnd wd_1559 hP hD hS hA [0, 1] rfl (by decide) 0 rfl rfl rfl rfl rfl (by decide) rfl hl.1 rfl (Nat.le_of_ble_eq_true rfl) (by decide) d_Mod_isType_3) (fun r1 hr1 => ?_)
  have hB1 := hr1
  refine lv_iload_n hx hb d_Mod_isType_6 rfl (lv_at hl 2 rfl) ?_
  refine lv_icmp_ne (tgt := 14) hx hb d_Mod_isType_7 (by decide) (fun h7 => ?_) (fun h7 => ?_)
  · refine lv_iconst (v := 0) hx hb d_Mod_isType_14 (by decide) ?_
    exact tw_zsret E (by decide) (⟨Or.inl rfl, fun h => absurd h (by decide)⟩) d_Mod_isType_15
  · refine lv_iconst (v := 1) hx hb d_Mod_isType_10 (by decide) ?_
    refine lv_goto (tgt := 15) hx hb d_Mod_isType_11 (by decide) ?_
    exact tw_zsret E (by decide) (⟨Or.inr rfl, fun _ => hB1.symm.trans h7⟩) d_Mod_isType_15
set_option maxHeartbeats 4000000 in
set_option maxRecDepth 100000 in
theorem g_Mod_isMethodType (l : Launch) (g : tw_G) (sz : Nat) (h0 : Nat) (q : Nat → Nat) (rf : Int32) (n : Nat) (mm : Int32) (mb : Int32) (fa : Int32) (fp : Int32) (av : Nat) (ev : Nat) (wi : Int32) (mn : Nat) (tp : Int32) (tc : Int32) (sc : Int32) (nf : Nat) (fd : Nat) (me : Nat) (mp : Int32) (xn : Nat) (mt : Nat) (wh : Nat) (tq : Nat) (ag : Nat) (an : Int32) (ig : Int32) (bs : Nat → Int32) (x : Nat) (y : Nat) (hxy : x ≤ y) (hy6 : y ≤ 600) : Met l y_Mod_isMethodType [.code y_Mod_isMethodType b_Mod_isMethodType 4 (some .boolean)] ({ frames := 5, cells := 0, slots := 0, locals := 116 }) (tw_P g [.ref h0, .int (nI x), .int (nI y)] [(h0, .inr (10, mob q rf n mm mb fa fp av ev wi mn tp tc sc nf fd me mp xn mt wh tq ag an ig)), ((q 2), aI g 600 bs)] sz) (vp_Si (fun (r : Int32) => (r = 0 ∨ r = 1) ∧ (r = 1 → MTY bs x y))) 0 0 (fun _ => False) := by
  refine tw_met (l := l) (g := g) (y := y_Mod_isMethodType) (cc := b_Mod_isMethodType) (maxL := 4) (ret := (some .boolean)) (rm := { frames := 5, cells := 0, slots := 0, locals := 116 }) (mc := 0) (ms := 0) (av := [.ref h0, .int (nI x), .int (nI y)]) (ws := [(h0, .inr (10, mob q rf n mm mb fa fp av ev wi mn tp tc sc nf fd me mp xn mt wh tq ag an ig)), ((q 2), aI g 600 bs)]) (sz := sz) (Qc := fun _ => (vp_Si (fun (r : Int32) => (r = 0 ∨ r = 1) ∧ (r = 1 → MTY bs x y)))) (free := fun _ _ => False) (by decide) (Nat.le_of_ble_eq_true rfl) ?_
  intro p e s m below meth c ls A E hB hK hZ hP hD hS hA hl
  obtain ⟨hx, hb, hml, hr, hown, hts, hlocks, hin⟩ := id E
  have hl : lv_has ls 4 [(0, .ref h0), (1, .int (nI x)), (2, .int (nI y))] := hl
  refine lv_iload_n hx hb d_Mod_isMethodType_0 rfl (lv_at hl 1 rfl) ?_
  refine lv_iload_n hx hb d_Mod_isMethodType_1 rfl (lv_at hl 2 rfl) ?_
  refine lv_icmp_eq (tgt := 16) hx hb d_Mod_isMethodType_2 (by decide) (fun h2 => ?_) (fun h2 => ?_)
  · refine lv_iconst (v := 0) hx hb d_Mod_isMethodType_16 (by decide) ?_
    exact tw_zsret E (by decide) (⟨Or.inl rfl, fun h => absurd h (by decide)⟩) d_Mod_isMethodType_17
  · have h2 := tn_neq h2
    refine lv_aload_n hx hb d_Mod_isMethodType_5 rfl (lv_at hl 0 rfl) ?_
    refine va_get (D := g.1) (ci := 10) (v := .ref (q 2)) (C := R_Mod) (T := F_Mod) (N := 61) hx hb hts in_Mod hown hK hP 0 rfl rfl 2 (by decide) (hts _ wd_1252) (fun _ h9 => h9) rfl d_Mod_isMethodType_6 ?_
    refine lv_iload_n hx hb d_Mod_isMethodType_9 rfl (lv_at hl 1 rfl) ?_
    refine va_iald hx hb hK hP 1 0 rfl rfl (vp_in_nI (by omega) (by decide)) d_Mod_isMethodType_10 ?_
    refine tw_ri (e2 := bs x) (by rw [nI_clamp (by omega)]) ?_
    refine lv_bipush (v := 40) hx hb d_Mod_isMethodType_11 (by decide) ?_
    refine lv_icmp_eq (tgt := 18) hx hb d_Mod_isMethodType_13 (by decide) (fun h13 => ?_) (fun h13 => ?_)
    · refine lv_iload_n hx hb d_Mod_isMethodType_18 rfl (lv_at hl 1 rfl) ?_
      refine lv_iconst (v := 1) hx hb d_Mod_isMethodType_19 (by decide) ?_
      refine lv_iadd hx hb d_Mod_isMethodType_20 ?_
      refine tw_ri (e2 := nI (x + 1)) (nI_add x 1) ?_
      refine lv_istore_n hx hb d_Mod_isMethodType_21 rfl hl (by decide) rfl (fun ls hl => ?_)
      have hl : lv_has ls 4 [(3, .int (nI (x + 1))), (0, .ref h0), (1, .int (nI x)), (2, .int (nI y))] := hl
      have loop22 : ∀ (kq : Nat) (vI : Int32) (ls : Array Slot) , msr vI y = kq → (hv : vI = -1 ∨ ∃ k, vI = nI k ∧ x + 1 ≤ k ∧ k ≤ y ∧ (MTX bs y k → MTX bs y (x + 1))) → lv_has ls 4 [(3, .int vI), (0, .ref h0), (1, .int (nI x)), (2, .int (nI y))] → W p l e ({ frames := 5, cells := 0, slots := 0, locals := 116 }) s m [.ref h0, .int (nI x), .int (nI y)].toArray below meth c s.heap [] 0 0 (MQ below (vp_Si (fun (r : Int32) => (r = 0 ∨ r = 1) ∧ (r = 1 → MTY bs x y))) [.ref h0, .int (nI x), .int (nI y)].toArray s 0 0 (fun _ => False)) (F0 m 22 ls []) := by
        intro kq
        induction kq using Nat.strongRecOn with
        | _ kq ih =>
          intro vI ls hk hv hl 
          refine lv_iload_n hx hb d_Mod_isMethodType_22 rfl (lv_at hl 0 rfl) ?_
          refine lv_if_lt (tgt := 52) hx hb d_Mod_isMethodType_23 (by decide) (fun h23 => ?_) (fun h23 => ?_)
          · refine lv_iload_n hx hb d_Mod_isMethodType_52 rfl (lv_at hl 0 rfl) ?_
            refine lv_if_lt (tgt := 61) hx hb d_Mod_isMethodType_53 (by decide) (fun h53 => ?_) (fun h53 => ?_)
            · refine lv_iconst (v := 0) hx hb d_Mod_isMethodType_61 (by decide) ?_
              exact tw_zsret E (by decide) (⟨Or.inl rfl, fun h => absurd h (by decide)⟩) d_Mod_isMethodType_62
            · exact absurd h23 h53
          · obtain ⟨k, rfl, hk1, hk2, hk3⟩ := hv.resolve_left (fun e9 => h23 (by rw [e9]; decide))
            refine lv_iload_n hx hb d_Mod_isMethodType_26 rfl (lv_at hl 0 rfl) ?_
            refine lv_iload_n hx hb d_Mod_isMethodType_27 rfl (lv_at hl 3 rfl) ?_
            refine lv_icmp_ge (tgt := 52) hx hb d_Mod_isMethodType_28 (by decide) (fun h28 => ?_) (fun h28 => ?_)
            · have h28 := tn_le h28 (by omega) (by omega)
              refine lv_iload_n hx hb d_Mod_isMethodType_52 rfl (lv_at hl 0 rfl) ?_
              refine lv_if_lt (tgt := 61) hx hb d_Mod_isMethodType_53 (by decide) (fun h53 => ?_) (fun h53 => ?_)
              · exact absurd h53 h23
              · refine lv_iload_n hx hb d_Mod_isMethodType_56 rfl (lv_at hl 0 rfl) ?_
                refine lv_iload_n hx hb d_Mod_isMethodType_57 rfl (lv_at hl 3 rfl) ?_
                refine lv_icmp_lt (tgt := 63) hx hb d_Mod_isMethodType_58 (by decide) (fun h58 => ?_) (fun h58 => ?_)
                · exact absurd (tn_lt h58 (by omega) (by omega)) (by omega)
                · refine lv_iconst (v := 0) hx hb d_Mod_isMethodType_61 (by decide) ?_
                  exact tw_zsret E (by decide) (⟨Or.inl rfl, fun h => absurd h (by decide)⟩) d_Mod_isMethodType_62
            · have h28 := tn_nle h28 (by omega) (by omega)
              refine lv_aload_n hx hb d_Mod_isMethodType_31 rfl (lv_at hl 1 rfl) ?_
              refine va_get (D := g.1) (ci := 10) (v := .ref (q 2)) (C := R_Mod) (T := F_Mod) (N := 61) hx hb hts in_Mod hown hK hP 0 rfl rfl 2 (by decide) (hts _ wd_1252) (fun _ h9 => h9) rfl d_Mod_isMethodType_32 ?_
              refine lv_iload_n hx hb d_Mod_isMethodType_35 rfl (lv_at hl 0 rfl) ?_
              refine va_iald hx hb hK hP 1 0 rfl rfl (vp_in_nI (by omega) (by decide)) d_Mod_isMethodType_36 ?_
              refine tw_ri (e2 := bs k) (by rw [nI_clamp (by omega)]) ?_
              refine lv_bipush (v := 41) hx hb d_Mod_isMethodType_37 (by decide) ?_
              refine lv_icmp_eq (tgt := 52) hx hb d_Mod_isMethodType_39 (by decide) (fun h39 => ?_) (fun h39 => ?_)
              · refine lv_iload_n hx hb d_Mod_isMethodType_52 rfl (lv_at hl 0 rfl) ?_
                refine lv_if_lt (tgt := 61) hx hb d_Mod_isMethodType_53 (by decide) (fun h53 => ?_) (fun h53 => ?_)
                · exact absurd h53 h23
                · refine lv_iload_n hx hb d_Mod_isMethodType_56 rfl (lv_at hl 0 rfl) ?_
                  refine lv_iload_n hx hb d_Mod_isMethodType_57 rfl (lv_at hl 3 rfl) ?_
                  refine lv_icmp_lt (tgt := 63) hx hb d_Mod_isMethodType_58 (by decide) (fun h58 => ?_) (fun h58 => ?_)
                  · refine lv_aload_n hx hb d_Mod_isMethodType_63 rfl (lv_at hl 1 rfl) ?_
                    refine lv_iload_n hx hb d_Mod_isMethodType_64 rfl (lv_at hl 0 rfl) ?_
                    refine lv_iconst (v := 1) hx hb d_Mod_isMethodType_65 (by decide) ?_
                    refine lv_iadd hx hb d_Mod_isMethodType_66 ?_
                    refine tw_ri (e2 := nI (k + 1)) (nI_add k 1) ?_
                    refine lv_iload_n hx hb d_Mod_isMethodType_67 rfl (lv_at hl 3 rfl) ?_
                    refine tw_si (tw_runV (ws := [(h0, .inr (10, mob q rf n mm mb fa fp av ev wi mn tp tc sc nf fd me mp xn mt wh tq ag an ig)), ((q 2), aI g 600 bs)]) (wc := [(h0, .inr (10, mob q rf n mm mb fa fp av ev wi mn tp tc sc nf fd me mp xn mt wh tq ag an ig)), ((q 2), aI g 600 bs)]) (As := [.int (nI (k + 1)), .int (nI y)]) (rest := []) E hB hK hZ (g_Mod_isType l g s.heap.size h0 q rf n mm mb fa fp av ev wi mn tp tc sc nf fd me mp xn mt wh tq ag an ig bs (k + 1) y (by omega) (by omega)) mc_Mod_isType mi_Mod_isType me_Mod_isType wd_1555 hP hD hS hA [0, 1] rfl (by decide) 0 rfl rfl rfl rfl rfl (by decide) rfl hl.1 rfl (Nat.le_of_ble_eq_true rfl) (by decide) d_Mod_isMethodType_68) (fun r1 hr1 => ?_)
                    have hB1 := hr1
                    refine lv_if_ne (tgt := 94) hx hb d_Mod_isMethodType_71 (by decide) (fun h71 => ?_) (fun h71 => ?_)
                    · have hT71 := hB1.2 (hB1.1.resolve_left h71)
                      refine lv_iconst (v := 1) hx hb d_Mod_isMethodType_94 (by decide) ?_
                      refine lv_goto (tgt := 99) hx hb d_Mod_isMethodType_95 (by decide) ?_
                      exact tw_zsret E (by decide) (⟨Or.inr rfl, fun _ => ⟨by omega, hk3 ⟨0, h28, h39, tef_lt (by omega) hT71⟩⟩⟩) d_Mod_isMethodType_99
                    · refine lv_iload_n hx hb d_Mod_isMethodType_74 rfl (lv_at hl 0 rfl) ?_
                      refine lv_iconst (v := 2) hx hb d_Mod_isMethodType_75 (by decide) ?_
                      refine lv_iadd hx hb d_Mod_isMethodType_76 ?_
                      refine tw_ri (e2 := nI (k + 2)) (nI_add k 2) ?_
                      refine lv_iload_n hx hb d_Mod_isMethodType_77 rfl (lv_at hl 3 rfl) ?_
                      refine lv_icmp_ne (tgt := 98) hx hb d_Mod_isMethodType_78 (by decide) (fun h78 => ?_) (fun h78 => ?_)
                      · refine lv_iconst (v := 0) hx hb d_Mod_isMethodType_98 (by decide) ?_
                        exact tw_zsret E (by decide) (⟨Or.inl rfl, fun h => absurd h (by decide)⟩) d_Mod_isMethodType_99
                      · have h78 := tn_eq h78 (by omega) (by omega)
                        refine lv_aload_n hx hb d_Mod_isMethodType_81 rfl (lv_at hl 1 rfl) ?_
                        refine va_get (D := g.1) (ci := 10) (v := .ref (q 2)) (C := R_Mod) (T := F_Mod) (N := 61) hx hb hts in_Mod hown hK hP 0 rfl rfl 2 (by decide) (hts _ wd_1252) (fun _ h9 => h9) rfl d_Mod_isMethodType_82 ?_
                        refine lv_iload_n hx hb d_Mod_isMethodType_85 rfl (lv_at hl 0 rfl) ?_
                        refine lv_iconst (v := 1) hx hb d_Mod_isMethodType_86 (by decide) ?_
                        refine lv_iadd hx hb d_Mod_isMethodType_87 ?_
                        refine tw_ri (e2 := nI (k + 1)) (nI_add k 1) ?_
                        refine va_iald hx hb hK hP 1 0 rfl rfl (vp_in_nI (by omega) (by decide)) d_Mod_isMethodType_88 ?_
                        obtain ⟨x2, ex2⟩ : ∃ z : Int32, bs ((nI (k + 1)).toNatClampNeg) = z := ⟨_, rfl⟩
                        refine tw_ri (e2 := x2) ex2 ?_
                        refine lv_bipush (v := 86) hx hb d_Mod_isMethodType_89 (by decide) ?_
                        refine lv_icmp_ne (tgt := 98) hx hb d_Mod_isMethodType_91 (by decide) (fun h91 => ?_) (fun h91 => ?_)
                        · refine lv_iconst (v := 0) hx hb d_Mod_isMethodType_98 (by decide) ?_
                          exact tw_zsret E (by decide) (⟨Or.inl rfl, fun h => absurd h (by decide)⟩) d_Mod_isMethodType_99
                        · refine lv_iconst (v := 1) hx hb d_Mod_isMethodType_94 (by decide) ?_
                          refine lv_goto (tgt := 99) hx hb d_Mod_isMethodType_95 (by decide) ?_
                          exact tw_zsret E (by decide) (⟨Or.inr rfl, fun _ => ⟨by omega, hk3 ⟨0, h28, h39, (by omega)⟩⟩⟩) d_Mod_isMethodType_99
                  · exact absurd ((nI_ltI (by omega) (by omega)).mpr h28) h58
              · refine lv_aload_n hx hb d_Mod_isMethodType_42 rfl (lv_at hl 1 rfl) ?_
                refine lv_iload_n hx hb d_Mod_isMethodType_43 rfl (lv_at hl 0 rfl) ?_
                refine lv_iload_n hx hb d_Mod_isMethodType_44 rfl (lv_at hl 3 rfl) ?_
                refine tw_si (tw_runV (ws := [(h0, .inr (10, mob q rf n mm mb fa fp av ev wi mn tp tc sc nf fd me mp xn mt wh tq ag an ig)), ((q 2), aI g 600 bs)]) (wc := [(h0, .inr (10, mob q rf n mm mb fa fp av ev wi mn tp tc sc nf fd me mp xn mt wh tq ag an ig)), ((q 2), aI g 600 bs)]) (As := [.int (nI k), .int (nI y)]) (rest := []) E hB hK hZ (g_Mod_typeEnd l g s.heap.size h0 q rf n mm mb fa fp av ev wi mn tp tc sc nf fd me mp xn mt wh tq ag an ig bs k y (by omega) (by omega)) mc_Mod_typeEnd mi_Mod_typeEnd me_Mod_typeEnd wd_1559 hP hD hS hA [0, 1] rfl (by decide) 0 rfl rfl rfl rfl rfl (by decide) rfl hl.1 rfl (Nat.le_of_ble_eq_true rfl) (by decide) d_Mod_isMethodType_45) (fun r3 hr3 => ?_)
                have hB3 := hr3
                refine lv_istore_n hx hb d_Mod_isMethodType_48 rfl hl (by decide) rfl (fun ls hl => ?_)
                have hl : lv_has ls 4 [(3, .int r3), (0, .ref h0), (1, .int (nI x)), (2, .int (nI y))] := hl
                refine lv_goto (tgt := 22) hx hb d_Mod_isMethodType_49 (by decide) ?_
                exact ih _ (hk ▸ mt_dec hB3 (by omega) hy6 h28) r3 ls rfl (mt_back hB3 hk1 h28 h39 hk3) (lv_sub hl [0, 1, 2, 3] rfl)
      exact loop22 _ (nI (x + 1)) ls rfl (Or.inr ⟨x + 1, rfl, Nat.le_refl _, by omega, fun h => h⟩) (hl)
    · refine lv_iconst (v := 0) hx hb d_Mod_isMethodType_16 (by decide) ?_
      exact tw_zsret E (by decide) (⟨Or.inl rfl, fun h => absurd h (by decide)⟩) d_Mod_isMethodType_17
end
section
theorem d_Mod_endOf_0 : decode b_Mod_endOf 0 = .ok (.aload_n 0, 1) := by decide +kernel
theorem d_Mod_endOf_1 : decode b_Mod_endOf 1 = .ok (.getfield 38, 3) := by decide +kernel
theorem d_Mod_endOf_4 : decode b_Mod_endOf 4 = .ok (.iload_n 1, 1) := by decide +kernel
theorem d_Mod_endOf_5 : decode b_Mod_endOf 5 = .ok (.iaload, 1) := by decide +kernel
theorem d_Mod_endOf_6 : decode b_Mod_endOf 6 = .ok (.aload_n 0, 1) := by decide +kernel
theorem d_Mod_endOf_7 : decode b_Mod_endOf 7 = .ok (.getfield 41, 3) := by decide +kernel
theorem d_Mod_endOf_10 : decode b_Mod_endOf 10 = .ok (.iload_n 1, 1) := by decide +kernel
theorem d_Mod_endOf_11 : decode b_Mod_endOf 11 = .ok (.iaload, 1) := by decide +kernel
theorem d_Mod_endOf_12 : decode b_Mod_endOf 12 = .ok (.iadd, 1) := by decide +kernel
theorem d_Mod_endOf_13 : decode b_Mod_endOf 13 = .ok (.ireturn, 1) := by decide +kernel
theorem d_Mod_isClassInit_0 : decode b_Mod_isClassInit 0 = .ok (.aload_n 0, 1) := by decide +kernel
theorem d_Mod_isClassInit_1 : decode b_Mod_isClassInit 1 = .ok (.getfield 38, 3) := by decide +kernel
theorem d_Mod_isClassInit_4 : decode b_Mod_isClassInit 4 = .ok (.iload_n 1, 1) := by decide +kernel
theorem d_Mod_isClassInit_5 : decode b_Mod_isClassInit 5 = .ok (.iaload, 1) := by decide +kernel
theorem d_Mod_isClassInit_6 : decode b_Mod_isClassInit 6 = .ok (.istore_n 2, 1) := by decide +kernel
theorem d_Mod_isClassInit_7 : decode b_Mod_isClassInit 7 = .ok (.aload_n 0, 1) := by decide +kernel
theorem d_Mod_isClassInit_8 : decode b_Mod_isClassInit 8 = .ok (.getfield 41, 3) := by decide +kernel
theorem d_Mod_isClassInit_11 : decode b_Mod_isClassInit 11 = .ok (.iload_n 1, 1) := by decide +kernel
theorem d_Mod_isClassInit_12 : decode b_Mod_isClassInit 12 = .ok (.iaload, 1) := by decide +kernel
theorem d_Mod_isClassInit_13 : decode b_Mod_isClassInit 13 = .ok (.bipush 8, 2) := by decide +kernel
theorem d_Mod_isClassInit_15 : decode b_Mod_isClassInit 15 = .ok (.if_icmp .ne 111, 3) := by decide +kernel
theorem d_Mod_isClassInit_18 : decode b_Mod_isClassInit 18 = .ok (.aload_n 0, 1) := by decide +kernel
theorem d_Mod_isClassInit_19 : decode b_Mod_isClassInit 19 = .ok (.getfield 7, 3) := by decide +kernel
theorem d_Mod_isClassInit_22 : decode b_Mod_isClassInit 22 = .ok (.iload_n 2, 1) := by decide +kernel
theorem d_Mod_isClassInit_23 : decode b_Mod_isClassInit 23 = .ok (.iaload, 1) := by decide +kernel
theorem d_Mod_isClassInit_24 : decode b_Mod_isClassInit 24 = .ok (.bipush 60, 2) := by decide +kernel
theorem d_Mod_isClassInit_26 : decode b_Mod_isClassInit 26 = .ok (.if_icmp .ne 100, 3) := by decide +kernel
theorem d_Mod_isClassInit_29 : decode b_Mod_isClassInit 29 = .ok (.aload_n 0, 1) := by decide +kernel
theorem d_Mod_isClassInit_30 : decode b_Mod_isClassInit 30 = .ok (.getfield 7, 3) := by decide +kernel
theorem d_Mod_isClassInit_33 : decode b_Mod_isClassInit 33 = .ok (.iload_n 2, 1) := by decide +kernel
theorem d_Mod_isClassInit_34 : decode b_Mod_isClassInit 34 = .ok (.iconst 1, 1) := by decide +kernel
theorem d_Mod_isClassInit_35 : decode b_Mod_isClassInit 35 = .ok (.iadd, 1) := by decide +kernel
theorem d_Mod_isClassInit_36 : decode b_Mod_isClassInit 36 = .ok (.iaload, 1) := by decide +kernel
theorem d_Mod_isClassInit_37 : decode b_Mod_isClassInit 37 = .ok (.bipush 99, 2) := by decide +kernel
theorem d_Mod_isClassInit_39 : decode b_Mod_isClassInit 39 = .ok (.if_icmp .ne 87, 3) := by decide +kernel
theorem d_Mod_isClassInit_42 : decode b_Mod_isClassInit 42 = .ok (.aload_n 0, 1) := by decide +kernel
theorem d_Mod_isClassInit_43 : decode b_Mod_isClassInit 43 = .ok (.getfield 7, 3) := by decide +kernel
theorem d_Mod_isClassInit_46 : decode b_Mod_isClassInit 46 = .ok (.iload_n 2, 1) := by decide +kernel
theorem d_Mod_isClassInit_47 : decode b_Mod_isClassInit 47 = .ok (.iconst 2, 1) := by decide +kernel
theorem d_Mod_isClassInit_48 : decode b_Mod_isClassInit 48 = .ok (.iadd, 1) := by decide +kernel
theorem d_Mod_isClassInit_49 : decode b_Mod_isClassInit 49 = .ok (.iaload, 1) := by decide +kernel
theorem d_Mod_isClassInit_50 : decode b_Mod_isClassInit 50 = .ok (.bipush 108, 2) := by decide +kernel
theorem d_Mod_isClassInit_52 : decode b_Mod_isClassInit 52 = .ok (.if_icmp .ne 74, 3) := by decide +kernel
theorem d_Mod_isClassInit_55 : decode b_Mod_isClassInit 55 = .ok (.aload_n 0, 1) := by decide +kernel
theorem d_Mod_isClassInit_56 : decode b_Mod_isClassInit 56 = .ok (.getfield 7, 3) := by decide +kernel
theorem d_Mod_isClassInit_59 : decode b_Mod_isClassInit 59 = .ok (.iload_n 2, 1) := by decide +kernel
theorem d_Mod_isClassInit_60 : decode b_Mod_isClassInit 60 = .ok (.iconst 3, 1) := by decide +kernel
theorem d_Mod_isClassInit_61 : decode b_Mod_isClassInit 61 = .ok (.iadd, 1) := by decide +kernel
theorem d_Mod_isClassInit_62 : decode b_Mod_isClassInit 62 = .ok (.iaload, 1) := by decide +kernel
theorem d_Mod_isClassInit_63 : decode b_Mod_isClassInit 63 = .ok (.bipush 105, 2) := by decide +kernel
theorem d_Mod_isClassInit_65 : decode b_Mod_isClassInit 65 = .ok (.if_icmp .ne 61, 3) := by decide +kernel
theorem d_Mod_isClassInit_68 : decode b_Mod_isClassInit 68 = .ok (.aload_n 0, 1) := by decide +kernel
theorem d_Mod_isClassInit_69 : decode b_Mod_isClassInit 69 = .ok (.getfield 7, 3) := by decide +kernel
theorem d_Mod_isClassInit_72 : decode b_Mod_isClassInit 72 = .ok (.iload_n 2, 1) := by decide +kernel
theorem d_Mod_isClassInit_73 : decode b_Mod_isClassInit 73 = .ok (.iconst 4, 1) := by decide +kernel
theorem d_Mod_isClassInit_74 : decode b_Mod_isClassInit 74 = .ok (.iadd, 1) := by decide +kernel
theorem d_Mod_isClassInit_75 : decode b_Mod_isClassInit 75 = .ok (.iaload, 1) := by decide +kernel
theorem d_Mod_isClassInit_76 : decode b_Mod_isClassInit 76 = .ok (.bipush 110, 2) := by decide +kernel
theorem d_Mod_isClassInit_78 : decode b_Mod_isClassInit 78 = .ok (.if_icmp .ne 48, 3) := by decide +kernel
theorem d_Mod_isClassInit_81 : decode b_Mod_isClassInit 81 = .ok (.aload_n 0, 1) := by decide +kernel
theorem d_Mod_isClassInit_82 : decode b_Mod_isClassInit 82 = .ok (.getfield 7, 3) := by decide +kernel
theorem d_Mod_isClassInit_85 : decode b_Mod_isClassInit 85 = .ok (.iload_n 2, 1) := by decide +kernel
theorem d_Mod_isClassInit_86 : decode b_Mod_isClassInit 86 = .ok (.iconst 5, 1) := by decide +kernel
theorem d_Mod_isClassInit_87 : decode b_Mod_isClassInit 87 = .ok (.iadd, 1) := by decide +kernel
theorem d_Mod_isClassInit_88 : decode b_Mod_isClassInit 88 = .ok (.iaload, 1) := by decide +kernel
theorem d_Mod_isClassInit_89 : decode b_Mod_isClassInit 89 = .ok (.bipush 105, 2) := by decide +kernel
theorem d_Mod_isClassInit_91 : decode b_Mod_isClassInit 91 = .ok (.if_icmp .ne 35, 3) := by decide +kernel
theorem d_Mod_isClassInit_94 : decode b_Mod_isClassInit 94 = .ok (.aload_n 0, 1) := by decide +kernel
theorem d_Mod_isClassInit_95 : decode b_Mod_isClassInit 95 = .ok (.getfield 7, 3) := by decide +kernel
theorem d_Mod_isClassInit_98 : decode b_Mod_isClassInit 98 = .ok (.iload_n 2, 1) := by decide +kernel
theorem d_Mod_isClassInit_99 : decode b_Mod_isClassInit 99 = .ok (.bipush 6, 2) := by decide +kernel
theorem d_Mod_isClassInit_101 : decode b_Mod_isClassInit 101 = .ok (.iadd, 1) := by decide +kernel
theorem d_Mod_isClassInit_102 : decode b_Mod_isClassInit 102 = .ok (.iaload, 1) := by decide +kernel
theorem d_Mod_isClassInit_103 : decode b_Mod_isClassInit 103 = .ok (.bipush 116, 2) := by decide +kernel
theorem d_Mod_isClassInit_105 : decode b_Mod_isClassInit 105 = .ok (.if_icmp .ne 21, 3) := by decide +kernel
theorem d_Mod_isClassInit_108 : decode b_Mod_isClassInit 108 = .ok (.aload_n 0, 1) := by decide +kernel
theorem d_Mod_isClassInit_109 : decode b_Mod_isClassInit 109 = .ok (.getfield 7, 3) := by decide +kernel
theorem d_Mod_isClassInit_112 : decode b_Mod_isClassInit 112 = .ok (.iload_n 2, 1) := by decide +kernel
theorem d_Mod_isClassInit_113 : decode b_Mod_isClassInit 113 = .ok (.bipush 7, 2) := by decide +kernel
theorem d_Mod_isClassInit_115 : decode b_Mod_isClassInit 115 = .ok (.iadd, 1) := by decide +kernel
theorem d_Mod_isClassInit_116 : decode b_Mod_isClassInit 116 = .ok (.iaload, 1) := by decide +kernel
theorem d_Mod_isClassInit_117 : decode b_Mod_isClassInit 117 = .ok (.bipush 62, 2) := by decide +kernel
theorem d_Mod_isClassInit_119 : decode b_Mod_isClassInit 119 = .ok (.if_icmp .ne 7, 3) := by decide +kernel
theorem d_Mod_isClassInit_122 : decode b_Mod_isClassInit 122 = .ok (.iconst 1, 1) := by decide +kernel
theorem d_Mod_isClassInit_123 : decode b_Mod_isClassInit 123 = .ok (.goto 4, 3) := by decide +kernel
theorem d_Mod_isClassInit_126 : decode b_Mod_isClassInit 126 = .ok (.iconst 0, 1) := by decide +kernel
theorem d_Mod_isClassInit_127 : decode b_Mod_isClassInit 127 = .ok (.ireturn, 1) := by decide +kernel
theorem d_Mod_isInit_0 : decode b_Mod_isInit 0 = .ok (.aload_n 0, 1) := by decide +kernel
theorem d_Mod_isInit_1 : decode b_Mod_isInit 1 = .ok (.getfield 38, 3) := by decide +kernel
theorem d_Mod_isInit_4 : decode b_Mod_isInit 4 = .ok (.iload_n 1, 1) := by decide +kernel
theorem d_Mod_isInit_5 : decode b_Mod_isInit 5 = .ok (.iaload, 1) := by decide +kernel
theorem d_Mod_isInit_6 : decode b_Mod_isInit 6 = .ok (.istore_n 2, 1) := by decide +kernel
theorem d_Mod_isInit_7 : decode b_Mod_isInit 7 = .ok (.aload_n 0, 1) := by decide +kernel
theorem d_Mod_isInit_8 : decode b_Mod_isInit 8 = .ok (.getfield 41, 3) := by decide +kernel
theorem d_Mod_isInit_11 : decode b_Mod_isInit 11 = .ok (.iload_n 1, 1) := by decide +kernel
theorem d_Mod_isInit_12 : decode b_Mod_isInit 12 = .ok (.iaload, 1) := by decide +kernel
theorem d_Mod_isInit_13 : decode b_Mod_isInit 13 = .ok (.bipush 6, 2) := by decide +kernel
theorem d_Mod_isInit_15 : decode b_Mod_isInit 15 = .ok (.if_icmp .ne 83, 3) := by decide +kernel
theorem d_Mod_isInit_18 : decode b_Mod_isInit 18 = .ok (.aload_n 0, 1) := by decide +kernel
theorem d_Mod_isInit_19 : decode b_Mod_isInit 19 = .ok (.getfield 7, 3) := by decide +kernel
theorem d_Mod_isInit_22 : decode b_Mod_isInit 22 = .ok (.iload_n 2, 1) := by decide +kernel
theorem d_Mod_isInit_23 : decode b_Mod_isInit 23 = .ok (.iaload, 1) := by decide +kernel
theorem d_Mod_isInit_24 : decode b_Mod_isInit 24 = .ok (.bipush 60, 2) := by decide +kernel
theorem d_Mod_isInit_26 : decode b_Mod_isInit 26 = .ok (.if_icmp .ne 72, 3) := by decide +kernel
theorem d_Mod_isInit_29 : decode b_Mod_isInit 29 = .ok (.aload_n 0, 1) := by decide +kernel
theorem d_Mod_isInit_30 : decode b_Mod_isInit 30 = .ok (.getfield 7, 3) := by decide +kernel
theorem d_Mod_isInit_33 : decode b_Mod_isInit 33 = .ok (.iload_n 2, 1) := by decide +kernel
theorem d_Mod_isInit_34 : decode b_Mod_isInit 34 = .ok (.iconst 1, 1) := by decide +kernel
theorem d_Mod_isInit_35 : decode b_Mod_isInit 35 = .ok (.iadd, 1) := by decide +kernel
theorem d_Mod_isInit_36 : decode b_Mod_isInit 36 = .ok (.iaload, 1) := by decide +kernel
theorem d_Mod_isInit_37 : decode b_Mod_isInit 37 = .ok (.bipush 105, 2) := by decide +kernel
theorem d_Mod_isInit_39 : decode b_Mod_isInit 39 = .ok (.if_icmp .ne 59, 3) := by decide +kernel
theorem d_Mod_isInit_42 : decode b_Mod_isInit 42 = .ok (.aload_n 0, 1) := by decide +kernel
theorem d_Mod_isInit_43 : decode b_Mod_isInit 43 = .ok (.getfield 7, 3) := by decide +kernel
theorem d_Mod_isInit_46 : decode b_Mod_isInit 46 = .ok (.iload_n 2, 1) := by decide +kernel
theorem d_Mod_isInit_47 : decode b_Mod_isInit 47 = .ok (.iconst 2, 1) := by decide +kernel
theorem d_Mod_isInit_48 : decode b_Mod_isInit 48 = .ok (.iadd, 1) := by decide +kernel
theorem d_Mod_isInit_49 : decode b_Mod_isInit 49 = .ok (.iaload, 1) := by decide +kernel
theorem d_Mod_isInit_50 : decode b_Mod_isInit 50 = .ok (.bipush 110, 2) := by decide +kernel
theorem d_Mod_isInit_52 : decode b_Mod_isInit 52 = .ok (.if_icmp .ne 46, 3) := by decide +kernel
theorem d_Mod_isInit_55 : decode b_Mod_isInit 55 = .ok (.aload_n 0, 1) := by decide +kernel
theorem d_Mod_isInit_56 : decode b_Mod_isInit 56 = .ok (.getfield 7, 3) := by decide +kernel
theorem d_Mod_isInit_59 : decode b_Mod_isInit 59 = .ok (.iload_n 2, 1) := by decide +kernel
theorem d_Mod_isInit_60 : decode b_Mod_isInit 60 = .ok (.iconst 3, 1) := by decide +kernel
theorem d_Mod_isInit_61 : decode b_Mod_isInit 61 = .ok (.iadd, 1) := by decide +kernel
theorem d_Mod_isInit_62 : decode b_Mod_isInit 62 = .ok (.iaload, 1) := by decide +kernel
theorem d_Mod_isInit_63 : decode b_Mod_isInit 63 = .ok (.bipush 105, 2) := by decide +kernel
theorem d_Mod_isInit_65 : decode b_Mod_isInit 65 = .ok (.if_icmp .ne 33, 3) := by decide +kernel
theorem d_Mod_isInit_68 : decode b_Mod_isInit 68 = .ok (.aload_n 0, 1) := by decide +kernel
theorem d_Mod_isInit_69 : decode b_Mod_isInit 69 = .ok (.getfield 7, 3) := by decide +kernel
theorem d_Mod_isInit_72 : decode b_Mod_isInit 72 = .ok (.iload_n 2, 1) := by decide +kernel
theorem d_Mod_isInit_73 : decode b_Mod_isInit 73 = .ok (.iconst 4, 1) := by decide +kernel
theorem d_Mod_isInit_74 : decode b_Mod_isInit 74 = .ok (.iadd, 1) := by decide +kernel
theorem d_Mod_isInit_75 : decode b_Mod_isInit 75 = .ok (.iaload, 1) := by decide +kernel
theorem d_Mod_isInit_76 : decode b_Mod_isInit 76 = .ok (.bipush 116, 2) := by decide +kernel
theorem d_Mod_isInit_78 : decode b_Mod_isInit 78 = .ok (.if_icmp .ne 20, 3) := by decide +kernel
theorem d_Mod_isInit_81 : decode b_Mod_isInit 81 = .ok (.aload_n 0, 1) := by decide +kernel
theorem d_Mod_isInit_82 : decode b_Mod_isInit 82 = .ok (.getfield 7, 3) := by decide +kernel
theorem d_Mod_isInit_85 : decode b_Mod_isInit 85 = .ok (.iload_n 2, 1) := by decide +kernel
theorem d_Mod_isInit_86 : decode b_Mod_isInit 86 = .ok (.iconst 5, 1) := by decide +kernel
theorem d_Mod_isInit_87 : decode b_Mod_isInit 87 = .ok (.iadd, 1) := by decide +kernel
theorem d_Mod_isInit_88 : decode b_Mod_isInit 88 = .ok (.iaload, 1) := by decide +kernel
theorem d_Mod_isInit_89 : decode b_Mod_isInit 89 = .ok (.bipush 62, 2) := by decide +kernel
theorem d_Mod_isInit_91 : decode b_Mod_isInit 91 = .ok (.if_icmp .ne 7, 3) := by decide +kernel
theorem d_Mod_isInit_94 : decode b_Mod_isInit 94 = .ok (.iconst 1, 1) := by decide +kernel
theorem d_Mod_isInit_95 : decode b_Mod_isInit 95 = .ok (.goto 4, 3) := by decide +kernel
theorem d_Mod_isInit_98 : decode b_Mod_isInit 98 = .ok (.iconst 0, 1) := by decide +kernel
theorem d_Mod_isInit_99 : decode b_Mod_isInit 99 = .ok (.ireturn, 1) := by decide +kernel
theorem d_Mod_sameTexts_0 : decode b_Mod_sameTexts 0 = .ok (.aload_n 0, 1) := by decide +kernel
theorem d_Mod_sameTexts_1 : decode b_Mod_sameTexts 1 = .ok (.getfield 41, 3) := by decide +kernel
theorem d_Mod_sameTexts_4 : decode b_Mod_sameTexts 4 = .ok (.iload_n 1, 1) := by decide +kernel
theorem d_Mod_sameTexts_5 : decode b_Mod_sameTexts 5 = .ok (.iaload, 1) := by decide +kernel
theorem d_Mod_sameTexts_6 : decode b_Mod_sameTexts 6 = .ok (.aload_n 0, 1) := by decide +kernel
theorem d_Mod_sameTexts_7 : decode b_Mod_sameTexts 7 = .ok (.getfield 41, 3) := by decide +kernel
theorem d_Mod_sameTexts_10 : decode b_Mod_sameTexts 10 = .ok (.iload_n 2, 1) := by decide +kernel
theorem d_Mod_sameTexts_11 : decode b_Mod_sameTexts 11 = .ok (.iaload, 1) := by decide +kernel
theorem d_Mod_sameTexts_12 : decode b_Mod_sameTexts 12 = .ok (.if_icmp .ne 7, 3) := by decide +kernel
theorem d_Mod_sameTexts_15 : decode b_Mod_sameTexts 15 = .ok (.iconst 1, 1) := by decide +kernel
theorem d_Mod_sameTexts_16 : decode b_Mod_sameTexts 16 = .ok (.goto 4, 3) := by decide +kernel
theorem d_Mod_sameTexts_19 : decode b_Mod_sameTexts 19 = .ok (.iconst 0, 1) := by decide +kernel
theorem d_Mod_sameTexts_20 : decode b_Mod_sameTexts 20 = .ok (.istore_n 3, 1) := by decide +kernel
theorem d_Mod_sameTexts_21 : decode b_Mod_sameTexts 21 = .ok (.iconst 0, 1) := by decide +kernel
theorem d_Mod_sameTexts_22 : decode b_Mod_sameTexts 22 = .ok (.istore 4, 2) := by decide +kernel
theorem d_Mod_sameTexts_24 : decode b_Mod_sameTexts 24 = .ok (.iload_n 3, 1) := by decide +kernel
theorem d_Mod_sameTexts_25 : decode b_Mod_sameTexts 25 = .ok (.ifCond .eq 57, 3) := by decide +kernel
theorem d_Mod_sameTexts_28 : decode b_Mod_sameTexts 28 = .ok (.iload 4, 2) := by decide +kernel
theorem d_Mod_sameTexts_30 : decode b_Mod_sameTexts 30 = .ok (.aload_n 0, 1) := by decide +kernel
theorem d_Mod_sameTexts_31 : decode b_Mod_sameTexts 31 = .ok (.getfield 41, 3) := by decide +kernel
theorem d_Mod_sameTexts_34 : decode b_Mod_sameTexts 34 = .ok (.iload_n 1, 1) := by decide +kernel
theorem d_Mod_sameTexts_35 : decode b_Mod_sameTexts 35 = .ok (.iaload, 1) := by decide +kernel
theorem d_Mod_sameTexts_36 : decode b_Mod_sameTexts 36 = .ok (.if_icmp .ge 46, 3) := by decide +kernel
theorem d_Mod_sameTexts_39 : decode b_Mod_sameTexts 39 = .ok (.aload_n 0, 1) := by decide +kernel
theorem d_Mod_sameTexts_40 : decode b_Mod_sameTexts 40 = .ok (.getfield 7, 3) := by decide +kernel
theorem d_Mod_sameTexts_43 : decode b_Mod_sameTexts 43 = .ok (.aload_n 0, 1) := by decide +kernel
theorem d_Mod_sameTexts_44 : decode b_Mod_sameTexts 44 = .ok (.getfield 38, 3) := by decide +kernel
theorem d_Mod_sameTexts_47 : decode b_Mod_sameTexts 47 = .ok (.iload_n 1, 1) := by decide +kernel
theorem d_Mod_sameTexts_48 : decode b_Mod_sameTexts 48 = .ok (.iaload, 1) := by decide +kernel
theorem d_Mod_sameTexts_49 : decode b_Mod_sameTexts 49 = .ok (.iload 4, 2) := by decide +kernel
theorem d_Mod_sameTexts_51 : decode b_Mod_sameTexts 51 = .ok (.iadd, 1) := by decide +kernel
theorem d_Mod_sameTexts_52 : decode b_Mod_sameTexts 52 = .ok (.iaload, 1) := by decide +kernel
theorem d_Mod_sameTexts_53 : decode b_Mod_sameTexts 53 = .ok (.aload_n 0, 1) := by decide +kernel
theorem d_Mod_sameTexts_54 : decode b_Mod_sameTexts 54 = .ok (.getfield 7, 3) := by decide +kernel
theorem d_Mod_sameTexts_57 : decode b_Mod_sameTexts 57 = .ok (.aload_n 0, 1) := by decide +kernel
theorem d_Mod_sameTexts_58 : decode b_Mod_sameTexts 58 = .ok (.getfield 38, 3) := by decide +kernel
theorem d_Mod_sameTexts_61 : decode b_Mod_sameTexts 61 = .ok (.iload_n 2, 1) := by decide +kernel
theorem d_Mod_sameTexts_62 : decode b_Mod_sameTexts 62 = .ok (.iaload, 1) := by decide +kernel
theorem d_Mod_sameTexts_63 : decode b_Mod_sameTexts 63 = .ok (.iload 4, 2) := by decide +kernel
theorem d_Mod_sameTexts_65 : decode b_Mod_sameTexts 65 = .ok (.iadd, 1) := by decide +kernel
theorem d_Mod_sameTexts_66 : decode b_Mod_sameTexts 66 = .ok (.iaload, 1) := by decide +kernel
theorem d_Mod_sameTexts_67 : decode b_Mod_sameTexts 67 = .ok (.if_icmp .ne 7, 3) := by decide +kernel
theorem d_Mod_sameTexts_70 : decode b_Mod_sameTexts 70 = .ok (.iconst 1, 1) := by decide +kernel
theorem d_Mod_sameTexts_71 : decode b_Mod_sameTexts 71 = .ok (.goto 4, 3) := by decide +kernel
theorem d_Mod_sameTexts_74 : decode b_Mod_sameTexts 74 = .ok (.iconst 0, 1) := by decide +kernel
theorem d_Mod_sameTexts_75 : decode b_Mod_sameTexts 75 = .ok (.istore_n 3, 1) := by decide +kernel
theorem d_Mod_sameTexts_76 : decode b_Mod_sameTexts 76 = .ok (.iinc 4 1, 3) := by decide +kernel
theorem d_Mod_sameTexts_79 : decode b_Mod_sameTexts 79 = .ok (.goto (-55), 3) := by decide +kernel
theorem d_Mod_sameTexts_82 : decode b_Mod_sameTexts 82 = .ok (.iload_n 3, 1) := by decide +kernel
theorem d_Mod_sameTexts_83 : decode b_Mod_sameTexts 83 = .ok (.ireturn, 1) := by decide +kernel
end
section
set_option maxHeartbeats 4000000 in
set_option maxRecDepth 100000 in
theorem g_Mod_endOf (l : Launch) (g : tw_G) (sz : Nat) (h0 : Nat) (q : Nat → Nat) (rf : Int32) (n : Nat) (mm : Int32) (mb : Int32) (fa : Int32) (fp : Int32) (av : Nat) (ev : Nat) (wi : Int32) (mn : Nat) (tp : Int32) (tc : Int32) (sc : Int32) (nf : Nat) (fd : Nat) (me : Nat) (mp : Int32) (xn : Nat) (mt : Nat) (wh : Nat) (tq : Nat) (ag : Nat) (an : Int32) (ig : Int32) (on : Nat → Int32) (tw : Nat → Int32) (k : Nat) (p1 l1 : Nat) (k6k : k < 620) (q1k : on k = nI p1) (q2k : tw k = nI l1) (q3k : p1 + l1 ≤ 600) : Met l y_Mod_endOf [.code y_Mod_endOf b_Mod_endOf 2 (some .int)] ({ frames := 0, cells := 0, slots := 0, locals := 0 }) (tw_P g [.ref h0, .int (nI k)] [(h0, .inr (10, mob q rf n mm mb fa fp av ev wi mn tp tc sc nf fd me mp xn mt wh tq ag an ig)), ((q 16), aI g 620 on), ((q 17), aI g 620 tw)] sz) (vp_Si (fun (r : Int32) => r = nI (p1 + l1))) 0 0 (fun _ => False) := by
  refine tw_met (l := l) (g := g) (y := y_Mod_endOf) (cc := b_Mod_endOf) (maxL := 2) (ret := (some .int)) (rm := { frames := 0, cells := 0, slots := 0, locals := 0 }) (mc := 0) (ms := 0) (av := [.ref h0, .int (nI k)]) (ws := [(h0, .inr (10, mob q rf n mm mb fa fp av ev wi mn tp tc sc nf fd me mp xn mt wh tq ag an ig)), ((q 16), aI g 620 on), ((q 17), aI g 620 tw)]) (sz := sz) (Qc := fun _ => (vp_Si (fun (r : Int32) => r = nI (p1 + l1)))) (free := fun _ _ => False) (by decide) (Nat.le_of_ble_eq_true rfl) ?_
  intro p e s m below meth c ls A E hB hK hZ hP hD hS hA hl
  obtain ⟨hx, hb, hml, hr, hown, hts, hlocks, hin⟩ := id E
  have hl : lv_has ls 2 [(0, .ref h0), (1, .int (nI k))] := hl
  refine lv_aload_n hx hb d_Mod_endOf_0 rfl (lv_at hl 0 rfl) ?_
  refine va_get (D := g.1) (ci := 10) (v := .ref (q 16)) (C := R_Mod) (T := F_Mod) (N := 61) hx hb hts in_Mod hown hK hP 0 rfl rfl 16 (by decide) (hts _ wd_1266) (fun _ h9 => h9) rfl d_Mod_endOf_1 ?_
  refine lv_iload_n hx hb d_Mod_endOf_4 rfl (lv_at hl 1 rfl) ?_
  refine va_iald hx hb hK hP 1 0 rfl rfl (vp_in_nI (by omega) (by decide)) d_Mod_endOf_5 ?_
  refine tw_ri (e2 := nI p1) (by rw [nI_clamp (by omega)]; exact q1k) ?_
  refine lv_aload_n hx hb d_Mod_endOf_6 rfl (lv_at hl 0 rfl) ?_
  refine va_get (D := g.1) (ci := 10) (v := .ref (q 17)) (C := R_Mod) (T := F_Mod) (N := 61) hx hb hts in_Mod hown hK hP 0 rfl rfl 17 (by decide) (hts _ wd_1267) (fun _ h9 => h9) rfl d_Mod_endOf_7 ?_
  refine lv_iload_n hx hb d_Mod_endOf_10 rfl (lv_at hl 1 rfl) ?_
  refine va_iald hx hb hK hP 2 0 rfl rfl (vp_in_nI (by omega) (by decide)) d_Mod_endOf_11 ?_
  refine tw_ri (e2 := nI l1) (by rw [nI_clamp (by omega)]; exact q2k) ?_
  refine lv_iadd hx hb d_Mod_endOf_12 ?_
  refine tw_ri (e2 := nI (p1 + l1)) (nI_add _ _) ?_
  exact tw_isret E rfl d_Mod_endOf_13
set_option maxHeartbeats 4000000 in
set_option maxRecDepth 100000 in
theorem g_Mod_isInit (l : Launch) (g : tw_G) (sz : Nat) (h0 : Nat) (q : Nat → Nat) (rf : Int32) (n : Nat) (mm : Int32) (mb : Int32) (fa : Int32) (fp : Int32) (av : Nat) (ev : Nat) (wi : Int32) (mn : Nat) (tp : Int32) (tc : Int32) (sc : Int32) (nf : Nat) (fd : Nat) (me : Nat) (mp : Int32) (xn : Nat) (mt : Nat) (wh : Nat) (tq : Nat) (ag : Nat) (an : Int32) (ig : Int32) (bs : Nat → Int32) (on : Nat → Int32) (tw : Nat → Int32) (k : Nat) (p1 l1 : Nat) (k6k : k < 620) (q1k : on k = nI p1) (q2k : tw k = nI l1) (q3k : p1 + l1 ≤ 600) : Met l y_Mod_isInit [.code y_Mod_isInit b_Mod_isInit 3 (some .boolean)] ({ frames := 0, cells := 0, slots := 0, locals := 0 }) (tw_P g [.ref h0, .int (nI k)] [(h0, .inr (10, mob q rf n mm mb fa fp av ev wi mn tp tc sc nf fd me mp xn mt wh tq ag an ig)), ((q 2), aI g 600 bs), ((q 16), aI g 620 on), ((q 17), aI g 620 tw)] sz) (vp_Si (fun (r : Int32) => (r = 0 ∨ r = 1))) 0 0 (fun _ => False) := by
  refine tw_met (l := l) (g := g) (y := y_Mod_isInit) (cc := b_Mod_isInit) (maxL := 3) (ret := (some .boolean)) (rm := { frames := 0, cells := 0, slots := 0, locals := 0 }) (mc := 0) (ms := 0) (av := [.ref h0, .int (nI k)]) (ws := [(h0, .inr (10, mob q rf n mm mb fa fp av ev wi mn tp tc sc nf fd me mp xn mt wh tq ag an ig)), ((q 2), aI g 600 bs), ((q 16), aI g 620 on), ((q 17), aI g 620 tw)]) (sz := sz) (Qc := fun _ => (vp_Si (fun (r : Int32) => (r = 0 ∨ r = 1)))) (free := fun _ _ => False) (by decide) (Nat.le_of_ble_eq_true rfl) ?_
  intro p e s m below meth c ls A E hB hK hZ hP hD hS hA hl
  obtain ⟨hx, hb, hml, hr, hown, hts, hlocks, hin⟩ := id E
  have hl : lv_has ls 3 [(0, .ref h0), (1, .int (nI k))] := hl
  refine lv_aload_n hx hb d_Mod_isInit_0 rfl (lv_at hl 0 rfl) ?_
  refine va_get (D := g.1) (ci := 10) (v := .ref (q 16)) (C := R_Mod) (T := F_Mod) (N := 61) hx hb hts in_Mod hown hK hP 0 rfl rfl 16 (by decide) (hts _ wd_1266) (fun _ h9 => h9) rfl d_Mod_isInit_1 ?_
  refine lv_iload_n hx hb d_Mod_isInit_4 rfl (lv_at hl 1 rfl) ?_
  refine va_iald hx hb hK hP 2 0 rfl rfl (vp_in_nI (by omega) (by decide)) d_Mod_isInit_5 ?_
  refine tw_ri (e2 := nI p1) (by rw [nI_clamp (by omega)]; exact q1k) ?_
  refine lv_istore_n hx hb d_Mod_isInit_6 rfl hl (by decide) rfl (fun ls hl => ?_)
  have hl : lv_has ls 3 [(2, .int (nI p1)), (0, .ref h0), (1, .int (nI k))] := hl
  refine lv_aload_n hx hb d_Mod_isInit_7 rfl (lv_at hl 1 rfl) ?_
  refine va_get (D := g.1) (ci := 10) (v := .ref (q 17)) (C := R_Mod) (T := F_Mod) (N := 61) hx hb hts in_Mod hown hK hP 0 rfl rfl 17 (by decide) (hts _ wd_1267) (fun _ h9 => h9) rfl d_Mod_isInit_8 ?_
  refine lv_iload_n hx hb d_Mod_isInit_11 rfl (lv_at hl 2 rfl) ?_
  refine va_iald hx hb hK hP 3 0 rfl rfl (vp_in_nI (by omega) (by decide)) d_Mod_isInit_12 ?_
  refine tw_ri (e2 := nI l1) (by rw [nI_clamp (by omega)]; exact q2k) ?_
  refine lv_bipush (v := 6) hx hb d_Mod_isInit_13 (by decide) ?_
  refine lv_icmp_ne (tgt := 98) hx hb d_Mod_isInit_15 (by decide) (fun h15 => ?_) (fun h15 => ?_)
  · refine lv_iconst (v := 0) hx hb d_Mod_isInit_98 (by decide) ?_
    exact tw_zsret E (by decide) (by decide) d_Mod_isInit_99
  · have h15 := tn_eq (b := 6) h15 (by omega) (by decide)
    refine lv_aload_n hx hb d_Mod_isInit_18 rfl (lv_at hl 1 rfl) ?_
    refine va_get (D := g.1) (ci := 10) (v := .ref (q 2)) (C := R_Mod) (T := F_Mod) (N := 61) hx hb hts in_Mod hown hK hP 0 rfl rfl 2 (by decide) (hts _ wd_1252) (fun _ h9 => h9) rfl d_Mod_isInit_19 ?_
    refine lv_iload_n hx hb d_Mod_isInit_22 rfl (lv_at hl 0 rfl) ?_
    refine va_iald hx hb hK hP 1 0 rfl rfl (vp_in_nI (by omega) (by decide)) d_Mod_isInit_23 ?_
    obtain ⟨x1, ex1⟩ : ∃ z : Int32, bs ((nI p1).toNatClampNeg) = z := ⟨_, rfl⟩
    refine tw_ri (e2 := x1) ex1 ?_
    refine lv_bipush (v := 60) hx hb d_Mod_isInit_24 (by decide) ?_
    refine lv_icmp_ne (tgt := 98) hx hb d_Mod_isInit_26 (by decide) (fun h26 => ?_) (fun h26 => ?_)
    · refine lv_iconst (v := 0) hx hb d_Mod_isInit_98 (by decide) ?_
      exact tw_zsret E (by decide) (by decide) d_Mod_isInit_99
    · refine lv_aload_n hx hb d_Mod_isInit_29 rfl (lv_at hl 1 rfl) ?_
      refine va_get (D := g.1) (ci := 10) (v := .ref (q 2)) (C := R_Mod) (T := F_Mod) (N := 61) hx hb hts in_Mod hown hK hP 0 rfl rfl 2 (by decide) (hts _ wd_1252) (fun _ h9 => h9) rfl d_Mod_isInit_30 ?_
      refine lv_iload_n hx hb d_Mod_isInit_33 rfl (lv_at hl 0 rfl) ?_
      refine lv_iconst (v := 1) hx hb d_Mod_isInit_34 (by decide) ?_
      refine lv_iadd hx hb d_Mod_isInit_35 ?_
      refine tw_ri (e2 := nI (p1 + 1)) (nI_add p1 1) ?_
      refine va_iald hx hb hK hP 1 0 rfl rfl (vp_in_nI (by omega) (by decide)) d_Mod_isInit_36 ?_
      obtain ⟨x2, ex2⟩ : ∃ z : Int32, bs ((nI (p1 + 1)).toNatClampNeg) = z := ⟨_, rfl⟩
      refine tw_ri (e2 := x2) ex2 ?_
      refine lv_bipush (v := 105) hx hb d_Mod_isInit_37 (by decide) ?_
      refine lv_icmp_ne (tgt := 98) hx hb d_Mod_isInit_39 (by decide) (fun h39 => ?_) (fun h39 => ?_)
      · refine lv_iconst (v := 0) hx hb d_Mod_isInit_98 (by decide) ?_
        exact tw_zsret E (by decide) (by decide) d_Mod_isInit_99
      · refine lv_aload_n hx hb d_Mod_isInit_42 rfl (lv_at hl 1 rfl) ?_
        refine va_get (D := g.1) (ci := 10) (v := .ref (q 2)) (C := R_Mod) (T := F_Mod) (N := 61) hx hb hts in_Mod hown hK hP 0 rfl rfl 2 (by decide) (hts _ wd_1252) (fun _ h9 => h9) rfl d_Mod_isInit_43 ?_
        refine lv_iload_n hx hb d_Mod_isInit_46 rfl (lv_at hl 0 rfl) ?_
        refine lv_iconst (v := 2) hx hb d_Mod_isInit_47 (by decide) ?_
        refine lv_iadd hx hb d_Mod_isInit_48 ?_
        refine tw_ri (e2 := nI (p1 + 2)) (nI_add p1 2) ?_
        refine va_iald hx hb hK hP 1 0 rfl rfl (vp_in_nI (by omega) (by decide)) d_Mod_isInit_49 ?_
        obtain ⟨x3, ex3⟩ : ∃ z : Int32, bs ((nI (p1 + 2)).toNatClampNeg) = z := ⟨_, rfl⟩
        refine tw_ri (e2 := x3) ex3 ?_
        refine lv_bipush (v := 110) hx hb d_Mod_isInit_50 (by decide) ?_
        refine lv_icmp_ne (tgt := 98) hx hb d_Mod_isInit_52 (by decide) (fun h52 => ?_) (fun h52 => ?_)
        · refine lv_iconst (v := 0) hx hb d_Mod_isInit_98 (by decide) ?_
          exact tw_zsret E (by decide) (by decide) d_Mod_isInit_99
        · refine lv_aload_n hx hb d_Mod_isInit_55 rfl (lv_at hl 1 rfl) ?_
          refine va_get (D := g.1) (ci := 10) (v := .ref (q 2)) (C := R_Mod) (T := F_Mod) (N := 61) hx hb hts in_Mod hown hK hP 0 rfl rfl 2 (by decide) (hts _ wd_1252) (fun _ h9 => h9) rfl d_Mod_isInit_56 ?_
          refine lv_iload_n hx hb d_Mod_isInit_59 rfl (lv_at hl 0 rfl) ?_
          refine lv_iconst (v := 3) hx hb d_Mod_isInit_60 (by decide) ?_
          refine lv_iadd hx hb d_Mod_isInit_61 ?_
          refine tw_ri (e2 := nI (p1 + 3)) (nI_add p1 3) ?_
          refine va_iald hx hb hK hP 1 0 rfl rfl (vp_in_nI (by omega) (by decide)) d_Mod_isInit_62 ?_
          obtain ⟨x4, ex4⟩ : ∃ z : Int32, bs ((nI (p1 + 3)).toNatClampNeg) = z := ⟨_, rfl⟩
          refine tw_ri (e2 := x4) ex4 ?_
          refine lv_bipush (v := 105) hx hb d_Mod_isInit_63 (by decide) ?_
          refine lv_icmp_ne (tgt := 98) hx hb d_Mod_isInit_65 (by decide) (fun h65 => ?_) (fun h65 => ?_)
          · refine lv_iconst (v := 0) hx hb d_Mod_isInit_98 (by decide) ?_
            exact tw_zsret E (by decide) (by decide) d_Mod_isInit_99
          · refine lv_aload_n hx hb d_Mod_isInit_68 rfl (lv_at hl 1 rfl) ?_
            refine va_get (D := g.1) (ci := 10) (v := .ref (q 2)) (C := R_Mod) (T := F_Mod) (N := 61) hx hb hts in_Mod hown hK hP 0 rfl rfl 2 (by decide) (hts _ wd_1252) (fun _ h9 => h9) rfl d_Mod_isInit_69 ?_
            refine lv_iload_n hx hb d_Mod_isInit_72 rfl (lv_at hl 0 rfl) ?_
            refine lv_iconst (v := 4) hx hb d_Mod_isInit_73 (by decide) ?_
            refine lv_iadd hx hb d_Mod_isInit_74 ?_
            refine tw_ri (e2 := nI (p1 + 4)) (nI_add p1 4) ?_
            refine va_iald hx hb hK hP 1 0 rfl rfl (vp_in_nI (by omega) (by decide)) d_Mod_isInit_75 ?_
            obtain ⟨x5, ex5⟩ : ∃ z : Int32, bs ((nI (p1 + 4)).toNatClampNeg) = z := ⟨_, rfl⟩
            refine tw_ri (e2 := x5) ex5 ?_
            refine lv_bipush (v := 116) hx hb d_Mod_isInit_76 (by decide) ?_
            refine lv_icmp_ne (tgt := 98) hx hb d_Mod_isInit_78 (by decide) (fun h78 => ?_) (fun h78 => ?_)
            · refine lv_iconst (v := 0) hx hb d_Mod_isInit_98 (by decide) ?_
              exact tw_zsret E (by decide) (by decide) d_Mod_isInit_99
            · refine lv_aload_n hx hb d_Mod_isInit_81 rfl (lv_at hl 1 rfl) ?_
              refine va_get (D := g.1) (ci := 10) (v := .ref (q 2)) (C := R_Mod) (T := F_Mod) (N := 61) hx hb hts in_Mod hown hK hP 0 rfl rfl 2 (by decide) (hts _ wd_1252) (fun _ h9 => h9) rfl d_Mod_isInit_82 ?_
              refine lv_iload_n hx hb d_Mod_isInit_85 rfl (lv_at hl 0 rfl) ?_
              refine lv_iconst (v := 5) hx hb d_Mod_isInit_86 (by decide) ?_
              refine lv_iadd hx hb d_Mod_isInit_87 ?_
              refine tw_ri (e2 := nI (p1 + 5)) (nI_add p1 5) ?_
              refine va_iald hx hb hK hP 1 0 rfl rfl (vp_in_nI (by omega) (by decide)) d_Mod_isInit_88 ?_
              obtain ⟨x6, ex6⟩ : ∃ z : Int32, bs ((nI (p1 + 5)).toNatClampNeg) = z := ⟨_, rfl⟩
              refine tw_ri (e2 := x6) ex6 ?_
              refine lv_bipush (v := 62) hx hb d_Mod_isInit_89 (by decide) ?_
              refine lv_icmp_ne (tgt := 98) hx hb d_Mod_isInit_91 (by decide) (fun h91 => ?_) (fun h91 => ?_)
              · refine lv_iconst (v := 0) hx hb d_Mod_isInit_98 (by decide) ?_
                exact tw_zsret E (by decide) (by decide) d_Mod_isInit_99
              · refine lv_iconst (v := 1) hx hb d_Mod_isInit_94 (by decide) ?_
                refine lv_goto (tgt := 99) hx hb d_Mod_isInit_95 (by decide) ?_
                exact tw_zsret E (by decide) (by decide) d_Mod_isInit_99
set_option maxHeartbeats 4000000 in
set_option maxRecDepth 100000 in
theorem g_Mod_isClassInit (l : Launch) (g : tw_G) (sz : Nat) (h0 : Nat) (q : Nat → Nat) (rf : Int32) (n : Nat) (mm : Int32) (mb : Int32) (fa : Int32) (fp : Int32) (av : Nat) (ev : Nat) (wi : Int32) (mn : Nat) (tp : Int32) (tc : Int32) (sc : Int32) (nf : Nat) (fd : Nat) (me : Nat) (mp : Int32) (xn : Nat) (mt : Nat) (wh : Nat) (tq : Nat) (ag : Nat) (an : Int32) (ig : Int32) (bs : Nat → Int32) (on : Nat → Int32) (tw : Nat → Int32) (k : Nat) (p1 l1 : Nat) (k6k : k < 620) (q1k : on k = nI p1) (q2k : tw k = nI l1) (q3k : p1 + l1 ≤ 600) : Met l y_Mod_isClassInit [.code y_Mod_isClassInit b_Mod_isClassInit 3 (some .boolean)] ({ frames := 0, cells := 0, slots := 0, locals := 0 }) (tw_P g [.ref h0, .int (nI k)] [(h0, .inr (10, mob q rf n mm mb fa fp av ev wi mn tp tc sc nf fd me mp xn mt wh tq ag an ig)), ((q 2), aI g 600 bs), ((q 16), aI g 620 on), ((q 17), aI g 620 tw)] sz) (vp_Si (fun (r : Int32) => (r = 0 ∨ r = 1))) 0 0 (fun _ => False) := by
  refine tw_met (l := l) (g := g) (y := y_Mod_isClassInit) (cc := b_Mod_isClassInit) (maxL := 3) (ret := (some .boolean)) (rm := { frames := 0, cells := 0, slots := 0, locals := 0 }) (mc := 0) (ms := 0) (av := [.ref h0, .int (nI k)]) (ws := [(h0, .inr (10, mob q rf n mm mb fa fp av ev wi mn tp tc sc nf fd me mp xn mt wh tq ag an ig)), ((q 2), aI g 600 bs), ((q 16), aI g 620 on), ((q 17), aI g 620 tw)]) (sz := sz) (Qc := fun _ => (vp_Si (fun (r : Int32) => (r = 0 ∨ r = 1)))) (free := fun _ _ => False) (by decide) (Nat.le_of_ble_eq_true rfl) ?_
  intro p e s m below meth c ls A E hB hK hZ hP hD hS hA hl
  obtain ⟨hx, hb, hml, hr, hown, hts, hlocks, hin⟩ := id E
  have hl : lv_has ls 3 [(0, .ref h0), (1, .int (nI k))] := hl
  refine lv_aload_n hx hb d_Mod_isClassInit_0 rfl (lv_at hl 0 rfl) ?_
  refine va_get (D := g.1) (ci := 10) (v := .ref (q 16)) (C := R_Mod) (T := F_Mod) (N := 61) hx hb hts in_Mod hown hK hP 0 rfl rfl 16 (by decide) (hts _ wd_1266) (fun _ h9 => h9) rfl d_Mod_isClassInit_1 ?_
  refine lv_iload_n hx hb d_Mod_isClassInit_4 rfl (lv_at hl 1 rfl) ?_
  refine va_iald hx hb hK hP 2 0 rfl rfl (vp_in_nI (by omega) (by decide)) d_Mod_isClassInit_5 ?_
  refine tw_ri (e2 := nI p1) (by rw [nI_clamp (by omega)]; exact q1k) ?_
  refine lv_istore_n hx hb d_Mod_isClassInit_6 rfl hl (by decide) rfl (fun ls hl => ?_)
  have hl : lv_has ls 3 [(2, .int (nI p1)), (0, .ref h0), (1, .int (nI k))] := hl
  refine lv_aload_n hx hb d_Mod_isClassInit_7 rfl (lv_at hl 1 rfl) ?_
  refine va_get (D := g.1) (ci := 10) (v := .ref (q 17)) (C := R_Mod) (T := F_Mod) (N := 61) hx hb hts in_Mod hown hK hP 0 rfl rfl 17 (by decide) (hts _ wd_1267) (fun _ h9 => h9) rfl d_Mod_isClassInit_8 ?_
  refine lv_iload_n hx hb d_Mod_isClassInit_11 rfl (lv_at hl 2 rfl) ?_
  refine va_iald hx hb hK hP 3 0 rfl rfl (vp_in_nI (by omega) (by decide)) d_Mod_isClassInit_12 ?_
  refine tw_ri (e2 := nI l1) (by rw [nI_clamp (by omega)]; exact q2k) ?_
  refine lv_bipush (v := 8) hx hb d_Mod_isClassInit_13 (by decide) ?_
  refine lv_icmp_ne (tgt := 126) hx hb d_Mod_isClassInit_15 (by decide) (fun h15 => ?_) (fun h15 => ?_)
  · refine lv_iconst (v := 0) hx hb d_Mod_isClassInit_126 (by decide) ?_
    exact tw_zsret E (by decide) (by decide) d_Mod_isClassInit_127
  · have h15 := tn_eq (b := 8) h15 (by omega) (by decide)
    refine lv_aload_n hx hb d_Mod_isClassInit_18 rfl (lv_at hl 1 rfl) ?_
    refine va_get (D := g.1) (ci := 10) (v := .ref (q 2)) (C := R_Mod) (T := F_Mod) (N := 61) hx hb hts in_Mod hown hK hP 0 rfl rfl 2 (by decide) (hts _ wd_1252) (fun _ h9 => h9) rfl d_Mod_isClassInit_19 ?_
    refine lv_iload_n hx hb d_Mod_isClassInit_22 rfl (lv_at hl 0 rfl) ?_
    refine va_iald hx hb hK hP 1 0 rfl rfl (vp_in_nI (by omega) (by decide)) d_Mod_isClassInit_23 ?_
    obtain ⟨x1, ex1⟩ : ∃ z : Int32, bs ((nI p1).toNatClampNeg) = z := ⟨_, rfl⟩
    refine tw_ri (e2 := x1) ex1 ?_
    refine lv_bipush (v := 60) hx hb d_Mod_isClassInit_24 (by decide) ?_
    refine lv_icmp_ne (tgt := 126) hx hb d_Mod_isClassInit_26 (by decide) (fun h26 => ?_) (fun h26 => ?_)
    · refine lv_iconst (v := 0) hx hb d_Mod_isClassInit_126 (by decide) ?_
      exact tw_zsret E (by decide) (by decide) d_Mod_isClassInit_127
    · refine lv_aload_n hx hb d_Mod_isClassInit_29 rfl (lv_at hl 1 rfl) ?_
      refine va_get (D := g.1) (ci := 10) (v := .ref (q 2)) (C := R_Mod) (T := F_Mod) (N := 61) hx hb hts in_Mod hown hK hP 0 rfl rfl 2 (by decide) (hts _ wd_1252) (fun _ h9 => h9) rfl d_Mod_isClassInit_30 ?_
      refine lv_iload_n hx hb d_Mod_isClassInit_33 rfl (lv_at hl 0 rfl) ?_
      refine lv_iconst (v := 1) hx hb d_Mod_isClassInit_34 (by decide) ?_
      refine lv_iadd hx hb d_Mod_isClassInit_35 ?_
      refine tw_ri (e2 := nI (p1 + 1)) (nI_add p1 1) ?_
      refine va_iald hx hb hK hP 1 0 rfl rfl (vp_in_nI (by omega) (by decide)) d_Mod_isClassInit_36 ?_
      obtain ⟨x2, ex2⟩ : ∃ z : Int32, bs ((nI (p1 + 1)).toNatClampNeg) = z := ⟨_, rfl⟩
      refine tw_ri (e2 := x2) ex2 ?_
      refine lv_bipush (v := 99) hx hb d_Mod_isClassInit_37 (by decide) ?_
      refine lv_icmp_ne (tgt := 126) hx hb d_Mod_isClassInit_39 (by decide) (fun h39 => ?_) (fun h39 => ?_)
      · refine lv_iconst (v := 0) hx hb d_Mod_isClassInit_126 (by decide) ?_
        exact tw_zsret E (by decide) (by decide) d_Mod_isClassInit_127
      · refine lv_aload_n hx hb d_Mod_isClassInit_42 rfl (lv_at hl 1 rfl) ?_
        refine va_get (D := g.1) (ci := 10) (v := .ref (q 2)) (C := R_Mod) (T := F_Mod) (N := 61) hx hb hts in_Mod hown hK hP 0 rfl rfl 2 (by decide) (hts _ wd_1252) (fun _ h9 => h9) rfl d_Mod_isClassInit_43 ?_
        refine lv_iload_n hx hb d_Mod_isClassInit_46 rfl (lv_at hl 0 rfl) ?_
        refine lv_iconst (v := 2) hx hb d_Mod_isClassInit_47 (by decide) ?_
        refine lv_iadd hx hb d_Mod_isClassInit_48 ?_
        refine tw_ri (e2 := nI (p1 + 2)) (nI_add p1 2) ?_
        refine va_iald hx hb hK hP 1 0 rfl rfl (vp_in_nI (by omega) (by decide)) d_Mod_isClassInit_49 ?_
        obtain ⟨x3, ex3⟩ : ∃ z : Int32, bs ((nI (p1 + 2)).toNatClampNeg) = z := ⟨_, rfl⟩
        refine tw_ri (e2 := x3) ex3 ?_
        refine lv_bipush (v := 108) hx hb d_Mod_isClassInit_50 (by decide) ?_
        refine lv_icmp_ne (tgt := 126) hx hb d_Mod_isClassInit_52 (by decide) (fun h52 => ?_) (fun h52 => ?_)
        · refine lv_iconst (v := 0) hx hb d_Mod_isClassInit_126 (by decide) ?_
          exact tw_zsret E (by decide) (by decide) d_Mod_isClassInit_127
        · refine lv_aload_n hx hb d_Mod_isClassInit_55 rfl (lv_at hl 1 rfl) ?_
          refine va_get (D := g.1) (ci := 10) (v := .ref (q 2)) (C := R_Mod) (T := F_Mod) (N := 61) hx hb hts in_Mod hown hK hP 0 rfl rfl 2 (by decide) (hts _ wd_1252) (fun _ h9 => h9) rfl d_Mod_isClassInit_56 ?_
          refine lv_iload_n hx hb d_Mod_isClassInit_59 rfl (lv_at hl 0 rfl) ?_
          refine lv_iconst (v := 3) hx hb d_Mod_isClassInit_60 (by decide) ?_
          refine lv_iadd hx hb d_Mod_isClassInit_61 ?_
          refine tw_ri (e2 := nI (p1 + 3)) (nI_add p1 3) ?_
          refine va_iald hx hb hK hP 1 0 rfl rfl (vp_in_nI (by omega) (by decide)) d_Mod_isClassInit_62 ?_
          obtain ⟨x4, ex4⟩ : ∃ z : Int32, bs ((nI (p1 + 3)).toNatClampNeg) = z := ⟨_, rfl⟩
          refine tw_ri (e2 := x4) ex4 ?_
          refine lv_bipush (v := 105) hx hb d_Mod_isClassInit_63 (by decide) ?_
          refine lv_icmp_ne (tgt := 126) hx hb d_Mod_isClassInit_65 (by decide) (fun h65 => ?_) (fun h65 => ?_)
          · refine lv_iconst (v := 0) hx hb d_Mod_isClassInit_126 (by decide) ?_
            exact tw_zsret E (by decide) (by decide) d_Mod_isClassInit_127
          · refine lv_aload_n hx hb d_Mod_isClassInit_68 rfl (lv_at hl 1 rfl) ?_
            refine va_get (D := g.1) (ci := 10) (v := .ref (q 2)) (C := R_Mod) (T := F_Mod) (N := 61) hx hb hts in_Mod hown hK hP 0 rfl rfl 2 (by decide) (hts _ wd_1252) (fun _ h9 => h9) rfl d_Mod_isClassInit_69 ?_
            refine lv_iload_n hx hb d_Mod_isClassInit_72 rfl (lv_at hl 0 rfl) ?_
            refine lv_iconst (v := 4) hx hb d_Mod_isClassInit_73 (by decide) ?_
            refine lv_iadd hx hb d_Mod_isClassInit_74 ?_
            refine tw_ri (e2 := nI (p1 + 4)) (nI_add p1 4) ?_
            refine va_iald hx hb hK hP 1 0 rfl rfl (vp_in_nI (by omega) (by decide)) d_Mod_isClassInit_75 ?_
            obtain ⟨x5, ex5⟩ : ∃ z : Int32, bs ((nI (p1 + 4)).toNatClampNeg) = z := ⟨_, rfl⟩
            refine tw_ri (e2 := x5) ex5 ?_
            refine lv_bipush (v := 110) hx hb d_Mod_isClassInit_76 (by decide) ?_
            refine lv_icmp_ne (tgt := 126) hx hb d_Mod_isClassInit_78 (by decide) (fun h78 => ?_) (fun h78 => ?_)
            · refine lv_iconst (v := 0) hx hb d_Mod_isClassInit_126 (by decide) ?_
              exact tw_zsret E (by decide) (by decide) d_Mod_isClassInit_127
            · refine lv_aload_n hx hb d_Mod_isClassInit_81 rfl (lv_at hl 1 rfl) ?_
              refine va_get (D := g.1) (ci := 10) (v := .ref (q 2)) (C := R_Mod) (T := F_Mod) (N := 61) hx hb hts in_Mod hown hK hP 0 rfl rfl 2 (by decide) (hts _ wd_1252) (fun _ h9 => h9) rfl d_Mod_isClassInit_82 ?_
              refine lv_iload_n hx hb d_Mod_isClassInit_85 rfl (lv_at hl 0 rfl) ?_
              refine lv_iconst (v := 5) hx hb d_Mod_isClassInit_86 (by decide) ?_
              refine lv_iadd hx hb d_Mod_isClassInit_87 ?_
              refine tw_ri (e2 := nI (p1 + 5)) (nI_add p1 5) ?_
              refine va_iald hx hb hK hP 1 0 rfl rfl (vp_in_nI (by omega) (by decide)) d_Mod_isClassInit_88 ?_
              obtain ⟨x6, ex6⟩ : ∃ z : Int32, bs ((nI (p1 + 5)).toNatClampNeg) = z := ⟨_, rfl⟩
              refine tw_ri (e2 := x6) ex6 ?_
              refine lv_bipush (v := 105) hx hb d_Mod_isClassInit_89 (by decide) ?_
              refine lv_icmp_ne (tgt := 126) hx hb d_Mod_isClassInit_91 (by decide) (fun h91 => ?_) (fun h91 => ?_)
              · refine lv_iconst (v := 0) hx hb d_Mod_isClassInit_126 (by decide) ?_
                exact tw_zsret E (by decide) (by decide) d_Mod_isClassInit_127
              · refine lv_aload_n hx hb d_Mod_isClassInit_94 rfl (lv_at hl 1 rfl) ?_
                refine va_get (D := g.1) (ci := 10) (v := .ref (q 2)) (C := R_Mod) (T := F_Mod) (N := 61) hx hb hts in_Mod hown hK hP 0 rfl rfl 2 (by decide) (hts _ wd_1252) (fun _ h9 => h9) rfl d_Mod_isClassInit_95 ?_
                refine lv_iload_n hx hb d_Mod_isClassInit_98 rfl (lv_at hl 0 rfl) ?_
                refine lv_bipush (v := 6) hx hb d_Mod_isClassInit_99 (by decide) ?_
                refine lv_iadd hx hb d_Mod_isClassInit_101 ?_
                refine tw_ri (e2 := nI (p1 + 6)) (nI_add p1 6) ?_
                refine va_iald hx hb hK hP 1 0 rfl rfl (vp_in_nI (by omega) (by decide)) d_Mod_isClassInit_102 ?_
                obtain ⟨x7, ex7⟩ : ∃ z : Int32, bs ((nI (p1 + 6)).toNatClampNeg) = z := ⟨_, rfl⟩
                refine tw_ri (e2 := x7) ex7 ?_
                refine lv_bipush (v := 116) hx hb d_Mod_isClassInit_103 (by decide) ?_
                refine lv_icmp_ne (tgt := 126) hx hb d_Mod_isClassInit_105 (by decide) (fun h105 => ?_) (fun h105 => ?_)
                · refine lv_iconst (v := 0) hx hb d_Mod_isClassInit_126 (by decide) ?_
                  exact tw_zsret E (by decide) (by decide) d_Mod_isClassInit_127
                · refine lv_aload_n hx hb d_Mod_isClassInit_108 rfl (lv_at hl 1 rfl) ?_
                  refine va_get (D := g.1) (ci := 10) (v := .ref (q 2)) (C := R_Mod) (T := F_Mod) (N := 61) hx hb hts in_Mod hown hK hP 0 rfl rfl 2 (by decide) (hts _ wd_1252) (fun _ h9 => h9) rfl d_Mod_isClassInit_109 ?_
                  refine lv_iload_n hx hb d_Mod_isClassInit_112 rfl (lv_at hl 0 rfl) ?_
                  refine lv_bipush (v := 7) hx hb d_Mod_isClassInit_113 (by decide) ?_
                  refine lv_iadd hx hb d_Mod_isClassInit_115 ?_
                  refine tw_ri (e2 := nI (p1 + 7)) (nI_add p1 7) ?_
                  refine va_iald hx hb hK hP 1 0 rfl rfl (vp_in_nI (by omega) (by decide)) d_Mod_isClassInit_116 ?_
                  obtain ⟨x8, ex8⟩ : ∃ z : Int32, bs ((nI (p1 + 7)).toNatClampNeg) = z := ⟨_, rfl⟩
                  refine tw_ri (e2 := x8) ex8 ?_
                  refine lv_bipush (v := 62) hx hb d_Mod_isClassInit_117 (by decide) ?_
                  refine lv_icmp_ne (tgt := 126) hx hb d_Mod_isClassInit_119 (by decide) (fun h119 => ?_) (fun h119 => ?_)
                  · refine lv_iconst (v := 0) hx hb d_Mod_isClassInit_126 (by decide) ?_
                    exact tw_zsret E (by decide) (by decide) d_Mod_isClassInit_127
                  · refine lv_iconst (v := 1) hx hb d_Mod_isClassInit_122 (by decide) ?_
                    refine lv_goto (tgt := 127) hx hb d_Mod_isClassInit_123 (by decide) ?_
                    exact tw_zsret E (by decide) (by decide) d_Mod_isClassInit_127
set_option maxHeartbeats 4000000 in
set_option maxRecDepth 100000 in
theorem g_Mod_sameTexts (l : Launch) (g : tw_G) (sz : Nat) (h0 : Nat) (q : Nat → Nat) (rf : Int32) (n : Nat) (mm : Int32) (mb : Int32) (fa : Int32) (fp : Int32) (av : Nat) (ev : Nat) (wi : Int32) (mn : Nat) (tp : Int32) (tc : Int32) (sc : Int32) (nf : Nat) (fd : Nat) (me : Nat) (mp : Int32) (xn : Nat) (mt : Nat) (wh : Nat) (tq : Nat) (ag : Nat) (an : Int32) (ig : Int32) (bs : Nat → Int32) (on : Nat → Int32) (tw : Nat → Int32) (k : Nat) (k2 : Nat) (p1 l1 p2 l2 : Nat) (k6k : k < 620) (q1k : on k = nI p1) (q2k : tw k = nI l1) (q3k : p1 + l1 ≤ 600) (k6k2 : k2 < 620) (q1k2 : on k2 = nI p2) (q2k2 : tw k2 = nI l2) (q3k2 : p2 + l2 ≤ 600) : Met l y_Mod_sameTexts [.code y_Mod_sameTexts b_Mod_sameTexts 5 (some .boolean)] ({ frames := 0, cells := 0, slots := 0, locals := 0 }) (tw_P g [.ref h0, .int (nI k), .int (nI k2)] [(h0, .inr (10, mob q rf n mm mb fa fp av ev wi mn tp tc sc nf fd me mp xn mt wh tq ag an ig)), ((q 2), aI g 600 bs), ((q 16), aI g 620 on), ((q 17), aI g 620 tw)] sz) (vp_Si (fun (r : Int32) => (r = 0 ∨ r = 1))) 0 0 (fun _ => False) := by
  refine tw_met (l := l) (g := g) (y := y_Mod_sameTexts) (cc := b_Mod_sameTexts) (maxL := 5) (ret := (some .boolean)) (rm := { frames := 0, cells := 0, slots := 0, locals := 0 }) (mc := 0) (ms := 0) (av := [.ref h0, .int (nI k), .int (nI k2)]) (ws := [(h0, .inr (10, mob q rf n mm mb fa fp av ev wi mn tp tc sc nf fd me mp xn mt wh tq ag an ig)), ((q 2), aI g 600 bs), ((q 16), aI g 620 on), ((q 17), aI g 620 tw)]) (sz := sz) (Qc := fun _ => (vp_Si (fun (r : Int32) => (r = 0 ∨ r = 1)))) (free := fun _ _ => False) (by decide) (Nat.le_of_ble_eq_true rfl) ?_
  intro p e s m below meth c ls A E hB hK hZ hP hD hS hA hl
  obtain ⟨hx, hb, hml, hr, hown, hts, hlocks, hin⟩ := id E
  have hl : lv_has ls 5 [(0, .ref h0), (1, .int (nI k)), (2, .int (nI k2))] := hl
  refine lv_aload_n hx hb d_Mod_sameTexts_0 rfl (lv_at hl 0 rfl) ?_
  refine va_get (D := g.1) (ci := 10) (v := .ref (q 17)) (C := R_Mod) (T := F_Mod) (N := 61) hx hb hts in_Mod hown hK hP 0 rfl rfl 17 (by decide) (hts _ wd_1267) (fun _ h9 => h9) rfl d_Mod_sameTexts_1 ?_
  refine lv_iload_n hx hb d_Mod_sameTexts_4 rfl (lv_at hl 1 rfl) ?_
  refine va_iald hx hb hK hP 3 0 rfl rfl (vp_in_nI (by omega) (by decide)) d_Mod_sameTexts_5 ?_
  refine tw_ri (e2 := nI l1) (by rw [nI_clamp (by omega)]; exact q2k) ?_
  refine lv_aload_n hx hb d_Mod_sameTexts_6 rfl (lv_at hl 0 rfl) ?_
  refine va_get (D := g.1) (ci := 10) (v := .ref (q 17)) (C := R_Mod) (T := F_Mod) (N := 61) hx hb hts in_Mod hown hK hP 0 rfl rfl 17 (by decide) (hts _ wd_1267) (fun _ h9 => h9) rfl d_Mod_sameTexts_7 ?_
  refine lv_iload_n hx hb d_Mod_sameTexts_10 rfl (lv_at hl 2 rfl) ?_
  refine va_iald hx hb hK hP 3 0 rfl rfl (vp_in_nI (by omega) (by decide)) d_Mod_sameTexts_11 ?_
  refine tw_ri (e2 := nI l2) (by rw [nI_clamp (by omega)]; exact q2k2) ?_
  refine lv_icmp_ne (tgt := 19) hx hb d_Mod_sameTexts_12 (by decide) (fun h12 => ?_) (fun h12 => ?_)
  · refine lv_iconst (v := 0) hx hb d_Mod_sameTexts_19 (by decide) ?_
    refine lv_istore_n hx hb d_Mod_sameTexts_20 rfl hl (by decide) rfl (fun ls hl => ?_)
    have hl : lv_has ls 5 [(3, .int 0), (0, .ref h0), (1, .int (nI k)), (2, .int (nI k2))] := hl
    refine lv_iconst (v := 0) hx hb d_Mod_sameTexts_21 (by decide) ?_
    refine lv_istore hx hb d_Mod_sameTexts_22 hl (by decide) rfl (fun ls hl => ?_)
    have hl : lv_has ls 5 [(4, .int 0), (3, .int 0), (0, .ref h0), (1, .int (nI k)), (2, .int (nI k2))] := hl
    have loop24 : ∀ (kq : Nat) (s9 : Int32) (i : Nat) (ls : Array Slot) , l1 - i = kq → (hi : i ≤ l1) → (hs9 : s9 = 0 ∨ s9 = 1) → (hsl : ¬ s9 = 0 → l1 = l2) → lv_has ls 5 [(4, .int (nI i)), (3, .int s9), (0, .ref h0), (1, .int (nI k)), (2, .int (nI k2))] → W p l e ({ frames := 0, cells := 0, slots := 0, locals := 0 }) s m [.ref h0, .int (nI k), .int (nI k2)].toArray below meth c s.heap [] 0 0 (MQ below (vp_Si (fun (r : Int32) => (r = 0 ∨ r = 1))) [.ref h0, .int (nI k), .int (nI k2)].toArray s 0 0 (fun _ => False)) (F0 m 24 ls []) := by
      intro kq
      induction kq using Nat.strongRecOn with
      | _ kq ih =>
        intro s9 i ls hk hi hs9 hsl hl 
        refine lv_iload_n hx hb d_Mod_sameTexts_24 rfl (lv_at hl 1 rfl) ?_
        refine lv_if_eq (tgt := 82) hx hb d_Mod_sameTexts_25 (by decide) (fun h25 => ?_) (fun h25 => ?_)
        · refine lv_iload_n hx hb d_Mod_sameTexts_82 rfl (lv_at hl 1 rfl) ?_
          exact tw_zsret E (tn_z hs9) hs9 d_Mod_sameTexts_83
        · refine lv_iload hx hb d_Mod_sameTexts_28 (lv_at hl 0 rfl) ?_
          refine lv_aload_n hx hb d_Mod_sameTexts_30 rfl (lv_at hl 2 rfl) ?_
          refine va_get (D := g.1) (ci := 10) (v := .ref (q 17)) (C := R_Mod) (T := F_Mod) (N := 61) hx hb hts in_Mod hown hK hP 0 rfl rfl 17 (by decide) (hts _ wd_1267) (fun _ h9 => h9) rfl d_Mod_sameTexts_31 ?_
          refine lv_iload_n hx hb d_Mod_sameTexts_34 rfl (lv_at hl 3 rfl) ?_
          refine va_iald hx hb hK hP 3 0 rfl rfl (vp_in_nI (by omega) (by decide)) d_Mod_sameTexts_35 ?_
          refine tw_ri (e2 := nI l1) (by rw [nI_clamp (by omega)]; exact q2k) ?_
          refine lv_icmp_ge (tgt := 82) hx hb d_Mod_sameTexts_36 (by decide) (fun h36 => ?_) (fun h36 => ?_)
          · refine lv_iload_n hx hb d_Mod_sameTexts_82 rfl (lv_at hl 1 rfl) ?_
            exact tw_zsret E (tn_z hs9) hs9 d_Mod_sameTexts_83
          · have h36 := tn_nle h36 (by omega) (by omega)
            have hll := hsl h25
            refine lv_aload_n hx hb d_Mod_sameTexts_39 rfl (lv_at hl 2 rfl) ?_
            refine va_get (D := g.1) (ci := 10) (v := .ref (q 2)) (C := R_Mod) (T := F_Mod) (N := 61) hx hb hts in_Mod hown hK hP 0 rfl rfl 2 (by decide) (hts _ wd_1252) (fun _ h9 => h9) rfl d_Mod_sameTexts_40 ?_
            refine lv_aload_n hx hb d_Mod_sameTexts_43 rfl (lv_at hl 2 rfl) ?_
            refine va_get (D := g.1) (ci := 10) (v := .ref (q 16)) (C := R_Mod) (T := F_Mod) (N := 61) hx hb hts in_Mod hown hK hP 0 rfl rfl 16 (by decide) (hts _ wd_1266) (fun _ h9 => h9) rfl d_Mod_sameTexts_44 ?_
            refine lv_iload_n hx hb d_Mod_sameTexts_47 rfl (lv_at hl 3 rfl) ?_
            refine va_iald hx hb hK hP 2 0 rfl rfl (vp_in_nI (by omega) (by decide)) d_Mod_sameTexts_48 ?_
            refine tw_ri (e2 := nI p1) (by rw [nI_clamp (by omega)]; exact q1k) ?_
            refine lv_iload hx hb d_Mod_sameTexts_49 (lv_at hl 0 rfl) ?_
            refine lv_iadd hx hb d_Mod_sameTexts_51 ?_
            refine tw_ri (e2 := nI (p1 + i)) (nI_add _ _) ?_
            refine va_iald hx hb hK hP 1 0 rfl rfl (vp_in_nI (by omega) (by decide)) d_Mod_sameTexts_52 ?_
            obtain ⟨x1, ex1⟩ : ∃ z : Int32, bs ((nI (p1 + i)).toNatClampNeg) = z := ⟨_, rfl⟩
            refine tw_ri (e2 := x1) ex1 ?_
            refine lv_aload_n hx hb d_Mod_sameTexts_53 rfl (lv_at hl 2 rfl) ?_
            refine va_get (D := g.1) (ci := 10) (v := .ref (q 2)) (C := R_Mod) (T := F_Mod) (N := 61) hx hb hts in_Mod hown hK hP 0 rfl rfl 2 (by decide) (hts _ wd_1252) (fun _ h9 => h9) rfl d_Mod_sameTexts_54 ?_
            refine lv_aload_n hx hb d_Mod_sameTexts_57 rfl (lv_at hl 2 rfl) ?_
            refine va_get (D := g.1) (ci := 10) (v := .ref (q 16)) (C := R_Mod) (T := F_Mod) (N := 61) hx hb hts in_Mod hown hK hP 0 rfl rfl 16 (by decide) (hts _ wd_1266) (fun _ h9 => h9) rfl d_Mod_sameTexts_58 ?_
            refine lv_iload_n hx hb d_Mod_sameTexts_61 rfl (lv_at hl 4 rfl) ?_
            refine va_iald hx hb hK hP 2 0 rfl rfl (vp_in_nI (by omega) (by decide)) d_Mod_sameTexts_62 ?_
            refine tw_ri (e2 := nI p2) (by rw [nI_clamp (by omega)]; exact q1k2) ?_
            refine lv_iload hx hb d_Mod_sameTexts_63 (lv_at hl 0 rfl) ?_
            refine lv_iadd hx hb d_Mod_sameTexts_65 ?_
            refine tw_ri (e2 := nI (p2 + i)) (nI_add _ _) ?_
            refine va_iald hx hb hK hP 1 0 rfl rfl (vp_in_nI (by omega) (by decide)) d_Mod_sameTexts_66 ?_
            obtain ⟨x2, ex2⟩ : ∃ z : Int32, bs ((nI (p2 + i)).toNatClampNeg) = z := ⟨_, rfl⟩
            refine tw_ri (e2 := x2) ex2 ?_
            refine lv_icmp_ne (tgt := 74) hx hb d_Mod_sameTexts_67 (by decide) (fun h67 => ?_) (fun h67 => ?_)
            · refine lv_iconst (v := 0) hx hb d_Mod_sameTexts_74 (by decide) ?_
              refine lv_istore_n hx hb d_Mod_sameTexts_75 rfl hl (by decide) rfl (fun ls hl => ?_)
              have hl : lv_has ls 5 [(3, .int 0), (4, .int (nI i)), (0, .ref h0), (1, .int (nI k)), (2, .int (nI k2))] := hl
              refine lv_iinc (k := 1) (v := nI (i + 1)) hx hb d_Mod_sameTexts_76 hl rfl ((nI_succ i).symm) (by decide) rfl (fun ls hl => ?_)
              have hl : lv_has ls 5 [(4, .int (nI (i + 1))), (3, .int 0), (0, .ref h0), (1, .int (nI k)), (2, .int (nI k2))] := hl
              refine lv_goto (tgt := 24) hx hb d_Mod_sameTexts_79 (by decide) ?_
              exact ih _ (by omega) 0 (i + 1) ls rfl (by omega) (Or.inl rfl) (fun _ => hll) (lv_sub hl [0, 1, 2, 3, 4] rfl)
            · refine lv_iconst (v := 1) hx hb d_Mod_sameTexts_70 (by decide) ?_
              refine lv_goto (tgt := 75) hx hb d_Mod_sameTexts_71 (by decide) ?_
              refine lv_istore_n hx hb d_Mod_sameTexts_75 rfl hl (by decide) rfl (fun ls hl => ?_)
              have hl : lv_has ls 5 [(3, .int 1), (4, .int (nI i)), (0, .ref h0), (1, .int (nI k)), (2, .int (nI k2))] := hl
              refine lv_iinc (k := 1) (v := nI (i + 1)) hx hb d_Mod_sameTexts_76 hl rfl ((nI_succ i).symm) (by decide) rfl (fun ls hl => ?_)
              have hl : lv_has ls 5 [(4, .int (nI (i + 1))), (3, .int 1), (0, .ref h0), (1, .int (nI k)), (2, .int (nI k2))] := hl
              refine lv_goto (tgt := 24) hx hb d_Mod_sameTexts_79 (by decide) ?_
              exact ih _ (by omega) 1 (i + 1) ls rfl (by omega) (Or.inr rfl) (fun _ => hll) (lv_sub hl [0, 1, 2, 3, 4] rfl)
    exact loop24 _ 0 0 ls rfl (Nat.zero_le _) (Or.inl rfl) (fun h => absurd rfl h) (hl)
  · have h12 := tn_eq h12 (by omega) (by omega)
    refine lv_iconst (v := 1) hx hb d_Mod_sameTexts_15 (by decide) ?_
    refine lv_goto (tgt := 20) hx hb d_Mod_sameTexts_16 (by decide) ?_
    refine lv_istore_n hx hb d_Mod_sameTexts_20 rfl hl (by decide) rfl (fun ls hl => ?_)
    have hl : lv_has ls 5 [(3, .int 1), (0, .ref h0), (1, .int (nI k)), (2, .int (nI k2))] := hl
    refine lv_iconst (v := 0) hx hb d_Mod_sameTexts_21 (by decide) ?_
    refine lv_istore hx hb d_Mod_sameTexts_22 hl (by decide) rfl (fun ls hl => ?_)
    have hl : lv_has ls 5 [(4, .int 0), (3, .int 1), (0, .ref h0), (1, .int (nI k)), (2, .int (nI k2))] := hl
    have loop24 : ∀ (kq : Nat) (s9 : Int32) (i : Nat) (ls : Array Slot) , l1 - i = kq → (hi : i ≤ l1) → (hs9 : s9 = 0 ∨ s9 = 1) → (hsl : ¬ s9 = 0 → l1 = l2) → lv_has ls 5 [(4, .int (nI i)), (3, .int s9), (0, .ref h0), (1, .int (nI k)), (2, .int (nI k2))] → W p l e ({ frames := 0, cells := 0, slots := 0, locals := 0 }) s m [.ref h0, .int (nI k), .int (nI k2)].toArray below meth c s.heap [] 0 0 (MQ below (vp_Si (fun (r : Int32) => (r = 0 ∨ r = 1))) [.ref h0, .int (nI k), .int (nI k2)].toArray s 0 0 (fun _ => False)) (F0 m 24 ls []) := by
      intro kq
      induction kq using Nat.strongRecOn with
      | _ kq ih =>
        intro s9 i ls hk hi hs9 hsl hl 
        refine lv_iload_n hx hb d_Mod_sameTexts_24 rfl (lv_at hl 1 rfl) ?_
        refine lv_if_eq (tgt := 82) hx hb d_Mod_sameTexts_25 (by decide) (fun h25 => ?_) (fun h25 => ?_)
        · refine lv_iload_n hx hb d_Mod_sameTexts_82 rfl (lv_at hl 1 rfl) ?_
          exact tw_zsret E (tn_z hs9) hs9 d_Mod_sameTexts_83
        · refine lv_iload hx hb d_Mod_sameTexts_28 (lv_at hl 0 rfl) ?_
          refine lv_aload_n hx hb d_Mod_sameTexts_30 rfl (lv_at hl 2 rfl) ?_
          refine va_get (D := g.1) (ci := 10) (v := .ref (q 17)) (C := R_Mod) (T := F_Mod) (N := 61) hx hb hts in_Mod hown hK hP 0 rfl rfl 17 (by decide) (hts _ wd_1267) (fun _ h9 => h9) rfl d_Mod_sameTexts_31 ?_
          refine lv_iload_n hx hb d_Mod_sameTexts_34 rfl (lv_at hl 3 rfl) ?_
          refine va_iald hx hb hK hP 3 0 rfl rfl (vp_in_nI (by omega) (by decide)) d_Mod_sameTexts_35 ?_
          refine tw_ri (e2 := nI l1) (by rw [nI_clamp (by omega)]; exact q2k) ?_
          refine lv_icmp_ge (tgt := 82) hx hb d_Mod_sameTexts_36 (by decide) (fun h36 => ?_) (fun h36 => ?_)
          · refine lv_iload_n hx hb d_Mod_sameTexts_82 rfl (lv_at hl 1 rfl) ?_
            exact tw_zsret E (tn_z hs9) hs9 d_Mod_sameTexts_83
          · have h36 := tn_nle h36 (by omega) (by omega)
            have hll := hsl h25
            refine lv_aload_n hx hb d_Mod_sameTexts_39 rfl (lv_at hl 2 rfl) ?_
            refine va_get (D := g.1) (ci := 10) (v := .ref (q 2)) (C := R_Mod) (T := F_Mod) (N := 61) hx hb hts in_Mod hown hK hP 0 rfl rfl 2 (by decide) (hts _ wd_1252) (fun _ h9 => h9) rfl d_Mod_sameTexts_40 ?_
            refine lv_aload_n hx hb d_Mod_sameTexts_43 rfl (lv_at hl 2 rfl) ?_
            refine va_get (D := g.1) (ci := 10) (v := .ref (q 16)) (C := R_Mod) (T := F_Mod) (N := 61) hx hb hts in_Mod hown hK hP 0 rfl rfl 16 (by decide) (hts _ wd_1266) (fun _ h9 => h9) rfl d_Mod_sameTexts_44 ?_
            refine lv_iload_n hx hb d_Mod_sameTexts_47 rfl (lv_at hl 3 rfl) ?_
            refine va_iald hx hb hK hP 2 0 rfl rfl (vp_in_nI (by omega) (by decide)) d_Mod_sameTexts_48 ?_
            refine tw_ri (e2 := nI p1) (by rw [nI_clamp (by omega)]; exact q1k) ?_
            refine lv_iload hx hb d_Mod_sameTexts_49 (lv_at hl 0 rfl) ?_
            refine lv_iadd hx hb d_Mod_sameTexts_51 ?_
            refine tw_ri (e2 := nI (p1 + i)) (nI_add _ _) ?_
            refine va_iald hx hb hK hP 1 0 rfl rfl (vp_in_nI (by omega) (by decide)) d_Mod_sameTexts_52 ?_
            obtain ⟨x3, ex3⟩ : ∃ z : Int32, bs ((nI (p1 + i)).toNatClampNeg) = z := ⟨_, rfl⟩
            refine tw_ri (e2 := x3) ex3 ?_
            refine lv_aload_n hx hb d_Mod_sameTexts_53 rfl (lv_at hl 2 rfl) ?_
            refine va_get (D := g.1) (ci := 10) (v := .ref (q 2)) (C := R_Mod) (T := F_Mod) (N := 61) hx hb hts in_Mod hown hK hP 0 rfl rfl 2 (by decide) (hts _ wd_1252) (fun _ h9 => h9) rfl d_Mod_sameTexts_54 ?_
            refine lv_aload_n hx hb d_Mod_sameTexts_57 rfl (lv_at hl 2 rfl) ?_
            refine va_get (D := g.1) (ci := 10) (v := .ref (q 16)) (C := R_Mod) (T := F_Mod) (N := 61) hx hb hts in_Mod hown hK hP 0 rfl rfl 16 (by decide) (hts _ wd_1266) (fun _ h9 => h9) rfl d_Mod_sameTexts_58 ?_
            refine lv_iload_n hx hb d_Mod_sameTexts_61 rfl (lv_at hl 4 rfl) ?_
            refine va_iald hx hb hK hP 2 0 rfl rfl (vp_in_nI (by omega) (by decide)) d_Mod_sameTexts_62 ?_
            refine tw_ri (e2 := nI p2) (by rw [nI_clamp (by omega)]; exact q1k2) ?_
            refine lv_iload hx hb d_Mod_sameTexts_63 (lv_at hl 0 rfl) ?_
            refine lv_iadd hx hb d_Mod_sameTexts_65 ?_
            refine tw_ri (e2 := nI (p2 + i)) (nI_add _ _) ?_
            refine va_iald hx hb hK hP 1 0 rfl rfl (vp_in_nI (by omega) (by decide)) d_Mod_sameTexts_66 ?_
            obtain ⟨x4, ex4⟩ : ∃ z : Int32, bs ((nI (p2 + i)).toNatClampNeg) = z := ⟨_, rfl⟩
            refine tw_ri (e2 := x4) ex4 ?_
            refine lv_icmp_ne (tgt := 74) hx hb d_Mod_sameTexts_67 (by decide) (fun h67 => ?_) (fun h67 => ?_)
            · refine lv_iconst (v := 0) hx hb d_Mod_sameTexts_74 (by decide) ?_
              refine lv_istore_n hx hb d_Mod_sameTexts_75 rfl hl (by decide) rfl (fun ls hl => ?_)
              have hl : lv_has ls 5 [(3, .int 0), (4, .int (nI i)), (0, .ref h0), (1, .int (nI k)), (2, .int (nI k2))] := hl
              refine lv_iinc (k := 1) (v := nI (i + 1)) hx hb d_Mod_sameTexts_76 hl rfl ((nI_succ i).symm) (by decide) rfl (fun ls hl => ?_)
              have hl : lv_has ls 5 [(4, .int (nI (i + 1))), (3, .int 0), (0, .ref h0), (1, .int (nI k)), (2, .int (nI k2))] := hl
              refine lv_goto (tgt := 24) hx hb d_Mod_sameTexts_79 (by decide) ?_
              exact ih _ (by omega) 0 (i + 1) ls rfl (by omega) (Or.inl rfl) (fun _ => hll) (lv_sub hl [0, 1, 2, 3, 4] rfl)
            · refine lv_iconst (v := 1) hx hb d_Mod_sameTexts_70 (by decide) ?_
              refine lv_goto (tgt := 75) hx hb d_Mod_sameTexts_71 (by decide) ?_
              refine lv_istore_n hx hb d_Mod_sameTexts_75 rfl hl (by decide) rfl (fun ls hl => ?_)
              have hl : lv_has ls 5 [(3, .int 1), (4, .int (nI i)), (0, .ref h0), (1, .int (nI k)), (2, .int (nI k2))] := hl
              refine lv_iinc (k := 1) (v := nI (i + 1)) hx hb d_Mod_sameTexts_76 hl rfl ((nI_succ i).symm) (by decide) rfl (fun ls hl => ?_)
              have hl : lv_has ls 5 [(4, .int (nI (i + 1))), (3, .int 1), (0, .ref h0), (1, .int (nI k)), (2, .int (nI k2))] := hl
              refine lv_goto (tgt := 24) hx hb d_Mod_sameTexts_79 (by decide) ?_
              exact ih _ (by omega) 1 (i + 1) ls rfl (by omega) (Or.inr rfl) (fun _ => hll) (lv_sub hl [0, 1, 2, 3, 4] rfl)
    exact loop24 _ 1 0 ls rfl (Nat.zero_le _) (Or.inr rfl) (fun _ => h12) (hl)
end
section
/-! What linking says of the constants and the members. -/
def TGv (mn : Nat) (tg : Nat → Int32) (t v : Int32) : Prop := ∃ j, 0 < j ∧ j < mn ∧ v = nI j ∧ tg j = t
def LC1 (mn : Nat) (tg on tw : Nat → Int32) (k : Nat) : Prop := (tg k = 7 ∨ tg k = 8 → TGv mn tg 1 (on k)) ∧ (tg k = 9 ∨ tg k = 10 → TGv mn tg 7 (on k) ∧ TGv mn tg 12 (tw k)) ∧ (tg k = 12 → TGv mn tg 1 (on k) ∧ TGv mn tg 1 (tw k))
section LCS
variable {mn k : Nat} {tg on tw : Nat → Int32}
theorem lc_no {x a b : Int32} (h : x = a) (h2 : x = b) (hn : ¬ a = b) : False := hn (h.symm.trans h2)
theorem LC1.a (h : tg k = 7) (h1 : TGv mn tg 1 (on k)) : LC1 mn tg on tw k := ⟨fun _ => h1, fun q => (q.elim (fun q => lc_no h q (by decide)) (fun q => lc_no h q (by decide))).elim, fun q => (lc_no h q (by decide)).elim⟩
theorem LC1.b (h : tg k = 8) (h1 : TGv mn tg 1 (on k)) : LC1 mn tg on tw k := ⟨fun _ => h1, fun q => (q.elim (fun q => lc_no h q (by decide)) (fun q => lc_no h q (by decide))).elim, fun q => (lc_no h q (by decide)).elim⟩
theorem LC1.c (h : tg k = 9) (h1 : TGv mn tg 7 (on k)) (h2 : TGv mn tg 12 (tw k)) : LC1 mn tg on tw k := ⟨fun q => (q.elim (fun q => lc_no h q (by decide)) (fun q => lc_no h q (by decide))).elim, fun _ => ⟨h1, h2⟩, fun q => (lc_no h q (by decide)).elim⟩
theorem LC1.d (h : tg k = 10) (h1 : TGv mn tg 7 (on k)) (h2 : TGv mn tg 12 (tw k)) : LC1 mn tg on tw k := ⟨fun q => (q.elim (fun q => lc_no h q (by decide)) (fun q => lc_no h q (by decide))).elim, fun _ => ⟨h1, h2⟩, fun q => (lc_no h q (by decide)).elim⟩
theorem LC1.e (h : tg k = 12) (h1 : TGv mn tg 1 (on k)) (h2 : TGv mn tg 1 (tw k)) : LC1 mn tg on tw k := ⟨fun q => (q.elim (fun q => lc_no h q (by decide)) (fun q => lc_no h q (by decide))).elim, fun q => (q.elim (fun q => lc_no h q (by decide)) (fun q => lc_no h q (by decide))).elim, fun _ => ⟨h1, h2⟩⟩
theorem LC1.f (h7 : ¬ tg k = 7) (h8 : ¬ tg k = 8) (h9 : ¬ tg k = 9) (h10 : ¬ tg k = 10) (h12 : ¬ tg k = 12) : LC1 mn tg on tw k := ⟨fun q => (q.elim h7 h8).elim, fun q => (q.elim h9 h10).elim, fun q => (h12 q).elim⟩
end LCS
def LCA (mn : Nat) (tg on tw : Nat → Int32) : Prop := ∀ j, 0 < j → j < mn → LC1 mn tg on tw j
theorem lk_pair {mn k : Nat} {tg on tw : Nat → Int32} (h : LCA mn tg on tw) (hT : TXT tg on tw) (hm : mn ≤ 620) (h0 : 0 < k) (hk : k < mn) (h9 : tg k = 9 ∨ tg k = 10) : ∃ j2 jn jt pn l1 pt l2, tw k = nI j2 ∧ j2 < 620 ∧ on j2 = nI jn ∧ tw j2 = nI jt ∧ jn < 620 ∧ jt < 620 ∧ on jn = nI pn ∧ tw jn = nI l1 ∧ pn + l1 ≤ 600 ∧ on jt = nI pt ∧ tw jt = nI l2 ∧ pt + l2 ≤ 600 := by
  obtain ⟨-, j2, a0, a1, a2, a3⟩ := (h k h0 hk).2.1 h9
  obtain ⟨⟨jn, b0, b1, b2, b3⟩, ⟨jt, c0, c1, c2, c3⟩⟩ := (h j2 a0 a1).2.2 a3
  obtain ⟨pn, l1, d1, d2, d3⟩ := hT jn (by omega) b3
  obtain ⟨pt, l2, e1, e2, e3⟩ := hT jt (by omega) c3
  exact ⟨j2, jn, jt, pn, l1, pt, l2, a2, by omega, b2, c2, by omega, by omega, d1, d2, d3, e1, e2, e3⟩
theorem lk_own {mn k : Nat} {tg on tw : Nat → Int32} (h : LCA mn tg on tw) (hT : TXT tg on tw) (hm : mn ≤ 620) (h0 : 0 < k) (hk : k < mn) (h9 : tg k = 9 ∨ tg k = 10) : ∃ j7 jo po l1, on k = nI j7 ∧ j7 < 620 ∧ on j7 = nI jo ∧ jo < 620 ∧ on jo = nI po ∧ tw jo = nI l1 ∧ po + l1 ≤ 600 := by
  obtain ⟨⟨j7, a0, a1, a2, a3⟩, -⟩ := (h k h0 hk).2.1 h9
  obtain ⟨jo, b0, b1, b2, b3⟩ := (h j7 a0 a1).1 (Or.inl a3)
  obtain ⟨po, l1, d1, d2, d3⟩ := hT jo (by omega) b3
  exact ⟨j7, jo, po, l1, a2, by omega, b2, by omega, d1, d2, d3⟩
theorem lk_cls {mn : Nat} {tg on tw : Nat → Int32} {v : Int32} (h : LCA mn tg on tw) (hT : TXT tg on tw) (hm : mn ≤ 620) (hv : TGv mn tg 7 v) : ∃ jc jo po l1, v = nI jc ∧ jc < 620 ∧ on jc = nI jo ∧ jo < 620 ∧ on jo = nI po ∧ tw jo = nI l1 ∧ po + l1 ≤ 600 := by
  obtain ⟨jc, a0, a1, a2, a3⟩ := hv
  obtain ⟨jo, b0, b1, b2, b3⟩ := (h jc a0 a1).1 (Or.inl a3)
  obtain ⟨po, l1, d1, d2, d3⟩ := hT jo (by omega) b3
  exact ⟨jc, jo, po, l1, a2, by omega, b2, by omega, d1, d2, d3⟩
def MC1 (bs tg on tw : Nat → Int32) (k : Nat) : Prop := (tg k = 9 → ∃ j2 jt p l, tw k = nI j2 ∧ j2 < 620 ∧ tw j2 = nI jt ∧ jt < 620 ∧ on jt = nI p ∧ tw jt = nI l ∧ p + l ≤ 600 ∧ 0 < l) ∧ (tg k = 10 → ∃ j2 jt p l, tw k = nI j2 ∧ j2 < 620 ∧ tw j2 = nI jt ∧ jt < 620 ∧ on jt = nI p ∧ tw jt = nI l ∧ p + l ≤ 600 ∧ MTY bs p (p + l))
def LMB (bs : Nat → Int32) (mn : Nat) (tg on tw : Nat → Int32) (fd : Nat) (na ty : Nat → Int32) (i : Nat) : Prop := (∃ x, 0 < x ∧ x < mn ∧ na i = nI x ∧ tg x = 1) ∧ (∃ x p l, 0 < x ∧ x < mn ∧ ty i = nI x ∧ tg x = 1 ∧ on x = nI p ∧ tw x = nI l ∧ p + l ≤ 600 ∧ (fd ≤ i → MTY bs p (p + l)))
end
section
theorem d_Mod_linkConstant_0 : decode b_Mod_linkConstant 0 = .ok (.aload_n 0, 1) := by decide +kernel
theorem d_Mod_linkConstant_1 : decode b_Mod_linkConstant 1 = .ok (.getfield 32, 3) := by decide +kernel
theorem d_Mod_linkConstant_4 : decode b_Mod_linkConstant 4 = .ok (.iload_n 1, 1) := by decide +kernel
theorem d_Mod_linkConstant_5 : decode b_Mod_linkConstant 5 = .ok (.iaload, 1) := by decide +kernel
theorem d_Mod_linkConstant_6 : decode b_Mod_linkConstant 6 = .ok (.istore_n 2, 1) := by decide +kernel
theorem d_Mod_linkConstant_7 : decode b_Mod_linkConstant 7 = .ok (.aload_n 0, 1) := by decide +kernel
theorem d_Mod_linkConstant_8 : decode b_Mod_linkConstant 8 = .ok (.getfield 38, 3) := by decide +kernel
theorem d_Mod_linkConstant_11 : decode b_Mod_linkConstant 11 = .ok (.iload_n 1, 1) := by decide +kernel
theorem d_Mod_linkConstant_12 : decode b_Mod_linkConstant 12 = .ok (.iaload, 1) := by decide +kernel
theorem d_Mod_linkConstant_13 : decode b_Mod_linkConstant 13 = .ok (.istore_n 3, 1) := by decide +kernel
theorem d_Mod_linkConstant_14 : decode b_Mod_linkConstant 14 = .ok (.aload_n 0, 1) := by decide +kernel
theorem d_Mod_linkConstant_15 : decode b_Mod_linkConstant 15 = .ok (.getfield 41, 3) := by decide +kernel
theorem d_Mod_linkConstant_18 : decode b_Mod_linkConstant 18 = .ok (.iload_n 1, 1) := by decide +kernel
theorem d_Mod_linkConstant_19 : decode b_Mod_linkConstant 19 = .ok (.iaload, 1) := by decide +kernel
theorem d_Mod_linkConstant_20 : decode b_Mod_linkConstant 20 = .ok (.istore 4, 2) := by decide +kernel
theorem d_Mod_linkConstant_22 : decode b_Mod_linkConstant 22 = .ok (.iload_n 2, 1) := by decide +kernel
theorem d_Mod_linkConstant_23 : decode b_Mod_linkConstant 23 = .ok (.bipush 7, 2) := by decide +kernel
theorem d_Mod_linkConstant_25 : decode b_Mod_linkConstant 25 = .ok (.if_icmp .eq 9, 3) := by decide +kernel
theorem d_Mod_linkConstant_28 : decode b_Mod_linkConstant 28 = .ok (.iload_n 2, 1) := by decide +kernel
theorem d_Mod_linkConstant_29 : decode b_Mod_linkConstant 29 = .ok (.bipush 8, 2) := by decide +kernel
theorem d_Mod_linkConstant_31 : decode b_Mod_linkConstant 31 = .ok (.if_icmp .ne 12, 3) := by decide +kernel
theorem d_Mod_linkConstant_34 : decode b_Mod_linkConstant 34 = .ok (.aload_n 0, 1) := by decide +kernel
theorem d_Mod_linkConstant_35 : decode b_Mod_linkConstant 35 = .ok (.iload_n 3, 1) := by decide +kernel
theorem d_Mod_linkConstant_36 : decode b_Mod_linkConstant 36 = .ok (.iconst 1, 1) := by decide +kernel
theorem d_Mod_linkConstant_37 : decode b_Mod_linkConstant 37 = .ok (.invokevirtual 184, 3) := by decide +kernel
theorem d_Mod_linkConstant_40 : decode b_Mod_linkConstant 40 = .ok (.goto 74, 3) := by decide +kernel
theorem d_Mod_linkConstant_43 : decode b_Mod_linkConstant 43 = .ok (.iload_n 2, 1) := by decide +kernel
theorem d_Mod_linkConstant_44 : decode b_Mod_linkConstant 44 = .ok (.bipush 9, 2) := by decide +kernel
theorem d_Mod_linkConstant_46 : decode b_Mod_linkConstant 46 = .ok (.if_icmp .eq 9, 3) := by decide +kernel
theorem d_Mod_linkConstant_49 : decode b_Mod_linkConstant 49 = .ok (.iload_n 2, 1) := by decide +kernel
theorem d_Mod_linkConstant_50 : decode b_Mod_linkConstant 50 = .ok (.bipush 10, 2) := by decide +kernel
theorem d_Mod_linkConstant_52 : decode b_Mod_linkConstant 52 = .ok (.if_icmp .ne 32, 3) := by decide +kernel
theorem d_Mod_linkConstant_55 : decode b_Mod_linkConstant 55 = .ok (.aload_n 0, 1) := by decide +kernel
theorem d_Mod_linkConstant_56 : decode b_Mod_linkConstant 56 = .ok (.iload_n 3, 1) := by decide +kernel
theorem d_Mod_linkConstant_57 : decode b_Mod_linkConstant 57 = .ok (.bipush 7, 2) := by decide +kernel
theorem d_Mod_linkConstant_59 : decode b_Mod_linkConstant 59 = .ok (.invokevirtual 184, 3) := by decide +kernel
theorem d_Mod_linkConstant_62 : decode b_Mod_linkConstant 62 = .ok (.ifCond .eq 18, 3) := by decide +kernel
theorem d_Mod_linkConstant_65 : decode b_Mod_linkConstant 65 = .ok (.aload_n 0, 1) := by decide +kernel
theorem d_Mod_linkConstant_66 : decode b_Mod_linkConstant 66 = .ok (.iload 4, 2) := by decide +kernel
theorem d_Mod_linkConstant_68 : decode b_Mod_linkConstant 68 = .ok (.bipush 12, 2) := by decide +kernel
theorem d_Mod_linkConstant_70 : decode b_Mod_linkConstant 70 = .ok (.invokevirtual 184, 3) := by decide +kernel
theorem d_Mod_linkConstant_73 : decode b_Mod_linkConstant 73 = .ok (.ifCond .eq 7, 3) := by decide +kernel
theorem d_Mod_linkConstant_76 : decode b_Mod_linkConstant 76 = .ok (.iconst 1, 1) := by decide +kernel
theorem d_Mod_linkConstant_77 : decode b_Mod_linkConstant 77 = .ok (.goto 37, 3) := by decide +kernel
theorem d_Mod_linkConstant_80 : decode b_Mod_linkConstant 80 = .ok (.iconst 0, 1) := by decide +kernel
theorem d_Mod_linkConstant_81 : decode b_Mod_linkConstant 81 = .ok (.goto 33, 3) := by decide +kernel
theorem d_Mod_linkConstant_84 : decode b_Mod_linkConstant 84 = .ok (.iload_n 2, 1) := by decide +kernel
theorem d_Mod_linkConstant_85 : decode b_Mod_linkConstant 85 = .ok (.bipush 12, 2) := by decide +kernel
theorem d_Mod_linkConstant_87 : decode b_Mod_linkConstant 87 = .ok (.if_icmp .ne 22, 3) := by decide +kernel
theorem d_Mod_linkConstant_90 : decode b_Mod_linkConstant 90 = .ok (.aload_n 0, 1) := by decide +kernel
theorem d_Mod_linkConstant_91 : decode b_Mod_linkConstant 91 = .ok (.iload_n 3, 1) := by decide +kernel
theorem d_Mod_linkConstant_92 : decode b_Mod_linkConstant 92 = .ok (.iconst 1, 1) := by decide +kernel
theorem d_Mod_linkConstant_93 : decode b_Mod_linkConstant 93 = .ok (.invokevirtual 184, 3) := by decide +kernel
theorem d_Mod_linkConstant_96 : decode b_Mod_linkConstant 96 = .ok (.ifCond .eq 17, 3) := by decide +kernel
theorem d_Mod_linkConstant_99 : decode b_Mod_linkConstant 99 = .ok (.aload_n 0, 1) := by decide +kernel
theorem d_Mod_linkConstant_100 : decode b_Mod_linkConstant 100 = .ok (.iload 4, 2) := by decide +kernel
theorem d_Mod_linkConstant_102 : decode b_Mod_linkConstant 102 = .ok (.iconst 1, 1) := by decide +kernel
theorem d_Mod_linkConstant_103 : decode b_Mod_linkConstant 103 = .ok (.invokevirtual 184, 3) := by decide +kernel
theorem d_Mod_linkConstant_106 : decode b_Mod_linkConstant 106 = .ok (.ifCond .eq 7, 3) := by decide +kernel
theorem d_Mod_linkConstant_109 : decode b_Mod_linkConstant 109 = .ok (.iconst 1, 1) := by decide +kernel
theorem d_Mod_linkConstant_110 : decode b_Mod_linkConstant 110 = .ok (.goto 4, 3) := by decide +kernel
theorem d_Mod_linkConstant_113 : decode b_Mod_linkConstant 113 = .ok (.iconst 0, 1) := by decide +kernel
theorem d_Mod_linkConstant_114 : decode b_Mod_linkConstant 114 = .ok (.istore 5, 2) := by decide +kernel
theorem d_Mod_linkConstant_116 : decode b_Mod_linkConstant 116 = .ok (.iload 5, 2) := by decide +kernel
theorem d_Mod_linkConstant_118 : decode b_Mod_linkConstant 118 = .ok (.ifCond .ne 18, 3) := by decide +kernel
theorem d_Mod_linkConstant_121 : decode b_Mod_linkConstant 121 = .ok (.aload_n 0, 1) := by decide +kernel
theorem d_Mod_linkConstant_122 : decode b_Mod_linkConstant 122 = .ok (.bipush 6, 2) := by decide +kernel
theorem d_Mod_linkConstant_124 : decode b_Mod_linkConstant 124 = .ok (.aload_n 0, 1) := by decide +kernel
theorem d_Mod_linkConstant_125 : decode b_Mod_linkConstant 125 = .ok (.getfield 35, 3) := by decide +kernel
theorem d_Mod_linkConstant_128 : decode b_Mod_linkConstant 128 = .ok (.iload_n 1, 1) := by decide +kernel
theorem d_Mod_linkConstant_129 : decode b_Mod_linkConstant 129 = .ok (.iaload, 1) := by decide +kernel
theorem d_Mod_linkConstant_130 : decode b_Mod_linkConstant 130 = .ok (.invokevirtual 159, 3) := by decide +kernel
theorem d_Mod_linkConstant_133 : decode b_Mod_linkConstant 133 = .ok (.goto 147, 3) := by decide +kernel
theorem d_Mod_linkConstant_136 : decode b_Mod_linkConstant 136 = .ok (.iload_n 2, 1) := by decide +kernel
theorem d_Mod_linkConstant_137 : decode b_Mod_linkConstant 137 = .ok (.bipush 7, 2) := by decide +kernel
theorem d_Mod_linkConstant_139 : decode b_Mod_linkConstant 139 = .ok (.if_icmp .ne 36, 3) := by decide +kernel
theorem d_Mod_linkConstant_142 : decode b_Mod_linkConstant 142 = .ok (.aload_n 0, 1) := by decide +kernel
theorem d_Mod_linkConstant_143 : decode b_Mod_linkConstant 143 = .ok (.aload_n 0, 1) := by decide +kernel
theorem d_Mod_linkConstant_144 : decode b_Mod_linkConstant 144 = .ok (.getfield 38, 3) := by decide +kernel
theorem d_Mod_linkConstant_147 : decode b_Mod_linkConstant 147 = .ok (.iload_n 3, 1) := by decide +kernel
theorem d_Mod_linkConstant_148 : decode b_Mod_linkConstant 148 = .ok (.iaload, 1) := by decide +kernel
theorem d_Mod_linkConstant_149 : decode b_Mod_linkConstant 149 = .ok (.aload_n 0, 1) := by decide +kernel
theorem d_Mod_linkConstant_150 : decode b_Mod_linkConstant 150 = .ok (.iload_n 3, 1) := by decide +kernel
theorem d_Mod_linkConstant_151 : decode b_Mod_linkConstant 151 = .ok (.invokevirtual 254, 3) := by decide +kernel
theorem d_Mod_linkConstant_154 : decode b_Mod_linkConstant 154 = .ok (.invokevirtual 244, 3) := by decide +kernel
theorem d_Mod_linkConstant_157 : decode b_Mod_linkConstant 157 = .ok (.ifCond .ne 18, 3) := by decide +kernel
theorem d_Mod_linkConstant_160 : decode b_Mod_linkConstant 160 = .ok (.aload_n 0, 1) := by decide +kernel
theorem d_Mod_linkConstant_161 : decode b_Mod_linkConstant 161 = .ok (.bipush 10, 2) := by decide +kernel
theorem d_Mod_linkConstant_163 : decode b_Mod_linkConstant 163 = .ok (.aload_n 0, 1) := by decide +kernel
theorem d_Mod_linkConstant_164 : decode b_Mod_linkConstant 164 = .ok (.getfield 35, 3) := by decide +kernel
theorem d_Mod_linkConstant_167 : decode b_Mod_linkConstant 167 = .ok (.iload_n 1, 1) := by decide +kernel
theorem d_Mod_linkConstant_168 : decode b_Mod_linkConstant 168 = .ok (.iaload, 1) := by decide +kernel
theorem d_Mod_linkConstant_169 : decode b_Mod_linkConstant 169 = .ok (.invokevirtual 159, 3) := by decide +kernel
theorem d_Mod_linkConstant_172 : decode b_Mod_linkConstant 172 = .ok (.goto 108, 3) := by decide +kernel
theorem d_Mod_linkConstant_175 : decode b_Mod_linkConstant 175 = .ok (.iload_n 2, 1) := by decide +kernel
theorem d_Mod_linkConstant_176 : decode b_Mod_linkConstant 176 = .ok (.bipush 12, 2) := by decide +kernel
theorem d_Mod_linkConstant_178 : decode b_Mod_linkConstant 178 = .ok (.if_icmp .ne 44, 3) := by decide +kernel
theorem d_Mod_linkConstant_181 : decode b_Mod_linkConstant 181 = .ok (.aload_n 0, 1) := by decide +kernel
theorem d_Mod_linkConstant_182 : decode b_Mod_linkConstant 182 = .ok (.aload_n 0, 1) := by decide +kernel
theorem d_Mod_linkConstant_183 : decode b_Mod_linkConstant 183 = .ok (.getfield 38, 3) := by decide +kernel
theorem d_Mod_linkConstant_186 : decode b_Mod_linkConstant 186 = .ok (.iload_n 3, 1) := by decide +kernel
theorem d_Mod_linkConstant_187 : decode b_Mod_linkConstant 187 = .ok (.iaload, 1) := by decide +kernel
theorem d_Mod_linkConstant_188 : decode b_Mod_linkConstant 188 = .ok (.aload_n 0, 1) := by decide +kernel
theorem d_Mod_linkConstant_189 : decode b_Mod_linkConstant 189 = .ok (.iload_n 3, 1) := by decide +kernel
theorem d_Mod_linkConstant_190 : decode b_Mod_linkConstant 190 = .ok (.invokevirtual 254, 3) := by decide +kernel
theorem d_Mod_linkConstant_193 : decode b_Mod_linkConstant 193 = .ok (.invokevirtual 241, 3) := by decide +kernel
theorem d_Mod_linkConstant_196 : decode b_Mod_linkConstant 196 = .ok (.ifCond .ne 26, 3) := by decide +kernel
theorem d_Mod_linkConstant_199 : decode b_Mod_linkConstant 199 = .ok (.aload_n 0, 1) := by decide +kernel
theorem d_Mod_linkConstant_200 : decode b_Mod_linkConstant 200 = .ok (.iload_n 3, 1) := by decide +kernel
theorem d_Mod_linkConstant_201 : decode b_Mod_linkConstant 201 = .ok (.invokevirtual 258, 3) := by decide +kernel
theorem d_Mod_linkConstant_204 : decode b_Mod_linkConstant 204 = .ok (.ifCond .ne 18, 3) := by decide +kernel
theorem d_Mod_linkConstant_207 : decode b_Mod_linkConstant 207 = .ok (.aload_n 0, 1) := by decide +kernel
theorem d_Mod_linkConstant_208 : decode b_Mod_linkConstant 208 = .ok (.bipush 10, 2) := by decide +kernel
theorem d_Mod_linkConstant_210 : decode b_Mod_linkConstant 210 = .ok (.aload_n 0, 1) := by decide +kernel
theorem d_Mod_linkConstant_211 : decode b_Mod_linkConstant 211 = .ok (.getfield 35, 3) := by decide +kernel
theorem d_Mod_linkConstant_214 : decode b_Mod_linkConstant 214 = .ok (.iload_n 1, 1) := by decide +kernel
theorem d_Mod_linkConstant_215 : decode b_Mod_linkConstant 215 = .ok (.iaload, 1) := by decide +kernel
theorem d_Mod_linkConstant_216 : decode b_Mod_linkConstant 216 = .ok (.invokevirtual 159, 3) := by decide +kernel
theorem d_Mod_linkConstant_219 : decode b_Mod_linkConstant 219 = .ok (.goto 61, 3) := by decide +kernel
theorem d_Mod_linkConstant_222 : decode b_Mod_linkConstant 222 = .ok (.iload_n 2, 1) := by decide +kernel
theorem d_Mod_linkConstant_223 : decode b_Mod_linkConstant 223 = .ok (.bipush 12, 2) := by decide +kernel
theorem d_Mod_linkConstant_225 : decode b_Mod_linkConstant 225 = .ok (.if_icmp .ne 55, 3) := by decide +kernel
theorem d_Mod_linkConstant_228 : decode b_Mod_linkConstant 228 = .ok (.aload_n 0, 1) := by decide +kernel
theorem d_Mod_linkConstant_229 : decode b_Mod_linkConstant 229 = .ok (.aload_n 0, 1) := by decide +kernel
theorem d_Mod_linkConstant_230 : decode b_Mod_linkConstant 230 = .ok (.getfield 38, 3) := by decide +kernel
theorem d_Mod_linkConstant_233 : decode b_Mod_linkConstant 233 = .ok (.iload 4, 2) := by decide +kernel
theorem d_Mod_linkConstant_235 : decode b_Mod_linkConstant 235 = .ok (.iaload, 1) := by decide +kernel
theorem d_Mod_linkConstant_236 : decode b_Mod_linkConstant 236 = .ok (.aload_n 0, 1) := by decide +kernel
theorem d_Mod_linkConstant_237 : decode b_Mod_linkConstant 237 = .ok (.iload 4, 2) := by decide +kernel
theorem d_Mod_linkConstant_239 : decode b_Mod_linkConstant 239 = .ok (.invokevirtual 254, 3) := by decide +kernel
theorem d_Mod_linkConstant_242 : decode b_Mod_linkConstant 242 = .ok (.invokevirtual 251, 3) := by decide +kernel
theorem d_Mod_linkConstant_245 : decode b_Mod_linkConstant 245 = .ok (.ifCond .ne 35, 3) := by decide +kernel
theorem d_Mod_linkConstant_248 : decode b_Mod_linkConstant 248 = .ok (.aload_n 0, 1) := by decide +kernel
theorem d_Mod_linkConstant_249 : decode b_Mod_linkConstant 249 = .ok (.aload_n 0, 1) := by decide +kernel
theorem d_Mod_linkConstant_250 : decode b_Mod_linkConstant 250 = .ok (.getfield 38, 3) := by decide +kernel
theorem d_Mod_linkConstant_253 : decode b_Mod_linkConstant 253 = .ok (.iload 4, 2) := by decide +kernel
theorem d_Mod_linkConstant_255 : decode b_Mod_linkConstant 255 = .ok (.iaload, 1) := by decide +kernel
theorem d_Mod_linkConstant_256 : decode b_Mod_linkConstant 256 = .ok (.aload_n 0, 1) := by decide +kernel
theorem d_Mod_linkConstant_257 : decode b_Mod_linkConstant 257 = .ok (.iload 4, 2) := by decide +kernel
theorem d_Mod_linkConstant_259 : decode b_Mod_linkConstant 259 = .ok (.invokevirtual 254, 3) := by decide +kernel
theorem d_Mod_linkConstant_262 : decode b_Mod_linkConstant 262 = .ok (.invokevirtual 261, 3) := by decide +kernel
theorem d_Mod_linkConstant_265 : decode b_Mod_linkConstant 265 = .ok (.ifCond .ne 15, 3) := by decide +kernel
theorem d_Mod_linkConstant_268 : decode b_Mod_linkConstant 268 = .ok (.aload_n 0, 1) := by decide +kernel
theorem d_Mod_linkConstant_269 : decode b_Mod_linkConstant 269 = .ok (.bipush 11, 2) := by decide +kernel
theorem d_Mod_linkConstant_271 : decode b_Mod_linkConstant 271 = .ok (.aload_n 0, 1) := by decide +kernel
theorem d_Mod_linkConstant_272 : decode b_Mod_linkConstant 272 = .ok (.getfield 35, 3) := by decide +kernel
theorem d_Mod_linkConstant_275 : decode b_Mod_linkConstant 275 = .ok (.iload_n 1, 1) := by decide +kernel
theorem d_Mod_linkConstant_276 : decode b_Mod_linkConstant 276 = .ok (.iaload, 1) := by decide +kernel
theorem d_Mod_linkConstant_277 : decode b_Mod_linkConstant 277 = .ok (.invokevirtual 159, 3) := by decide +kernel
theorem d_Mod_linkConstant_280 : decode b_Mod_linkConstant 280 = .ok (.return_, 1) := by decide +kernel
end
section
set_option maxHeartbeats 4000000 in
set_option maxRecDepth 100000 in
theorem g_Mod_linkConstant (l : Launch) (g : tw_G) (sz : Nat) (h0 : Nat) (q : Nat → Nat) (rf : Int32) (n : Nat) (mm : Int32) (mb : Int32) (av : Nat) (ev : Nat) (wi : Int32) (mn : Nat) (tp : Int32) (tc : Int32) (sc : Int32) (nf : Nat) (fd : Nat) (me : Nat) (mp : Int32) (xn : Nat) (mt : Nat) (wh : Nat) (tq : Nat) (ag : Nat) (an : Int32) (ig : Int32) (bs : Nat → Int32) (tg : Nat → Int32) (tl : Nat → Int32) (on : Nat → Int32) (tw : Nat → Int32) (fa : Int32) (fp : Int32) (k : Nat) (hmn : mn ≤ 620) (hTX : TXT tg on tw) (hk6 : k < 620) (hf0 : fa = 0) : Met l y_Mod_linkConstant [.code y_Mod_linkConstant b_Mod_linkConstant 6 none] ({ frames := 6, cells := 0, slots := 0, locals := 139 }) (tw_P g [.ref h0, .int (nI k)] [(h0, .inr (10, mob q rf n mm mb fa fp av ev wi mn tp tc sc nf fd me mp xn mt wh tq ag an ig)), ((q 2), aI g 600 bs), ((q 14), aI g 620 tg), ((q 15), aI g 620 tl), ((q 16), aI g 620 on), ((q 17), aI g 620 tw)] sz) (tw_Qv g (fun (u : Int32 × Int32) => (u.1 = 0 → fa = 0) ∧ (u.1 = 0 → LC1 mn tg on tw k)) (fun u : Int32 × Int32 => [(h0, .inr (10, mob q rf n mm mb u.1 u.2 av ev wi mn tp tc sc nf fd me mp xn mt wh tq ag an ig)), ((q 2), aI g 600 bs), ((q 14), aI g 620 tg), ((q 15), aI g 620 tl), ((q 16), aI g 620 on), ((q 17), aI g 620 tw)]) (va_A [(h0, .inr (10, mob q rf n mm mb fa fp av ev wi mn tp tc sc nf fd me mp xn mt wh tq ag an ig)), ((q 2), aI g 600 bs), ((q 14), aI g 620 tg), ((q 15), aI g 620 tl), ((q 16), aI g 620 on), ((q 17), aI g 620 tw)] sz)) 0 0 (va_A [(h0, .inr (10, mob q rf n mm mb fa fp av ev wi mn tp tc sc nf fd me mp xn mt wh tq ag an ig)), ((q 2), aI g 600 bs), ((q 14), aI g 620 tg), ((q 15), aI g 620 tl), ((q 16), aI g 620 on), ((q 17), aI g 620 tw)] sz) := by
  refine tw_metW (l := l) (g := g) (y := y_Mod_linkConstant) (cc := b_Mod_linkConstant) (maxL := 6) (ret := none) (rm := { frames := 6, cells := 0, slots := 0, locals := 139 }) (mc := 0) (ms := 0) (av := [.ref h0, .int (nI k)]) (ws := [(h0, .inr (10, mob q rf n mm mb fa fp av ev wi mn tp tc sc nf fd me mp xn mt wh tq ag an ig)), ((q 2), aI g 600 bs), ((q 14), aI g 620 tg), ((q 15), aI g 620 tl), ((q 16), aI g 620 on), ((q 17), aI g 620 tw)]) (sz := sz) (Qc := fun A => (tw_Qv g (fun (u : Int32 × Int32) => (u.1 = 0 → fa = 0) ∧ (u.1 = 0 → LC1 mn tg on tw k)) (fun u : Int32 × Int32 => [(h0, .inr (10, mob q rf n mm mb u.1 u.2 av ev wi mn tp tc sc nf fd me mp xn mt wh tq ag an ig)), ((q 2), aI g 600 bs), ((q 14), aI g 620 tg), ((q 15), aI g 620 tl), ((q 16), aI g 620 on), ((q 17), aI g 620 tw)]) A)) (by decide) (Nat.le_of_ble_eq_true rfl) ?_
  intro p e s m below meth c ls H A E hB hK hZ hP hD hS hA hl
  obtain ⟨hx, hb, hml, hr, hown, hts, hlocks, hin⟩ := id E
  have hl : lv_has ls 6 [(0, .ref h0), (1, .int (nI k))] := hl
  refine lv_aload_n hx hb d_Mod_linkConstant_0 rfl (lv_at hl 0 rfl) ?_
  refine va_get (D := g.1) (ci := 10) (v := .ref (q 14)) (C := R_Mod) (T := F_Mod) (N := 61) hx hb hts in_Mod hown hK hP 0 rfl rfl 14 (by decide) (hts _ wd_1264) (fun _ h9 => h9) rfl d_Mod_linkConstant_1 ?_
  refine lv_iload_n hx hb d_Mod_linkConstant_4 rfl (lv_at hl 1 rfl) ?_
  refine va_iald hx hb hK hP 2 0 rfl rfl (vp_in_nI (by omega) (by decide)) d_Mod_linkConstant_5 ?_
  refine tw_ri (e2 := tg k) (by rw [nI_clamp (by omega)]) ?_
  refine lv_istore_n hx hb d_Mod_linkConstant_6 rfl hl (by decide) rfl (fun ls hl => ?_)
  have hl : lv_has ls 6 [(2, .int (tg k)), (0, .ref h0), (1, .int (nI k))] := hl
  refine lv_aload_n hx hb d_Mod_linkConstant_7 rfl (lv_at hl 1 rfl) ?_
  refine va_get (D := g.1) (ci := 10) (v := .ref (q 16)) (C := R_Mod) (T := F_Mod) (N := 61) hx hb hts in_Mod hown hK hP 0 rfl rfl 16 (by decide) (hts _ wd_1266) (fun _ h9 => h9) rfl d_Mod_linkConstant_8 ?_
  refine lv_iload_n hx hb d_Mod_linkConstant_11 rfl (lv_at hl 2 rfl) ?_
  refine va_iald hx hb hK hP 4 0 rfl rfl (vp_in_nI (by omega) (by decide)) d_Mod_linkConstant_12 ?_
  obtain ⟨xa, exa⟩ : ∃ z : Int32, on k = z := ⟨_, rfl⟩
  refine tw_ri (e2 := xa) (by rw [nI_clamp (by omega)]; exact exa) ?_
  refine lv_istore_n hx hb d_Mod_linkConstant_13 rfl hl (by decide) rfl (fun ls hl => ?_)
  have hl : lv_has ls 6 [(3, .int xa), (2, .int (tg k)), (0, .ref h0), (1, .int (nI k))] := hl
  refine lv_aload_n hx hb d_Mod_linkConstant_14 rfl (lv_at hl 2 rfl) ?_
  refine va_get (D := g.1) (ci := 10) (v := .ref (q 17)) (C := R_Mod) (T := F_Mod) (N := 61) hx hb hts in_Mod hown hK hP 0 rfl rfl 17 (by decide) (hts _ wd_1267) (fun _ h9 => h9) rfl d_Mod_linkConstant_15 ?_
  refine lv_iload_n hx hb d_Mod_linkConstant_18 rfl (lv_at hl 3 rfl) ?_
  refine va_iald hx hb hK hP 5 0 rfl rfl (vp_in_nI (by omega) (by decide)) d_Mod_linkConstant_19 ?_
  obtain ⟨xb2, exb2⟩ : ∃ z : Int32, tw k = z := ⟨_, rfl⟩
  refine tw_ri (e2 := xb2) (by rw [nI_clamp (by omega)]; exact exb2) ?_
  refine lv_istore hx hb d_Mod_linkConstant_20 hl (by decide) rfl (fun ls hl => ?_)
  have hl : lv_has ls 6 [(4, .int xb2), (3, .int xa), (2, .int (tg k)), (0, .ref h0), (1, .int (nI k))] := hl
  refine lv_iload_n hx hb d_Mod_linkConstant_22 rfl (lv_at hl 2 rfl) ?_
  refine lv_bipush (v := 7) hx hb d_Mod_linkConstant_23 (by decide) ?_
  refine lv_icmp_eq (tgt := 34) hx hb d_Mod_linkConstant_25 (by decide) (fun h25 => ?_) (fun h25 => ?_)
  · refine lv_aload_n hx hb d_Mod_linkConstant_34 rfl (lv_at hl 3 rfl) ?_
    refine lv_iload_n hx hb d_Mod_linkConstant_35 rfl (lv_at hl 1 rfl) ?_
    refine lv_iconst (v := 1) hx hb d_Mod_linkConstant_36 (by decide) ?_
    refine tw_si (tw_runV (ws := [(h0, .inr (10, mob q rf n mm mb fa fp av ev wi mn tp tc sc nf fd me mp xn mt wh tq ag an ig)), ((q 2), aI g 600 bs), ((q 14), aI g 620 tg), ((q 15), aI g 620 tl), ((q 16), aI g 620 on), ((q 17), aI g 620 tw)]) (wc := [(h0, .inr (10, mob q rf n mm mb fa fp av ev wi mn tp tc sc nf fd me mp xn mt wh tq ag an ig)), ((q 14), aI g 620 tg)]) (As := [.int xa, .int 1]) (rest := []) E hB hK hZ (g_Mod_isTagI l g H.size h0 q rf n mm mb fa fp av ev wi mn tp tc sc nf fd me mp xn mt wh tq ag an ig tg xa 1 (by omega)) mc_Mod_isTag mi_Mod_isTag me_Mod_isTag wd_1508 hP hD hS hA [0, 2] rfl (by decide) 0 rfl rfl rfl rfl rfl (by decide) rfl hl.1 rfl (Nat.le_of_ble_eq_true rfl) (by decide) d_Mod_linkConstant_37) (fun r1 hr1 => ?_)
    have hB1 := hr1
    refine lv_goto (tgt := 114) hx hb d_Mod_linkConstant_40 (by decide) ?_
    refine lv_istore hx hb d_Mod_linkConstant_114 hl (by decide) rfl (fun ls hl => ?_)
    have hl : lv_has ls 6 [(5, .int r1), (4, .int xb2), (3, .int xa), (2, .int (tg k)), (0, .ref h0), (1, .int (nI k))] := hl
    refine lv_iload hx hb d_Mod_linkConstant_116 (lv_at hl 0 rfl) ?_
    refine lv_if_ne (tgt := 136) hx hb d_Mod_linkConstant_118 (by decide) (fun h118 => ?_) (fun h118 => ?_)
    · have hT118 := hB1.2 (hB1.1.resolve_left h118)
      obtain ⟨ja, ja0, ja1, jae, jat⟩ := hT118
      subst jae
      obtain ⟨pa, la, paa, pab, pac⟩ := hTX ja (by omega) jat
      refine lv_iload_n hx hb d_Mod_linkConstant_136 rfl (lv_at hl 3 rfl) ?_
      refine lv_bipush (v := 7) hx hb d_Mod_linkConstant_137 (by decide) ?_
      refine lv_icmp_ne (tgt := 175) hx hb d_Mod_linkConstant_139 (by decide) (fun h139 => ?_) (fun h139 => ?_)
      · exact absurd h25 h139
      · refine lv_aload_n hx hb d_Mod_linkConstant_142 rfl (lv_at hl 4 rfl) ?_
        refine lv_aload_n hx hb d_Mod_linkConstant_143 rfl (lv_at hl 4 rfl) ?_
        refine va_get (D := g.1) (ci := 10) (v := .ref (q 16)) (C := R_Mod) (T := F_Mod) (N := 61) hx hb hts in_Mod hown hK hP 0 rfl rfl 16 (by decide) (hts _ wd_1266) (fun _ h9 => h9) rfl d_Mod_linkConstant_144 ?_
        refine lv_iload_n hx hb d_Mod_linkConstant_147 rfl (lv_at hl 2 rfl) ?_
        refine va_iald hx hb hK hP 4 0 rfl rfl (vp_in_nI (by omega) (by decide)) d_Mod_linkConstant_148 ?_
        refine tw_ri (e2 := nI pa) (by rw [nI_clamp (by omega)]; exact paa) ?_
        refine lv_aload_n hx hb d_Mod_linkConstant_149 rfl (lv_at hl 4 rfl) ?_
        refine lv_iload_n hx hb d_Mod_linkConstant_150 rfl (lv_at hl 2 rfl) ?_
        refine tw_si (tw_runV (ws := [(h0, .inr (10, mob q rf n mm mb fa fp av ev wi mn tp tc sc nf fd me mp xn mt wh tq ag an ig)), ((q 2), aI g 600 bs), ((q 14), aI g 620 tg), ((q 15), aI g 620 tl), ((q 16), aI g 620 on), ((q 17), aI g 620 tw)]) (wc := [(h0, .inr (10, mob q rf n mm mb fa fp av ev wi mn tp tc sc nf fd me mp xn mt wh tq ag an ig)), ((q 16), aI g 620 on), ((q 17), aI g 620 tw)]) (As := [.int (nI ja)]) (rest := [.int (nI pa), .ref h0]) E hB hK hZ (g_Mod_endOf l g H.size h0 q rf n mm mb fa fp av ev wi mn tp tc sc nf fd me mp xn mt wh tq ag an ig on tw ja pa la (by omega) paa pab pac) mc_Mod_endOf mi_Mod_endOf me_Mod_endOf wd_1536 hP hD hS hA [0, 4, 5] rfl (by decide) 0 rfl rfl rfl rfl rfl (by decide) rfl hl.1 rfl (Nat.le_of_ble_eq_true rfl) (by decide) d_Mod_linkConstant_151) (fun r2 hr2 => ?_)
        have hB2 := hr2
        subst hB2
        refine tw_si (tw_runV (ws := [(h0, .inr (10, mob q rf n mm mb fa fp av ev wi mn tp tc sc nf fd me mp xn mt wh tq ag an ig)), ((q 2), aI g 600 bs), ((q 14), aI g 620 tg), ((q 15), aI g 620 tl), ((q 16), aI g 620 on), ((q 17), aI g 620 tw)]) (wc := [(h0, .inr (10, mob q rf n mm mb fa fp av ev wi mn tp tc sc nf fd me mp xn mt wh tq ag an ig)), ((q 2), aI g 600 bs)]) (As := [.int (nI pa), .int (nI (pa + la))]) (rest := []) E hB hK hZ (g_Mod_isClassName l g H.size h0 q rf n mm mb fa fp av ev wi mn tp tc sc nf fd me mp xn mt wh tq ag an ig bs pa (pa + la) (by omega) (by omega)) mc_Mod_isClassName mi_Mod_isClassName me_Mod_isClassName wd_1540 hP hD hS hA [0, 1] rfl (by decide) 0 rfl rfl rfl rfl rfl (by decide) rfl hl.1 rfl (Nat.le_of_ble_eq_true rfl) (by decide) d_Mod_linkConstant_154) (fun r3 hr3 => ?_)
        have hB3 := hr3
        refine lv_if_ne (tgt := 175) hx hb d_Mod_linkConstant_157 (by decide) (fun h157 => ?_) (fun h157 => ?_)
        · refine lv_iload_n hx hb d_Mod_linkConstant_175 rfl (lv_at hl 3 rfl) ?_
          refine lv_bipush (v := 12) hx hb d_Mod_linkConstant_176 (by decide) ?_
          refine lv_icmp_ne (tgt := 222) hx hb d_Mod_linkConstant_178 (by decide) (fun h178 => ?_) (fun h178 => ?_)
          · refine lv_iload_n hx hb d_Mod_linkConstant_222 rfl (lv_at hl 3 rfl) ?_
            refine lv_bipush (v := 12) hx hb d_Mod_linkConstant_223 (by decide) ?_
            refine lv_icmp_ne (tgt := 280) hx hb d_Mod_linkConstant_225 (by decide) (fun h225 => ?_) (fun h225 => ?_)
            · exact tw_vret E hS (fa, fp) (⟨(fun h => h), (fun _ => by exact LC1.a h25 ⟨ja, ja0, ja1, exa, jat⟩)⟩) hP hD d_Mod_linkConstant_280
            · exact absurd (h25.symm.trans h225) (by decide)
          · exact absurd (h25.symm.trans h178) (by decide)
        · refine lv_aload_n hx hb d_Mod_linkConstant_160 rfl (lv_at hl 4 rfl) ?_
          refine lv_bipush (v := 10) hx hb d_Mod_linkConstant_161 (by decide) ?_
          refine lv_aload_n hx hb d_Mod_linkConstant_163 rfl (lv_at hl 4 rfl) ?_
          refine va_get (D := g.1) (ci := 10) (v := .ref (q 15)) (C := R_Mod) (T := F_Mod) (N := 61) hx hb hts in_Mod hown hK hP 0 rfl rfl 15 (by decide) (hts _ wd_1265) (fun _ h9 => h9) rfl d_Mod_linkConstant_164 ?_
          refine lv_iload_n hx hb d_Mod_linkConstant_167 rfl (lv_at hl 5 rfl) ?_
          refine va_iald hx hb hK hP 3 0 rfl rfl (vp_in_nI (by omega) (by decide)) d_Mod_linkConstant_168 ?_
          obtain ⟨x4, ex4⟩ : ∃ z : Int32, tl ((nI k).toNatClampNeg) = z := ⟨_, rfl⟩
          refine tw_ri (e2 := x4) ex4 ?_
          refine tw_wv (wr := [((q 2), aI g 600 bs), ((q 14), aI g 620 tg), ((q 15), aI g 620 tl), ((q 16), aI g 620 on), ((q 17), aI g 620 tw)]) (tw_runV (ws := [(h0, .inr (10, mob q rf n mm mb fa fp av ev wi mn tp tc sc nf fd me mp xn mt wh tq ag an ig)), ((q 2), aI g 600 bs), ((q 14), aI g 620 tg), ((q 15), aI g 620 tl), ((q 16), aI g 620 on), ((q 17), aI g 620 tw)]) (wc := [(h0, .inr (10, mob q rf n mm mb fa fp av ev wi mn tp tc sc nf fd me mp xn mt wh tq ag an ig))]) (As := [.int 10, .int x4]) (rest := []) E hB hK hZ (g_Mod_fail l g H.size h0 q rf n mm mb av ev wi mn tp tc sc nf fd me mp xn mt wh tq ag an ig fa fp 10 x4 (by decide)) mc_Mod_fail mi_Mod_fail me_Mod_fail wd_1478 hP hD hS hA [0] rfl (by decide) 0 rfl rfl rfl rfl rfl (by decide) rfl hl.1 rfl (Nat.le_of_ble_eq_true rfl) (by decide) d_Mod_linkConstant_169) hP hD hS hA [0] [1, 2, 3, 4, 5] rfl rfl (by decide) (by decide) (fun u6 H locs hr5 hP hD hS => ?_)
          try dsimp only at hr5
          have hP : va_P g.1 classes [((q 2), aI g 600 bs), ((q 14), aI g 620 tg), ((q 15), aI g 620 tl), ((q 16), aI g 620 on), ((q 17), aI g 620 tw), (h0, .inr (10, mob q rf n mm mb u6.1 u6.2 av ev wi mn tp tc sc nf fd me mp xn mt wh tq ag an ig))] H := hP
          have hD : va_D A [((q 2), aI g 600 bs), ((q 14), aI g 620 tg), ((q 15), aI g 620 tl), ((q 16), aI g 620 on), ((q 17), aI g 620 tw), (h0, .inr (10, mob q rf n mm mb u6.1 u6.2 av ev wi mn tp tc sc nf fd me mp xn mt wh tq ag an ig))] := hD
          have hP : va_P g.1 classes [(h0, .inr (10, mob q rf n mm mb u6.1 u6.2 av ev wi mn tp tc sc nf fd me mp xn mt wh tq ag an ig)), ((q 2), aI g 600 bs), ((q 14), aI g 620 tg), ((q 15), aI g 620 tl), ((q 16), aI g 620 on), ((q 17), aI g 620 tw)] H := hP.sub [5, 0, 1, 2, 3, 4] rfl
          have hD : va_D A [(h0, .inr (10, mob q rf n mm mb u6.1 u6.2 av ev wi mn tp tc sc nf fd me mp xn mt wh tq ag an ig)), ((q 2), aI g 600 bs), ((q 14), aI g 620 tg), ((q 15), aI g 620 tl), ((q 16), aI g 620 on), ((q 17), aI g 620 tw)] := hD.sub [5, 0, 1, 2, 3, 4] (by decide) rfl
          have hp6_0 := hr5
          refine lv_goto (tgt := 280) hx hb d_Mod_linkConstant_172 (by decide) ?_
          exact tw_vret E hS (u6.1, u6.2) (⟨(fun h => absurd h hp6_0), (fun h => absurd h hp6_0)⟩) hP hD d_Mod_linkConstant_280
    · refine lv_aload_n hx hb d_Mod_linkConstant_121 rfl (lv_at hl 4 rfl) ?_
      refine lv_bipush (v := 6) hx hb d_Mod_linkConstant_122 (by decide) ?_
      refine lv_aload_n hx hb d_Mod_linkConstant_124 rfl (lv_at hl 4 rfl) ?_
      refine va_get (D := g.1) (ci := 10) (v := .ref (q 15)) (C := R_Mod) (T := F_Mod) (N := 61) hx hb hts in_Mod hown hK hP 0 rfl rfl 15 (by decide) (hts _ wd_1265) (fun _ h9 => h9) rfl d_Mod_linkConstant_125 ?_
      refine lv_iload_n hx hb d_Mod_linkConstant_128 rfl (lv_at hl 5 rfl) ?_
      refine va_iald hx hb hK hP 3 0 rfl rfl (vp_in_nI (by omega) (by decide)) d_Mod_linkConstant_129 ?_
      obtain ⟨x7, ex7⟩ : ∃ z : Int32, tl ((nI k).toNatClampNeg) = z := ⟨_, rfl⟩
      refine tw_ri (e2 := x7) ex7 ?_
      refine tw_wv (wr := [((q 2), aI g 600 bs), ((q 14), aI g 620 tg), ((q 15), aI g 620 tl), ((q 16), aI g 620 on), ((q 17), aI g 620 tw)]) (tw_runV (ws := [(h0, .inr (10, mob q rf n mm mb fa fp av ev wi mn tp tc sc nf fd me mp xn mt wh tq ag an ig)), ((q 2), aI g 600 bs), ((q 14), aI g 620 tg), ((q 15), aI g 620 tl), ((q 16), aI g 620 on), ((q 17), aI g 620 tw)]) (wc := [(h0, .inr (10, mob q rf n mm mb fa fp av ev wi mn tp tc sc nf fd me mp xn mt wh tq ag an ig))]) (As := [.int 6, .int x7]) (rest := []) E hB hK hZ (g_Mod_fail l g H.size h0 q rf n mm mb av ev wi mn tp tc sc nf fd me mp xn mt wh tq ag an ig fa fp 6 x7 (by decide)) mc_Mod_fail mi_Mod_fail me_Mod_fail wd_1478 hP hD hS hA [0] rfl (by decide) 0 rfl rfl rfl rfl rfl (by decide) rfl hl.1 rfl (Nat.le_of_ble_eq_true rfl) (by decide) d_Mod_linkConstant_130) hP hD hS hA [0] [1, 2, 3, 4, 5] rfl rfl (by decide) (by decide) (fun u9 H locs hr8 hP hD hS => ?_)
      try dsimp only at hr8
      have hP : va_P g.1 classes [((q 2), aI g 600 bs), ((q 14), aI g 620 tg), ((q 15), aI g 620 tl), ((q 16), aI g 620 on), ((q 17), aI g 620 tw), (h0, .inr (10, mob q rf n mm mb u9.1 u9.2 av ev wi mn tp tc sc nf fd me mp xn mt wh tq ag an ig))] H := hP
      have hD : va_D A [((q 2), aI g 600 bs), ((q 14), aI g 620 tg), ((q 15), aI g 620 tl), ((q 16), aI g 620 on), ((q 17), aI g 620 tw), (h0, .inr (10, mob q rf n mm mb u9.1 u9.2 av ev wi mn tp tc sc nf fd me mp xn mt wh tq ag an ig))] := hD
      have hP : va_P g.1 classes [(h0, .inr (10, mob q rf n mm mb u9.1 u9.2 av ev wi mn tp tc sc nf fd me mp xn mt wh tq ag an ig)), ((q 2), aI g 600 bs), ((q 14), aI g 620 tg), ((q 15), aI g 620 tl), ((q 16), aI g 620 on), ((q 17), aI g 620 tw)] H := hP.sub [5, 0, 1, 2, 3, 4] rfl
      have hD : va_D A [(h0, .inr (10, mob q rf n mm mb u9.1 u9.2 av ev wi mn tp tc sc nf fd me mp xn mt wh tq ag an ig)), ((q 2), aI g 600 bs), ((q 14), aI g 620 tg), ((q 15), aI g 620 tl), ((q 16), aI g 620 on), ((q 17), aI g 620 tw)] := hD.sub [5, 0, 1, 2, 3, 4] (by decide) rfl
      have hp9_0 := hr8
      refine lv_goto (tgt := 280) hx hb d_Mod_linkConstant_133 (by decide) ?_
      exact tw_vret E hS (u9.1, u9.2) (⟨(fun h => absurd h hp9_0), (fun h => absurd h hp9_0)⟩) hP hD d_Mod_linkConstant_280
  · refine lv_iload_n hx hb d_Mod_linkConstant_28 rfl (lv_at hl 2 rfl) ?_
    refine lv_bipush (v := 8) hx hb d_Mod_linkConstant_29 (by decide) ?_
    refine lv_icmp_ne (tgt := 43) hx hb d_Mod_linkConstant_31 (by decide) (fun h31 => ?_) (fun h31 => ?_)
    · refine lv_iload_n hx hb d_Mod_linkConstant_43 rfl (lv_at hl 2 rfl) ?_
      refine lv_bipush (v := 9) hx hb d_Mod_linkConstant_44 (by decide) ?_
      refine lv_icmp_eq (tgt := 55) hx hb d_Mod_linkConstant_46 (by decide) (fun h46 => ?_) (fun h46 => ?_)
      · refine lv_aload_n hx hb d_Mod_linkConstant_55 rfl (lv_at hl 3 rfl) ?_
        refine lv_iload_n hx hb d_Mod_linkConstant_56 rfl (lv_at hl 1 rfl) ?_
        refine lv_bipush (v := 7) hx hb d_Mod_linkConstant_57 (by decide) ?_
        refine tw_si (tw_runV (ws := [(h0, .inr (10, mob q rf n mm mb fa fp av ev wi mn tp tc sc nf fd me mp xn mt wh tq ag an ig)), ((q 2), aI g 600 bs), ((q 14), aI g 620 tg), ((q 15), aI g 620 tl), ((q 16), aI g 620 on), ((q 17), aI g 620 tw)]) (wc := [(h0, .inr (10, mob q rf n mm mb fa fp av ev wi mn tp tc sc nf fd me mp xn mt wh tq ag an ig)), ((q 14), aI g 620 tg)]) (As := [.int xa, .int 7]) (rest := []) E hB hK hZ (g_Mod_isTagI l g H.size h0 q rf n mm mb fa fp av ev wi mn tp tc sc nf fd me mp xn mt wh tq ag an ig tg xa 7 (by omega)) mc_Mod_isTag mi_Mod_isTag me_Mod_isTag wd_1508 hP hD hS hA [0, 2] rfl (by decide) 0 rfl rfl rfl rfl rfl (by decide) rfl hl.1 rfl (Nat.le_of_ble_eq_true rfl) (by decide) d_Mod_linkConstant_59) (fun r10 hr10 => ?_)
        have hB10 := hr10
        refine lv_if_eq (tgt := 80) hx hb d_Mod_linkConstant_62 (by decide) (fun h62 => ?_) (fun h62 => ?_)
        · refine lv_iconst (v := 0) hx hb d_Mod_linkConstant_80 (by decide) ?_
          refine lv_goto (tgt := 114) hx hb d_Mod_linkConstant_81 (by decide) ?_
          refine lv_istore hx hb d_Mod_linkConstant_114 hl (by decide) rfl (fun ls hl => ?_)
          have hl : lv_has ls 6 [(5, .int 0), (4, .int xb2), (3, .int xa), (2, .int (tg k)), (0, .ref h0), (1, .int (nI k))] := hl
          refine lv_iload hx hb d_Mod_linkConstant_116 (lv_at hl 0 rfl) ?_
          refine lv_if_ne (tgt := 136) hx hb d_Mod_linkConstant_118 (by decide) (fun h118 => ?_) (fun h118 => ?_)
          · first | exact absurd h118 (by decide) | exact absurd (by decide) h118
          · refine lv_aload_n hx hb d_Mod_linkConstant_121 rfl (lv_at hl 4 rfl) ?_
            refine lv_bipush (v := 6) hx hb d_Mod_linkConstant_122 (by decide) ?_
            refine lv_aload_n hx hb d_Mod_linkConstant_124 rfl (lv_at hl 4 rfl) ?_
            refine va_get (D := g.1) (ci := 10) (v := .ref (q 15)) (C := R_Mod) (T := F_Mod) (N := 61) hx hb hts in_Mod hown hK hP 0 rfl rfl 15 (by decide) (hts _ wd_1265) (fun _ h9 => h9) rfl d_Mod_linkConstant_125 ?_
            refine lv_iload_n hx hb d_Mod_linkConstant_128 rfl (lv_at hl 5 rfl) ?_
            refine va_iald hx hb hK hP 3 0 rfl rfl (vp_in_nI (by omega) (by decide)) d_Mod_linkConstant_129 ?_
            obtain ⟨x11, ex11⟩ : ∃ z : Int32, tl ((nI k).toNatClampNeg) = z := ⟨_, rfl⟩
            refine tw_ri (e2 := x11) ex11 ?_
            refine tw_wv (wr := [((q 2), aI g 600 bs), ((q 14), aI g 620 tg), ((q 15), aI g 620 tl), ((q 16), aI g 620 on), ((q 17), aI g 620 tw)]) (tw_runV (ws := [(h0, .inr (10, mob q rf n mm mb fa fp av ev wi mn tp tc sc nf fd me mp xn mt wh tq ag an ig)), ((q 2), aI g 600 bs), ((q 14), aI g 620 tg), ((q 15), aI g 620 tl), ((q 16), aI g 620 on), ((q 17), aI g 620 tw)]) (wc := [(h0, .inr (10, mob q rf n mm mb fa fp av ev wi mn tp tc sc nf fd me mp xn mt wh tq ag an ig))]) (As := [.int 6, .int x11]) (rest := []) E hB hK hZ (g_Mod_fail l g H.size h0 q rf n mm mb av ev wi mn tp tc sc nf fd me mp xn mt wh tq ag an ig fa fp 6 x11 (by decide)) mc_Mod_fail mi_Mod_fail me_Mod_fail wd_1478 hP hD hS hA [0] rfl (by decide) 0 rfl rfl rfl rfl rfl (by decide) rfl hl.1 rfl (Nat.le_of_ble_eq_true rfl) (by decide) d_Mod_linkConstant_130) hP hD hS hA [0] [1, 2, 3, 4, 5] rfl rfl (by decide) (by decide) (fun u13 H locs hr12 hP hD hS => ?_)
            try dsimp only at hr12
            have hP : va_P g.1 classes [((q 2), aI g 600 bs), ((q 14), aI g 620 tg), ((q 15), aI g 620 tl), ((q 16), aI g 620 on), ((q 17), aI g 620 tw), (h0, .inr (10, mob q rf n mm mb u13.1 u13.2 av ev wi mn tp tc sc nf fd me mp xn mt wh tq ag an ig))] H := hP
            have hD : va_D A [((q 2), aI g 600 bs), ((q 14), aI g 620 tg), ((q 15), aI g 620 tl), ((q 16), aI g 620 on), ((q 17), aI g 620 tw), (h0, .inr (10, mob q rf n mm mb u13.1 u13.2 av ev wi mn tp tc sc nf fd me mp xn mt wh tq ag an ig))] := hD
            have hP : va_P g.1 classes [(h0, .inr (10, mob q rf n mm mb u13.1 u13.2 av ev wi mn tp tc sc nf fd me mp xn mt wh tq ag an ig)), ((q 2), aI g 600 bs), ((q 14), aI g 620 tg), ((q 15), aI g 620 tl), ((q 16), aI g 620 on), ((q 17), aI g 620 tw)] H := hP.sub [5, 0, 1, 2, 3, 4] rfl
            have hD : va_D A [(h0, .inr (10, mob q rf n mm mb u13.1 u13.2 av ev wi mn tp tc sc nf fd me mp xn mt wh tq ag an ig)), ((q 2), aI g 600 bs), ((q 14), aI g 620 tg), ((q 15), aI g 620 tl), ((q 16), aI g 620 on), ((q 17), aI g 620 tw)] := hD.sub [5, 0, 1, 2, 3, 4] (by decide) rfl
            have hp13_0 := hr12
            refine lv_goto (tgt := 280) hx hb d_Mod_linkConstant_133 (by decide) ?_
            exact tw_vret E hS (u13.1, u13.2) (⟨(fun h => absurd h hp13_0), (fun h => absurd h hp13_0)⟩) hP hD d_Mod_linkConstant_280
        · have hT62 := hB10.2 (hB10.1.resolve_left h62)
          have hT62b : TGv mn tg 7 (on k) := by rw [exa]; exact hT62
          refine lv_aload_n hx hb d_Mod_linkConstant_65 rfl (lv_at hl 3 rfl) ?_
          refine lv_iload hx hb d_Mod_linkConstant_66 (lv_at hl 0 rfl) ?_
          refine lv_bipush (v := 12) hx hb d_Mod_linkConstant_68 (by decide) ?_
          refine tw_si (tw_runV (ws := [(h0, .inr (10, mob q rf n mm mb fa fp av ev wi mn tp tc sc nf fd me mp xn mt wh tq ag an ig)), ((q 2), aI g 600 bs), ((q 14), aI g 620 tg), ((q 15), aI g 620 tl), ((q 16), aI g 620 on), ((q 17), aI g 620 tw)]) (wc := [(h0, .inr (10, mob q rf n mm mb fa fp av ev wi mn tp tc sc nf fd me mp xn mt wh tq ag an ig)), ((q 14), aI g 620 tg)]) (As := [.int xb2, .int 12]) (rest := []) E hB hK hZ (g_Mod_isTagI l g H.size h0 q rf n mm mb fa fp av ev wi mn tp tc sc nf fd me mp xn mt wh tq ag an ig tg xb2 12 (by omega)) mc_Mod_isTag mi_Mod_isTag me_Mod_isTag wd_1508 hP hD hS hA [0, 2] rfl (by decide) 0 rfl rfl rfl rfl rfl (by decide) rfl hl.1 rfl (Nat.le_of_ble_eq_true rfl) (by decide) d_Mod_linkConstant_70) (fun r14 hr14 => ?_)
          have hB14 := hr14
          refine lv_if_eq (tgt := 80) hx hb d_Mod_linkConstant_73 (by decide) (fun h73 => ?_) (fun h73 => ?_)
          · refine lv_iconst (v := 0) hx hb d_Mod_linkConstant_80 (by decide) ?_
            refine lv_goto (tgt := 114) hx hb d_Mod_linkConstant_81 (by decide) ?_
            refine lv_istore hx hb d_Mod_linkConstant_114 hl (by decide) rfl (fun ls hl => ?_)
            have hl : lv_has ls 6 [(5, .int 0), (4, .int xb2), (3, .int xa), (2, .int (tg k)), (0, .ref h0), (1, .int (nI k))] := hl
            refine lv_iload hx hb d_Mod_linkConstant_116 (lv_at hl 0 rfl) ?_
            refine lv_if_ne (tgt := 136) hx hb d_Mod_linkConstant_118 (by decide) (fun h118 => ?_) (fun h118 => ?_)
            · first | exact absurd h118 (by decide) | exact absurd (by decide) h118
            · refine lv_aload_n hx hb d_Mod_linkConstant_121 rfl (lv_at hl 4 rfl) ?_
              refine lv_bipush (v := 6) hx hb d_Mod_linkConstant_122 (by decide) ?_
              refine lv_aload_n hx hb d_Mod_linkConstant_124 rfl (lv_at hl 4 rfl) ?_
              refine va_get (D := g.1) (ci := 10) (v := .ref (q 15)) (C := R_Mod) (T := F_Mod) (N := 61) hx hb hts in_Mod hown hK hP 0 rfl rfl 15 (by decide) (hts _ wd_1265) (fun _ h9 => h9) rfl d_Mod_linkConstant_125 ?_
              refine lv_iload_n hx hb d_Mod_linkConstant_128 rfl (lv_at hl 5 rfl) ?_
              refine va_iald hx hb hK hP 3 0 rfl rfl (vp_in_nI (by omega) (by decide)) d_Mod_linkConstant_129 ?_
              obtain ⟨x15, ex15⟩ : ∃ z : Int32, tl ((nI k).toNatClampNeg) = z := ⟨_, rfl⟩
              refine tw_ri (e2 := x15) ex15 ?_
              refine tw_wv (wr := [((q 2), aI g 600 bs), ((q 14), aI g 620 tg), ((q 15), aI g 620 tl), ((q 16), aI g 620 on), ((q 17), aI g 620 tw)]) (tw_runV (ws := [(h0, .inr (10, mob q rf n mm mb fa fp av ev wi mn tp tc sc nf fd me mp xn mt wh tq ag an ig)), ((q 2), aI g 600 bs), ((q 14), aI g 620 tg), ((q 15), aI g 620 tl), ((q 16), aI g 620 on), ((q 17), aI g 620 tw)]) (wc := [(h0, .inr (10, mob q rf n mm mb fa fp av ev wi mn tp tc sc nf fd me mp xn mt wh tq ag an ig))]) (As := [.int 6, .int x15]) (rest := []) E hB hK hZ (g_Mod_fail l g H.size h0 q rf n mm mb av ev wi mn tp tc sc nf fd me mp xn mt wh tq ag an ig fa fp 6 x15 (by decide)) mc_Mod_fail mi_Mod_fail me_Mod_fail wd_1478 hP hD hS hA [0] rfl (by decide) 0 rfl rfl rfl rfl rfl (by decide) rfl hl.1 rfl (Nat.le_of_ble_eq_true rfl) (by decide) d_Mod_linkConstant_130) hP hD hS hA [0] [1, 2, 3, 4, 5] rfl rfl (by decide) (by decide) (fun u17 H locs hr16 hP hD hS => ?_)
              try dsimp only at hr16
              have hP : va_P g.1 classes [((q 2), aI g 600 bs), ((q 14), aI g 620 tg), ((q 15), aI g 620 tl), ((q 16), aI g 620 on), ((q 17), aI g 620 tw), (h0, .inr (10, mob q rf n mm mb u17.1 u17.2 av ev wi mn tp tc sc nf fd me mp xn mt wh tq ag an ig))] H := hP
              have hD : va_D A [((q 2), aI g 600 bs), ((q 14), aI g 620 tg), ((q 15), aI g 620 tl), ((q 16), aI g 620 on), ((q 17), aI g 620 tw), (h0, .inr (10, mob q rf n mm mb u17.1 u17.2 av ev wi mn tp tc sc nf fd me mp xn mt wh tq ag an ig))] := hD
              have hP : va_P g.1 classes [(h0, .inr (10, mob q rf n mm mb u17.1 u17.2 av ev wi mn tp tc sc nf fd me mp xn mt wh tq ag an ig)), ((q 2), aI g 600 bs), ((q 14), aI g 620 tg), ((q 15), aI g 620 tl), ((q 16), aI g 620 on), ((q 17), aI g 620 tw)] H := hP.sub [5, 0, 1, 2, 3, 4] rfl
              have hD : va_D A [(h0, .inr (10, mob q rf n mm mb u17.1 u17.2 av ev wi mn tp tc sc nf fd me mp xn mt wh tq ag an ig)), ((q 2), aI g 600 bs), ((q 14), aI g 620 tg), ((q 15), aI g 620 tl), ((q 16), aI g 620 on), ((q 17), aI g 620 tw)] := hD.sub [5, 0, 1, 2, 3, 4] (by decide) rfl
              have hp17_0 := hr16
              refine lv_goto (tgt := 280) hx hb d_Mod_linkConstant_133 (by decide) ?_
              exact tw_vret E hS (u17.1, u17.2) (⟨(fun h => absurd h hp17_0), (fun h => absurd h hp17_0)⟩) hP hD d_Mod_linkConstant_280
          · have hT73 := hB14.2 (hB14.1.resolve_left h73)
            have hT73b : TGv mn tg 12 (tw k) := by rw [exb2]; exact hT73
            refine lv_iconst (v := 1) hx hb d_Mod_linkConstant_76 (by decide) ?_
            refine lv_goto (tgt := 114) hx hb d_Mod_linkConstant_77 (by decide) ?_
            refine lv_istore hx hb d_Mod_linkConstant_114 hl (by decide) rfl (fun ls hl => ?_)
            have hl : lv_has ls 6 [(5, .int 1), (4, .int xb2), (3, .int xa), (2, .int (tg k)), (0, .ref h0), (1, .int (nI k))] := hl
            refine lv_iload hx hb d_Mod_linkConstant_116 (lv_at hl 0 rfl) ?_
            refine lv_if_ne (tgt := 136) hx hb d_Mod_linkConstant_118 (by decide) (fun h118 => ?_) (fun h118 => ?_)
            · refine lv_iload_n hx hb d_Mod_linkConstant_136 rfl (lv_at hl 3 rfl) ?_
              refine lv_bipush (v := 7) hx hb d_Mod_linkConstant_137 (by decide) ?_
              refine lv_icmp_ne (tgt := 175) hx hb d_Mod_linkConstant_139 (by decide) (fun h139 => ?_) (fun h139 => ?_)
              · refine lv_iload_n hx hb d_Mod_linkConstant_175 rfl (lv_at hl 3 rfl) ?_
                refine lv_bipush (v := 12) hx hb d_Mod_linkConstant_176 (by decide) ?_
                refine lv_icmp_ne (tgt := 222) hx hb d_Mod_linkConstant_178 (by decide) (fun h178 => ?_) (fun h178 => ?_)
                · refine lv_iload_n hx hb d_Mod_linkConstant_222 rfl (lv_at hl 3 rfl) ?_
                  refine lv_bipush (v := 12) hx hb d_Mod_linkConstant_223 (by decide) ?_
                  refine lv_icmp_ne (tgt := 280) hx hb d_Mod_linkConstant_225 (by decide) (fun h225 => ?_) (fun h225 => ?_)
                  · exact tw_vret E hS (fa, fp) (⟨(fun h => h), (fun _ => by exact LC1.c h46 hT62b hT73b)⟩) hP hD d_Mod_linkConstant_280
                  · exact absurd (h46.symm.trans h225) (by decide)
                · exact absurd (h46.symm.trans h178) (by decide)
              · exact absurd (h46.symm.trans h139) (by decide)
            · first | exact absurd h118 (by decide) | exact absurd (by decide) h118
      · refine lv_iload_n hx hb d_Mod_linkConstant_49 rfl (lv_at hl 2 rfl) ?_
        refine lv_bipush (v := 10) hx hb d_Mod_linkConstant_50 (by decide) ?_
        refine lv_icmp_ne (tgt := 84) hx hb d_Mod_linkConstant_52 (by decide) (fun h52 => ?_) (fun h52 => ?_)
        · refine lv_iload_n hx hb d_Mod_linkConstant_84 rfl (lv_at hl 2 rfl) ?_
          refine lv_bipush (v := 12) hx hb d_Mod_linkConstant_85 (by decide) ?_
          refine lv_icmp_ne (tgt := 109) hx hb d_Mod_linkConstant_87 (by decide) (fun h87 => ?_) (fun h87 => ?_)
          · refine lv_iconst (v := 1) hx hb d_Mod_linkConstant_109 (by decide) ?_
            refine lv_goto (tgt := 114) hx hb d_Mod_linkConstant_110 (by decide) ?_
            refine lv_istore hx hb d_Mod_linkConstant_114 hl (by decide) rfl (fun ls hl => ?_)
            have hl : lv_has ls 6 [(5, .int 1), (4, .int xb2), (3, .int xa), (2, .int (tg k)), (0, .ref h0), (1, .int (nI k))] := hl
            refine lv_iload hx hb d_Mod_linkConstant_116 (lv_at hl 0 rfl) ?_
            refine lv_if_ne (tgt := 136) hx hb d_Mod_linkConstant_118 (by decide) (fun h118 => ?_) (fun h118 => ?_)
            · refine lv_iload_n hx hb d_Mod_linkConstant_136 rfl (lv_at hl 3 rfl) ?_
              refine lv_bipush (v := 7) hx hb d_Mod_linkConstant_137 (by decide) ?_
              refine lv_icmp_ne (tgt := 175) hx hb d_Mod_linkConstant_139 (by decide) (fun h139 => ?_) (fun h139 => ?_)
              · refine lv_iload_n hx hb d_Mod_linkConstant_175 rfl (lv_at hl 3 rfl) ?_
                refine lv_bipush (v := 12) hx hb d_Mod_linkConstant_176 (by decide) ?_
                refine lv_icmp_ne (tgt := 222) hx hb d_Mod_linkConstant_178 (by decide) (fun h178 => ?_) (fun h178 => ?_)
                · refine lv_iload_n hx hb d_Mod_linkConstant_222 rfl (lv_at hl 3 rfl) ?_
                  refine lv_bipush (v := 12) hx hb d_Mod_linkConstant_223 (by decide) ?_
                  refine lv_icmp_ne (tgt := 280) hx hb d_Mod_linkConstant_225 (by decide) (fun h225 => ?_) (fun h225 => ?_)
                  · exact tw_vret E hS (fa, fp) (⟨(fun h => h), (fun _ => by exact LC1.f h25 h31 h46 h52 h87)⟩) hP hD d_Mod_linkConstant_280
                  · exact absurd h225 h87
                · exact absurd h178 h87
              · exact absurd h139 h25
            · first | exact absurd h118 (by decide) | exact absurd (by decide) h118
          · refine lv_aload_n hx hb d_Mod_linkConstant_90 rfl (lv_at hl 3 rfl) ?_
            refine lv_iload_n hx hb d_Mod_linkConstant_91 rfl (lv_at hl 1 rfl) ?_
            refine lv_iconst (v := 1) hx hb d_Mod_linkConstant_92 (by decide) ?_
            refine tw_si (tw_runV (ws := [(h0, .inr (10, mob q rf n mm mb fa fp av ev wi mn tp tc sc nf fd me mp xn mt wh tq ag an ig)), ((q 2), aI g 600 bs), ((q 14), aI g 620 tg), ((q 15), aI g 620 tl), ((q 16), aI g 620 on), ((q 17), aI g 620 tw)]) (wc := [(h0, .inr (10, mob q rf n mm mb fa fp av ev wi mn tp tc sc nf fd me mp xn mt wh tq ag an ig)), ((q 14), aI g 620 tg)]) (As := [.int xa, .int 1]) (rest := []) E hB hK hZ (g_Mod_isTagI l g H.size h0 q rf n mm mb fa fp av ev wi mn tp tc sc nf fd me mp xn mt wh tq ag an ig tg xa 1 (by omega)) mc_Mod_isTag mi_Mod_isTag me_Mod_isTag wd_1508 hP hD hS hA [0, 2] rfl (by decide) 0 rfl rfl rfl rfl rfl (by decide) rfl hl.1 rfl (Nat.le_of_ble_eq_true rfl) (by decide) d_Mod_linkConstant_93) (fun r18 hr18 => ?_)
            have hB18 := hr18
            refine lv_if_eq (tgt := 113) hx hb d_Mod_linkConstant_96 (by decide) (fun h96 => ?_) (fun h96 => ?_)
            · refine lv_iconst (v := 0) hx hb d_Mod_linkConstant_113 (by decide) ?_
              refine lv_istore hx hb d_Mod_linkConstant_114 hl (by decide) rfl (fun ls hl => ?_)
              have hl : lv_has ls 6 [(5, .int 0), (4, .int xb2), (3, .int xa), (2, .int (tg k)), (0, .ref h0), (1, .int (nI k))] := hl
              refine lv_iload hx hb d_Mod_linkConstant_116 (lv_at hl 0 rfl) ?_
              refine lv_if_ne (tgt := 136) hx hb d_Mod_linkConstant_118 (by decide) (fun h118 => ?_) (fun h118 => ?_)
              · first | exact absurd h118 (by decide) | exact absurd (by decide) h118
              · refine lv_aload_n hx hb d_Mod_linkConstant_121 rfl (lv_at hl 4 rfl) ?_
                refine lv_bipush (v := 6) hx hb d_Mod_linkConstant_122 (by decide) ?_
                refine lv_aload_n hx hb d_Mod_linkConstant_124 rfl (lv_at hl 4 rfl) ?_
                refine va_get (D := g.1) (ci := 10) (v := .ref (q 15)) (C := R_Mod) (T := F_Mod) (N := 61) hx hb hts in_Mod hown hK hP 0 rfl rfl 15 (by decide) (hts _ wd_1265) (fun _ h9 => h9) rfl d_Mod_linkConstant_125 ?_
                refine lv_iload_n hx hb d_Mod_linkConstant_128 rfl (lv_at hl 5 rfl) ?_
                refine va_iald hx hb hK hP 3 0 rfl rfl (vp_in_nI (by omega) (by decide)) d_Mod_linkConstant_129 ?_
                obtain ⟨x19, ex19⟩ : ∃ z : Int32, tl ((nI k).toNatClampNeg) = z := ⟨_, rfl⟩
                refine tw_ri (e2 := x19) ex19 ?_
                refine tw_wv (wr := [((q 2), aI g 600 bs), ((q 14), aI g 620 tg), ((q 15), aI g 620 tl), ((q 16), aI g 620 on), ((q 17), aI g 620 tw)]) (tw_runV (ws := [(h0, .inr (10, mob q rf n mm mb fa fp av ev wi mn tp tc sc nf fd me mp xn mt wh tq ag an ig)), ((q 2), aI g 600 bs), ((q 14), aI g 620 tg), ((q 15), aI g 620 tl), ((q 16), aI g 620 on), ((q 17), aI g 620 tw)]) (wc := [(h0, .inr (10, mob q rf n mm mb fa fp av ev wi mn tp tc sc nf fd me mp xn mt wh tq ag an ig))]) (As := [.int 6, .int x19]) (rest := []) E hB hK hZ (g_Mod_fail l g H.size h0 q rf n mm mb av ev wi mn tp tc sc nf fd me mp xn mt wh tq ag an ig fa fp 6 x19 (by decide)) mc_Mod_fail mi_Mod_fail me_Mod_fail wd_1478 hP hD hS hA [0] rfl (by decide) 0 rfl rfl rfl rfl rfl (by decide) rfl hl.1 rfl (Nat.le_of_ble_eq_true rfl) (by decide) d_Mod_linkConstant_130) hP hD hS hA [0] [1, 2, 3, 4, 5] rfl rfl (by decide) (by decide) (fun u21 H locs hr20 hP hD hS => ?_)
                try dsimp only at hr20
                have hP : va_P g.1 classes [((q 2), aI g 600 bs), ((q 14), aI g 620 tg), ((q 15), aI g 620 tl), ((q 16), aI g 620 on), ((q 17), aI g 620 tw), (h0, .inr (10, mob q rf n mm mb u21.1 u21.2 av ev wi mn tp tc sc nf fd me mp xn mt wh tq ag an ig))] H := hP
                have hD : va_D A [((q 2), aI g 600 bs), ((q 14), aI g 620 tg), ((q 15), aI g 620 tl), ((q 16), aI g 620 on), ((q 17), aI g 620 tw), (h0, .inr (10, mob q rf n mm mb u21.1 u21.2 av ev wi mn tp tc sc nf fd me mp xn mt wh tq ag an ig))] := hD
                have hP : va_P g.1 classes [(h0, .inr (10, mob q rf n mm mb u21.1 u21.2 av ev wi mn tp tc sc nf fd me mp xn mt wh tq ag an ig)), ((q 2), aI g 600 bs), ((q 14), aI g 620 tg), ((q 15), aI g 620 tl), ((q 16), aI g 620 on), ((q 17), aI g 620 tw)] H := hP.sub [5, 0, 1, 2, 3, 4] rfl
                have hD : va_D A [(h0, .inr (10, mob q rf n mm mb u21.1 u21.2 av ev wi mn tp tc sc nf fd me mp xn mt wh tq ag an ig)), ((q 2), aI g 600 bs), ((q 14), aI g 620 tg), ((q 15), aI g 620 tl), ((q 16), aI g 620 on), ((q 17), aI g 620 tw)] := hD.sub [5, 0, 1, 2, 3, 4] (by decide) rfl
                have hp21_0 := hr20
                refine lv_goto (tgt := 280) hx hb d_Mod_linkConstant_133 (by decide) ?_
                exact tw_vret E hS (u21.1, u21.2) (⟨(fun h => absurd h hp21_0), (fun h => absurd h hp21_0)⟩) hP hD d_Mod_linkConstant_280
            · have hT96 := hB18.2 (hB18.1.resolve_left h96)
              obtain ⟨ja, ja0, ja1, jae, jat⟩ := hT96
              subst jae
              obtain ⟨pa, la, paa, pab, pac⟩ := hTX ja (by omega) jat
              refine lv_aload_n hx hb d_Mod_linkConstant_99 rfl (lv_at hl 3 rfl) ?_
              refine lv_iload hx hb d_Mod_linkConstant_100 (lv_at hl 0 rfl) ?_
              refine lv_iconst (v := 1) hx hb d_Mod_linkConstant_102 (by decide) ?_
              refine tw_si (tw_runV (ws := [(h0, .inr (10, mob q rf n mm mb fa fp av ev wi mn tp tc sc nf fd me mp xn mt wh tq ag an ig)), ((q 2), aI g 600 bs), ((q 14), aI g 620 tg), ((q 15), aI g 620 tl), ((q 16), aI g 620 on), ((q 17), aI g 620 tw)]) (wc := [(h0, .inr (10, mob q rf n mm mb fa fp av ev wi mn tp tc sc nf fd me mp xn mt wh tq ag an ig)), ((q 14), aI g 620 tg)]) (As := [.int xb2, .int 1]) (rest := []) E hB hK hZ (g_Mod_isTagI l g H.size h0 q rf n mm mb fa fp av ev wi mn tp tc sc nf fd me mp xn mt wh tq ag an ig tg xb2 1 (by omega)) mc_Mod_isTag mi_Mod_isTag me_Mod_isTag wd_1508 hP hD hS hA [0, 2] rfl (by decide) 0 rfl rfl rfl rfl rfl (by decide) rfl hl.1 rfl (Nat.le_of_ble_eq_true rfl) (by decide) d_Mod_linkConstant_103) (fun r22 hr22 => ?_)
              have hB22 := hr22
              refine lv_if_eq (tgt := 113) hx hb d_Mod_linkConstant_106 (by decide) (fun h106 => ?_) (fun h106 => ?_)
              · refine lv_iconst (v := 0) hx hb d_Mod_linkConstant_113 (by decide) ?_
                refine lv_istore hx hb d_Mod_linkConstant_114 hl (by decide) rfl (fun ls hl => ?_)
                have hl : lv_has ls 6 [(5, .int 0), (4, .int xb2), (3, .int (nI ja)), (2, .int (tg k)), (0, .ref h0), (1, .int (nI k))] := hl
                refine lv_iload hx hb d_Mod_linkConstant_116 (lv_at hl 0 rfl) ?_
                refine lv_if_ne (tgt := 136) hx hb d_Mod_linkConstant_118 (by decide) (fun h118 => ?_) (fun h118 => ?_)
                · first | exact absurd h118 (by decide) | exact absurd (by decide) h118
                · refine lv_aload_n hx hb d_Mod_linkConstant_121 rfl (lv_at hl 4 rfl) ?_
                  refine lv_bipush (v := 6) hx hb d_Mod_linkConstant_122 (by decide) ?_
                  refine lv_aload_n hx hb d_Mod_linkConstant_124 rfl (lv_at hl 4 rfl) ?_
                  refine va_get (D := g.1) (ci := 10) (v := .ref (q 15)) (C := R_Mod) (T := F_Mod) (N := 61) hx hb hts in_Mod hown hK hP 0 rfl rfl 15 (by decide) (hts _ wd_1265) (fun _ h9 => h9) rfl d_Mod_linkConstant_125 ?_
                  refine lv_iload_n hx hb d_Mod_linkConstant_128 rfl (lv_at hl 5 rfl) ?_
                  refine va_iald hx hb hK hP 3 0 rfl rfl (vp_in_nI (by omega) (by decide)) d_Mod_linkConstant_129 ?_
                  obtain ⟨x23, ex23⟩ : ∃ z : Int32, tl ((nI k).toNatClampNeg) = z := ⟨_, rfl⟩
                  refine tw_ri (e2 := x23) ex23 ?_
                  refine tw_wv (wr := [((q 2), aI g 600 bs), ((q 14), aI g 620 tg), ((q 15), aI g 620 tl), ((q 16), aI g 620 on), ((q 17), aI g 620 tw)]) (tw_runV (ws := [(h0, .inr (10, mob q rf n mm mb fa fp av ev wi mn tp tc sc nf fd me mp xn mt wh tq ag an ig)), ((q 2), aI g 600 bs), ((q 14), aI g 620 tg), ((q 15), aI g 620 tl), ((q 16), aI g 620 on), ((q 17), aI g 620 tw)]) (wc := [(h0, .inr (10, mob q rf n mm mb fa fp av ev wi mn tp tc sc nf fd me mp xn mt wh tq ag an ig))]) (As := [.int 6, .int x23]) (rest := []) E hB hK hZ (g_Mod_fail l g H.size h0 q rf n mm mb av ev wi mn tp tc sc nf fd me mp xn mt wh tq ag an ig fa fp 6 x23 (by decide)) mc_Mod_fail mi_Mod_fail me_Mod_fail wd_1478 hP hD hS hA [0] rfl (by decide) 0 rfl rfl rfl rfl rfl (by decide) rfl hl.1 rfl (Nat.le_of_ble_eq_true rfl) (by decide) d_Mod_linkConstant_130) hP hD hS hA [0] [1, 2, 3, 4, 5] rfl rfl (by decide) (by decide) (fun u25 H locs hr24 hP hD hS => ?_)
                  try dsimp only at hr24
                  have hP : va_P g.1 classes [((q 2), aI g 600 bs), ((q 14), aI g 620 tg), ((q 15), aI g 620 tl), ((q 16), aI g 620 on), ((q 17), aI g 620 tw), (h0, .inr (10, mob q rf n mm mb u25.1 u25.2 av ev wi mn tp tc sc nf fd me mp xn mt wh tq ag an ig))] H := hP
                  have hD : va_D A [((q 2), aI g 600 bs), ((q 14), aI g 620 tg), ((q 15), aI g 620 tl), ((q 16), aI g 620 on), ((q 17), aI g 620 tw), (h0, .inr (10, mob q rf n mm mb u25.1 u25.2 av ev wi mn tp tc sc nf fd me mp xn mt wh tq ag an ig))] := hD
                  have hP : va_P g.1 classes [(h0, .inr (10, mob q rf n mm mb u25.1 u25.2 av ev wi mn tp tc sc nf fd me mp xn mt wh tq ag an ig)), ((q 2), aI g 600 bs), ((q 14), aI g 620 tg), ((q 15), aI g 620 tl), ((q 16), aI g 620 on), ((q 17), aI g 620 tw)] H := hP.sub [5, 0, 1, 2, 3, 4] rfl
                  have hD : va_D A [(h0, .inr (10, mob q rf n mm mb u25.1 u25.2 av ev wi mn tp tc sc nf fd me mp xn mt wh tq ag an ig)), ((q 2), aI g 600 bs), ((q 14), aI g 620 tg), ((q 15), aI g 620 tl), ((q 16), aI g 620 on), ((q 17), aI g 620 tw)] := hD.sub [5, 0, 1, 2, 3, 4] (by decide) rfl
                  have hp25_0 := hr24
                  refine lv_goto (tgt := 280) hx hb d_Mod_linkConstant_133 (by decide) ?_
                  exact tw_vret E hS (u25.1, u25.2) (⟨(fun h => absurd h hp25_0), (fun h => absurd h hp25_0)⟩) hP hD d_Mod_linkConstant_280
              · have hT106 := hB22.2 (hB22.1.resolve_left h106)
                obtain ⟨jb, jb0, jb1, jbe, jbt⟩ := hT106
                subst jbe
                obtain ⟨pb, lb, pba, pbb, pbc⟩ := hTX jb (by omega) jbt
                refine lv_iconst (v := 1) hx hb d_Mod_linkConstant_109 (by decide) ?_
                refine lv_goto (tgt := 114) hx hb d_Mod_linkConstant_110 (by decide) ?_
                refine lv_istore hx hb d_Mod_linkConstant_114 hl (by decide) rfl (fun ls hl => ?_)
                have hl : lv_has ls 6 [(5, .int 1), (4, .int (nI jb)), (3, .int (nI ja)), (2, .int (tg k)), (0, .ref h0), (1, .int (nI k))] := hl
                refine lv_iload hx hb d_Mod_linkConstant_116 (lv_at hl 0 rfl) ?_
                refine lv_if_ne (tgt := 136) hx hb d_Mod_linkConstant_118 (by decide) (fun h118 => ?_) (fun h118 => ?_)
                · refine lv_iload_n hx hb d_Mod_linkConstant_136 rfl (lv_at hl 3 rfl) ?_
                  refine lv_bipush (v := 7) hx hb d_Mod_linkConstant_137 (by decide) ?_
                  refine lv_icmp_ne (tgt := 175) hx hb d_Mod_linkConstant_139 (by decide) (fun h139 => ?_) (fun h139 => ?_)
                  · refine lv_iload_n hx hb d_Mod_linkConstant_175 rfl (lv_at hl 3 rfl) ?_
                    refine lv_bipush (v := 12) hx hb d_Mod_linkConstant_176 (by decide) ?_
                    refine lv_icmp_ne (tgt := 222) hx hb d_Mod_linkConstant_178 (by decide) (fun h178 => ?_) (fun h178 => ?_)
                    · exact absurd h87 h178
                    · refine lv_aload_n hx hb d_Mod_linkConstant_181 rfl (lv_at hl 4 rfl) ?_
                      refine lv_aload_n hx hb d_Mod_linkConstant_182 rfl (lv_at hl 4 rfl) ?_
                      refine va_get (D := g.1) (ci := 10) (v := .ref (q 16)) (C := R_Mod) (T := F_Mod) (N := 61) hx hb hts in_Mod hown hK hP 0 rfl rfl 16 (by decide) (hts _ wd_1266) (fun _ h9 => h9) rfl d_Mod_linkConstant_183 ?_
                      refine lv_iload_n hx hb d_Mod_linkConstant_186 rfl (lv_at hl 2 rfl) ?_
                      refine va_iald hx hb hK hP 4 0 rfl rfl (vp_in_nI (by omega) (by decide)) d_Mod_linkConstant_187 ?_
                      refine tw_ri (e2 := nI pa) (by rw [nI_clamp (by omega)]; exact paa) ?_
                      refine lv_aload_n hx hb d_Mod_linkConstant_188 rfl (lv_at hl 4 rfl) ?_
                      refine lv_iload_n hx hb d_Mod_linkConstant_189 rfl (lv_at hl 2 rfl) ?_
                      refine tw_si (tw_runV (ws := [(h0, .inr (10, mob q rf n mm mb fa fp av ev wi mn tp tc sc nf fd me mp xn mt wh tq ag an ig)), ((q 2), aI g 600 bs), ((q 14), aI g 620 tg), ((q 15), aI g 620 tl), ((q 16), aI g 620 on), ((q 17), aI g 620 tw)]) (wc := [(h0, .inr (10, mob q rf n mm mb fa fp av ev wi mn tp tc sc nf fd me mp xn mt wh tq ag an ig)), ((q 16), aI g 620 on), ((q 17), aI g 620 tw)]) (As := [.int (nI ja)]) (rest := [.int (nI pa), .ref h0]) E hB hK hZ (g_Mod_endOf l g H.size h0 q rf n mm mb fa fp av ev wi mn tp tc sc nf fd me mp xn mt wh tq ag an ig on tw ja pa la (by omega) paa pab pac) mc_Mod_endOf mi_Mod_endOf me_Mod_endOf wd_1536 hP hD hS hA [0, 4, 5] rfl (by decide) 0 rfl rfl rfl rfl rfl (by decide) rfl hl.1 rfl (Nat.le_of_ble_eq_true rfl) (by decide) d_Mod_linkConstant_190) (fun r26 hr26 => ?_)
                      have hB26 := hr26
                      subst hB26
                      refine tw_si (tw_runV (ws := [(h0, .inr (10, mob q rf n mm mb fa fp av ev wi mn tp tc sc nf fd me mp xn mt wh tq ag an ig)), ((q 2), aI g 600 bs), ((q 14), aI g 620 tg), ((q 15), aI g 620 tl), ((q 16), aI g 620 on), ((q 17), aI g 620 tw)]) (wc := [(h0, .inr (10, mob q rf n mm mb fa fp av ev wi mn tp tc sc nf fd me mp xn mt wh tq ag an ig)), ((q 2), aI g 600 bs)]) (As := [.int (nI pa), .int (nI (pa + la))]) (rest := []) E hB hK hZ (g_Mod_isName l g H.size h0 q rf n mm mb fa fp av ev wi mn tp tc sc nf fd me mp xn mt wh tq ag an ig bs pa (pa + la) (by omega) (by omega)) mc_Mod_isName mi_Mod_isName me_Mod_isName wd_1544 hP hD hS hA [0, 1] rfl (by decide) 0 rfl rfl rfl rfl rfl (by decide) rfl hl.1 rfl (Nat.le_of_ble_eq_true rfl) (by decide) d_Mod_linkConstant_193) (fun r27 hr27 => ?_)
                      have hB27 := hr27
                      refine lv_if_ne (tgt := 222) hx hb d_Mod_linkConstant_196 (by decide) (fun h196 => ?_) (fun h196 => ?_)
                      · refine lv_iload_n hx hb d_Mod_linkConstant_222 rfl (lv_at hl 3 rfl) ?_
                        refine lv_bipush (v := 12) hx hb d_Mod_linkConstant_223 (by decide) ?_
                        refine lv_icmp_ne (tgt := 280) hx hb d_Mod_linkConstant_225 (by decide) (fun h225 => ?_) (fun h225 => ?_)
                        · exact absurd h87 h225
                        · refine lv_aload_n hx hb d_Mod_linkConstant_228 rfl (lv_at hl 4 rfl) ?_
                          refine lv_aload_n hx hb d_Mod_linkConstant_229 rfl (lv_at hl 4 rfl) ?_
                          refine va_get (D := g.1) (ci := 10) (v := .ref (q 16)) (C := R_Mod) (T := F_Mod) (N := 61) hx hb hts in_Mod hown hK hP 0 rfl rfl 16 (by decide) (hts _ wd_1266) (fun _ h9 => h9) rfl d_Mod_linkConstant_230 ?_
                          refine lv_iload hx hb d_Mod_linkConstant_233 (lv_at hl 1 rfl) ?_
                          refine va_iald hx hb hK hP 4 0 rfl rfl (vp_in_nI (by omega) (by decide)) d_Mod_linkConstant_235 ?_
                          refine tw_ri (e2 := nI pb) (by rw [nI_clamp (by omega)]; exact pba) ?_
                          refine lv_aload_n hx hb d_Mod_linkConstant_236 rfl (lv_at hl 4 rfl) ?_
                          refine lv_iload hx hb d_Mod_linkConstant_237 (lv_at hl 1 rfl) ?_
                          refine tw_si (tw_runV (ws := [(h0, .inr (10, mob q rf n mm mb fa fp av ev wi mn tp tc sc nf fd me mp xn mt wh tq ag an ig)), ((q 2), aI g 600 bs), ((q 14), aI g 620 tg), ((q 15), aI g 620 tl), ((q 16), aI g 620 on), ((q 17), aI g 620 tw)]) (wc := [(h0, .inr (10, mob q rf n mm mb fa fp av ev wi mn tp tc sc nf fd me mp xn mt wh tq ag an ig)), ((q 16), aI g 620 on), ((q 17), aI g 620 tw)]) (As := [.int (nI jb)]) (rest := [.int (nI pb), .ref h0]) E hB hK hZ (g_Mod_endOf l g H.size h0 q rf n mm mb fa fp av ev wi mn tp tc sc nf fd me mp xn mt wh tq ag an ig on tw jb pb lb (by omega) pba pbb pbc) mc_Mod_endOf mi_Mod_endOf me_Mod_endOf wd_1536 hP hD hS hA [0, 4, 5] rfl (by decide) 0 rfl rfl rfl rfl rfl (by decide) rfl hl.1 rfl (Nat.le_of_ble_eq_true rfl) (by decide) d_Mod_linkConstant_239) (fun r28 hr28 => ?_)
                          have hB28 := hr28
                          subst hB28
                          refine tw_si (tw_runV (ws := [(h0, .inr (10, mob q rf n mm mb fa fp av ev wi mn tp tc sc nf fd me mp xn mt wh tq ag an ig)), ((q 2), aI g 600 bs), ((q 14), aI g 620 tg), ((q 15), aI g 620 tl), ((q 16), aI g 620 on), ((q 17), aI g 620 tw)]) (wc := [(h0, .inr (10, mob q rf n mm mb fa fp av ev wi mn tp tc sc nf fd me mp xn mt wh tq ag an ig)), ((q 2), aI g 600 bs)]) (As := [.int (nI pb), .int (nI (pb + lb))]) (rest := []) E hB hK hZ (g_Mod_isType l g H.size h0 q rf n mm mb fa fp av ev wi mn tp tc sc nf fd me mp xn mt wh tq ag an ig bs pb (pb + lb) (by omega) (by omega)) mc_Mod_isType mi_Mod_isType me_Mod_isType wd_1555 hP hD hS hA [0, 1] rfl (by decide) 0 rfl rfl rfl rfl rfl (by decide) rfl hl.1 rfl (Nat.le_of_ble_eq_true rfl) (by decide) d_Mod_linkConstant_242) (fun r29 hr29 => ?_)
                          have hB29 := hr29
                          refine lv_if_ne (tgt := 280) hx hb d_Mod_linkConstant_245 (by decide) (fun h245 => ?_) (fun h245 => ?_)
                          · have hT245 := hB29.2 (hB29.1.resolve_left h245)
                            exact tw_vret E hS (fa, fp) (⟨(fun h => h), (fun _ => by exact LC1.e h87 ⟨ja, ja0, ja1, exa, jat⟩ ⟨jb, jb0, jb1, exb2, jbt⟩)⟩) hP hD d_Mod_linkConstant_280
                          · refine lv_aload_n hx hb d_Mod_linkConstant_248 rfl (lv_at hl 4 rfl) ?_
                            refine lv_aload_n hx hb d_Mod_linkConstant_249 rfl (lv_at hl 4 rfl) ?_
                            refine va_get (D := g.1) (ci := 10) (v := .ref (q 16)) (C := R_Mod) (T := F_Mod) (N := 61) hx hb hts in_Mod hown hK hP 0 rfl rfl 16 (by decide) (hts _ wd_1266) (fun _ h9 => h9) rfl d_Mod_linkConstant_250 ?_
                            refine lv_iload hx hb d_Mod_linkConstant_253 (lv_at hl 1 rfl) ?_
                            refine va_iald hx hb hK hP 4 0 rfl rfl (vp_in_nI (by omega) (by decide)) d_Mod_linkConstant_255 ?_
                            refine tw_ri (e2 := nI pb) (by rw [nI_clamp (by omega)]; exact pba) ?_
                            refine lv_aload_n hx hb d_Mod_linkConstant_256 rfl (lv_at hl 4 rfl) ?_
                            refine lv_iload hx hb d_Mod_linkConstant_257 (lv_at hl 1 rfl) ?_
                            refine tw_si (tw_runV (ws := [(h0, .inr (10, mob q rf n mm mb fa fp av ev wi mn tp tc sc nf fd me mp xn mt wh tq ag an ig)), ((q 2), aI g 600 bs), ((q 14), aI g 620 tg), ((q 15), aI g 620 tl), ((q 16), aI g 620 on), ((q 17), aI g 620 tw)]) (wc := [(h0, .inr (10, mob q rf n mm mb fa fp av ev wi mn tp tc sc nf fd me mp xn mt wh tq ag an ig)), ((q 16), aI g 620 on), ((q 17), aI g 620 tw)]) (As := [.int (nI jb)]) (rest := [.int (nI pb), .ref h0]) E hB hK hZ (g_Mod_endOf l g H.size h0 q rf n mm mb fa fp av ev wi mn tp tc sc nf fd me mp xn mt wh tq ag an ig on tw jb pb lb (by omega) pba pbb pbc) mc_Mod_endOf mi_Mod_endOf me_Mod_endOf wd_1536 hP hD hS hA [0, 4, 5] rfl (by decide) 0 rfl rfl rfl rfl rfl (by decide) rfl hl.1 rfl (Nat.le_of_ble_eq_true rfl) (by decide) d_Mod_linkConstant_259) (fun r30 hr30 => ?_)
                            have hB30 := hr30
                            subst hB30
                            refine tw_si (tw_runV (ws := [(h0, .inr (10, mob q rf n mm mb fa fp av ev wi mn tp tc sc nf fd me mp xn mt wh tq ag an ig)), ((q 2), aI g 600 bs), ((q 14), aI g 620 tg), ((q 15), aI g 620 tl), ((q 16), aI g 620 on), ((q 17), aI g 620 tw)]) (wc := [(h0, .inr (10, mob q rf n mm mb fa fp av ev wi mn tp tc sc nf fd me mp xn mt wh tq ag an ig)), ((q 2), aI g 600 bs)]) (As := [.int (nI pb), .int (nI (pb + lb))]) (rest := []) E hB hK hZ (g_Mod_isMethodType l g H.size h0 q rf n mm mb fa fp av ev wi mn tp tc sc nf fd me mp xn mt wh tq ag an ig bs pb (pb + lb) (by omega) (by omega)) mc_Mod_isMethodType mi_Mod_isMethodType me_Mod_isMethodType wd_1563 hP hD hS hA [0, 1] rfl (by decide) 0 rfl rfl rfl rfl rfl (by decide) rfl hl.1 rfl (Nat.le_of_ble_eq_true rfl) (by decide) d_Mod_linkConstant_262) (fun r31 hr31 => ?_)
                            have hB31 := hr31
                            refine lv_if_ne (tgt := 280) hx hb d_Mod_linkConstant_265 (by decide) (fun h265 => ?_) (fun h265 => ?_)
                            · have hT265 := hB31.2 (hB31.1.resolve_left h265)
                              exact tw_vret E hS (fa, fp) (⟨(fun h => h), (fun _ => by exact LC1.e h87 ⟨ja, ja0, ja1, exa, jat⟩ ⟨jb, jb0, jb1, exb2, jbt⟩)⟩) hP hD d_Mod_linkConstant_280
                            · refine lv_aload_n hx hb d_Mod_linkConstant_268 rfl (lv_at hl 4 rfl) ?_
                              refine lv_bipush (v := 11) hx hb d_Mod_linkConstant_269 (by decide) ?_
                              refine lv_aload_n hx hb d_Mod_linkConstant_271 rfl (lv_at hl 4 rfl) ?_
                              refine va_get (D := g.1) (ci := 10) (v := .ref (q 15)) (C := R_Mod) (T := F_Mod) (N := 61) hx hb hts in_Mod hown hK hP 0 rfl rfl 15 (by decide) (hts _ wd_1265) (fun _ h9 => h9) rfl d_Mod_linkConstant_272 ?_
                              refine lv_iload_n hx hb d_Mod_linkConstant_275 rfl (lv_at hl 5 rfl) ?_
                              refine va_iald hx hb hK hP 3 0 rfl rfl (vp_in_nI (by omega) (by decide)) d_Mod_linkConstant_276 ?_
                              obtain ⟨x32, ex32⟩ : ∃ z : Int32, tl ((nI k).toNatClampNeg) = z := ⟨_, rfl⟩
                              refine tw_ri (e2 := x32) ex32 ?_
                              refine tw_wv (wr := [((q 2), aI g 600 bs), ((q 14), aI g 620 tg), ((q 15), aI g 620 tl), ((q 16), aI g 620 on), ((q 17), aI g 620 tw)]) (tw_runV (ws := [(h0, .inr (10, mob q rf n mm mb fa fp av ev wi mn tp tc sc nf fd me mp xn mt wh tq ag an ig)), ((q 2), aI g 600 bs), ((q 14), aI g 620 tg), ((q 15), aI g 620 tl), ((q 16), aI g 620 on), ((q 17), aI g 620 tw)]) (wc := [(h0, .inr (10, mob q rf n mm mb fa fp av ev wi mn tp tc sc nf fd me mp xn mt wh tq ag an ig))]) (As := [.int 11, .int x32]) (rest := []) E hB hK hZ (g_Mod_fail l g H.size h0 q rf n mm mb av ev wi mn tp tc sc nf fd me mp xn mt wh tq ag an ig fa fp 11 x32 (by decide)) mc_Mod_fail mi_Mod_fail me_Mod_fail wd_1478 hP hD hS hA [0] rfl (by decide) 0 rfl rfl rfl rfl rfl (by decide) rfl hl.1 rfl (Nat.le_of_ble_eq_true rfl) (by decide) d_Mod_linkConstant_277) hP hD hS hA [0] [1, 2, 3, 4, 5] rfl rfl (by decide) (by decide) (fun u34 H locs hr33 hP hD hS => ?_)
                              try dsimp only at hr33
                              have hP : va_P g.1 classes [((q 2), aI g 600 bs), ((q 14), aI g 620 tg), ((q 15), aI g 620 tl), ((q 16), aI g 620 on), ((q 17), aI g 620 tw), (h0, .inr (10, mob q rf n mm mb u34.1 u34.2 av ev wi mn tp tc sc nf fd me mp xn mt wh tq ag an ig))] H := hP
                              have hD : va_D A [((q 2), aI g 600 bs), ((q 14), aI g 620 tg), ((q 15), aI g 620 tl), ((q 16), aI g 620 on), ((q 17), aI g 620 tw), (h0, .inr (10, mob q rf n mm mb u34.1 u34.2 av ev wi mn tp tc sc nf fd me mp xn mt wh tq ag an ig))] := hD
                              have hP : va_P g.1 classes [(h0, .inr (10, mob q rf n mm mb u34.1 u34.2 av ev wi mn tp tc sc nf fd me mp xn mt wh tq ag an ig)), ((q 2), aI g 600 bs), ((q 14), aI g 620 tg), ((q 15), aI g 620 tl), ((q 16), aI g 620 on), ((q 17), aI g 620 tw)] H := hP.sub [5, 0, 1, 2, 3, 4] rfl
                              have hD : va_D A [(h0, .inr (10, mob q rf n mm mb u34.1 u34.2 av ev wi mn tp tc sc nf fd me mp xn mt wh tq ag an ig)), ((q 2), aI g 600 bs), ((q 14), aI g 620 tg), ((q 15), aI g 620 tl), ((q 16), aI g 620 on), ((q 17), aI g 620 tw)] := hD.sub [5, 0, 1, 2, 3, 4] (by decide) rfl
                              have hp34_0 := hr33
                              exact tw_vret E hS (u34.1, u34.2) (⟨(fun h => absurd h hp34_0), (fun h => absurd h hp34_0)⟩) hP hD d_Mod_linkConstant_280
                      · refine lv_aload_n hx hb d_Mod_linkConstant_199 rfl (lv_at hl 4 rfl) ?_
                        refine lv_iload_n hx hb d_Mod_linkConstant_200 rfl (lv_at hl 2 rfl) ?_
                        refine tw_si (tw_runV (ws := [(h0, .inr (10, mob q rf n mm mb fa fp av ev wi mn tp tc sc nf fd me mp xn mt wh tq ag an ig)), ((q 2), aI g 600 bs), ((q 14), aI g 620 tg), ((q 15), aI g 620 tl), ((q 16), aI g 620 on), ((q 17), aI g 620 tw)]) (wc := [(h0, .inr (10, mob q rf n mm mb fa fp av ev wi mn tp tc sc nf fd me mp xn mt wh tq ag an ig)), ((q 2), aI g 600 bs), ((q 16), aI g 620 on), ((q 17), aI g 620 tw)]) (As := [.int (nI ja)]) (rest := []) E hB hK hZ (g_Mod_isInit l g H.size h0 q rf n mm mb fa fp av ev wi mn tp tc sc nf fd me mp xn mt wh tq ag an ig bs on tw ja pa la (by omega) paa pab pac) mc_Mod_isInit mi_Mod_isInit me_Mod_isInit wd_1551 hP hD hS hA [0, 1, 4, 5] rfl (by decide) 0 rfl rfl rfl rfl rfl (by decide) rfl hl.1 rfl (Nat.le_of_ble_eq_true rfl) (by decide) d_Mod_linkConstant_201) (fun r35 hr35 => ?_)
                        have hB35 := hr35
                        refine lv_if_ne (tgt := 222) hx hb d_Mod_linkConstant_204 (by decide) (fun h204 => ?_) (fun h204 => ?_)
                        · refine lv_iload_n hx hb d_Mod_linkConstant_222 rfl (lv_at hl 3 rfl) ?_
                          refine lv_bipush (v := 12) hx hb d_Mod_linkConstant_223 (by decide) ?_
                          refine lv_icmp_ne (tgt := 280) hx hb d_Mod_linkConstant_225 (by decide) (fun h225 => ?_) (fun h225 => ?_)
                          · exact absurd h87 h225
                          · refine lv_aload_n hx hb d_Mod_linkConstant_228 rfl (lv_at hl 4 rfl) ?_
                            refine lv_aload_n hx hb d_Mod_linkConstant_229 rfl (lv_at hl 4 rfl) ?_
                            refine va_get (D := g.1) (ci := 10) (v := .ref (q 16)) (C := R_Mod) (T := F_Mod) (N := 61) hx hb hts in_Mod hown hK hP 0 rfl rfl 16 (by decide) (hts _ wd_1266) (fun _ h9 => h9) rfl d_Mod_linkConstant_230 ?_
                            refine lv_iload hx hb d_Mod_linkConstant_233 (lv_at hl 1 rfl) ?_
                            refine va_iald hx hb hK hP 4 0 rfl rfl (vp_in_nI (by omega) (by decide)) d_Mod_linkConstant_235 ?_
                            refine tw_ri (e2 := nI pb) (by rw [nI_clamp (by omega)]; exact pba) ?_
                            refine lv_aload_n hx hb d_Mod_linkConstant_236 rfl (lv_at hl 4 rfl) ?_
                            refine lv_iload hx hb d_Mod_linkConstant_237 (lv_at hl 1 rfl) ?_
                            refine tw_si (tw_runV (ws := [(h0, .inr (10, mob q rf n mm mb fa fp av ev wi mn tp tc sc nf fd me mp xn mt wh tq ag an ig)), ((q 2), aI g 600 bs), ((q 14), aI g 620 tg), ((q 15), aI g 620 tl), ((q 16), aI g 620 on), ((q 17), aI g 620 tw)]) (wc := [(h0, .inr (10, mob q rf n mm mb fa fp av ev wi mn tp tc sc nf fd me mp xn mt wh tq ag an ig)), ((q 16), aI g 620 on), ((q 17), aI g 620 tw)]) (As := [.int (nI jb)]) (rest := [.int (nI pb), .ref h0]) E hB hK hZ (g_Mod_endOf l g H.size h0 q rf n mm mb fa fp av ev wi mn tp tc sc nf fd me mp xn mt wh tq ag an ig on tw jb pb lb (by omega) pba pbb pbc) mc_Mod_endOf mi_Mod_endOf me_Mod_endOf wd_1536 hP hD hS hA [0, 4, 5] rfl (by decide) 0 rfl rfl rfl rfl rfl (by decide) rfl hl.1 rfl (Nat.le_of_ble_eq_true rfl) (by decide) d_Mod_linkConstant_239) (fun r36 hr36 => ?_)
                            have hB36 := hr36
                            subst hB36
                            refine tw_si (tw_runV (ws := [(h0, .inr (10, mob q rf n mm mb fa fp av ev wi mn tp tc sc nf fd me mp xn mt wh tq ag an ig)), ((q 2), aI g 600 bs), ((q 14), aI g 620 tg), ((q 15), aI g 620 tl), ((q 16), aI g 620 on), ((q 17), aI g 620 tw)]) (wc := [(h0, .inr (10, mob q rf n mm mb fa fp av ev wi mn tp tc sc nf fd me mp xn mt wh tq ag an ig)), ((q 2), aI g 600 bs)]) (As := [.int (nI pb), .int (nI (pb + lb))]) (rest := []) E hB hK hZ (g_Mod_isType l g H.size h0 q rf n mm mb fa fp av ev wi mn tp tc sc nf fd me mp xn mt wh tq ag an ig bs pb (pb + lb) (by omega) (by omega)) mc_Mod_isType mi_Mod_isType me_Mod_isType wd_1555 hP hD hS hA [0, 1] rfl (by decide) 0 rfl rfl rfl rfl rfl (by decide) rfl hl.1 rfl (Nat.le_of_ble_eq_true rfl) (by decide) d_Mod_linkConstant_242) (fun r37 hr37 => ?_)
                            have hB37 := hr37
                            refine lv_if_ne (tgt := 280) hx hb d_Mod_linkConstant_245 (by decide) (fun h245 => ?_) (fun h245 => ?_)
                            · have hT245 := hB37.2 (hB37.1.resolve_left h245)
                              exact tw_vret E hS (fa, fp) (⟨(fun h => h), (fun _ => by exact LC1.e h87 ⟨ja, ja0, ja1, exa, jat⟩ ⟨jb, jb0, jb1, exb2, jbt⟩)⟩) hP hD d_Mod_linkConstant_280
                            · refine lv_aload_n hx hb d_Mod_linkConstant_248 rfl (lv_at hl 4 rfl) ?_
                              refine lv_aload_n hx hb d_Mod_linkConstant_249 rfl (lv_at hl 4 rfl) ?_
                              refine va_get (D := g.1) (ci := 10) (v := .ref (q 16)) (C := R_Mod) (T := F_Mod) (N := 61) hx hb hts in_Mod hown hK hP 0 rfl rfl 16 (by decide) (hts _ wd_1266) (fun _ h9 => h9) rfl d_Mod_linkConstant_250 ?_
                              refine lv_iload hx hb d_Mod_linkConstant_253 (lv_at hl 1 rfl) ?_
                              refine va_iald hx hb hK hP 4 0 rfl rfl (vp_in_nI (by omega) (by decide)) d_Mod_linkConstant_255 ?_
                              refine tw_ri (e2 := nI pb) (by rw [nI_clamp (by omega)]; exact pba) ?_
                              refine lv_aload_n hx hb d_Mod_linkConstant_256 rfl (lv_at hl 4 rfl) ?_
                              refine lv_iload hx hb d_Mod_linkConstant_257 (lv_at hl 1 rfl) ?_
                              refine tw_si (tw_runV (ws := [(h0, .inr (10, mob q rf n mm mb fa fp av ev wi mn tp tc sc nf fd me mp xn mt wh tq ag an ig)), ((q 2), aI g 600 bs), ((q 14), aI g 620 tg), ((q 15), aI g 620 tl), ((q 16), aI g 620 on), ((q 17), aI g 620 tw)]) (wc := [(h0, .inr (10, mob q rf n mm mb fa fp av ev wi mn tp tc sc nf fd me mp xn mt wh tq ag an ig)), ((q 16), aI g 620 on), ((q 17), aI g 620 tw)]) (As := [.int (nI jb)]) (rest := [.int (nI pb), .ref h0]) E hB hK hZ (g_Mod_endOf l g H.size h0 q rf n mm mb fa fp av ev wi mn tp tc sc nf fd me mp xn mt wh tq ag an ig on tw jb pb lb (by omega) pba pbb pbc) mc_Mod_endOf mi_Mod_endOf me_Mod_endOf wd_1536 hP hD hS hA [0, 4, 5] rfl (by decide) 0 rfl rfl rfl rfl rfl (by decide) rfl hl.1 rfl (Nat.le_of_ble_eq_true rfl) (by decide) d_Mod_linkConstant_259) (fun r38 hr38 => ?_)
                              have hB38 := hr38
                              subst hB38
                              refine tw_si (tw_runV (ws := [(h0, .inr (10, mob q rf n mm mb fa fp av ev wi mn tp tc sc nf fd me mp xn mt wh tq ag an ig)), ((q 2), aI g 600 bs), ((q 14), aI g 620 tg), ((q 15), aI g 620 tl), ((q 16), aI g 620 on), ((q 17), aI g 620 tw)]) (wc := [(h0, .inr (10, mob q rf n mm mb fa fp av ev wi mn tp tc sc nf fd me mp xn mt wh tq ag an ig)), ((q 2), aI g 600 bs)]) (As := [.int (nI pb), .int (nI (pb + lb))]) (rest := []) E hB hK hZ (g_Mod_isMethodType l g H.size h0 q rf n mm mb fa fp av ev wi mn tp tc sc nf fd me mp xn mt wh tq ag an ig bs pb (pb + lb) (by omega) (by omega)) mc_Mod_isMethodType mi_Mod_isMethodType me_Mod_isMethodType wd_1563 hP hD hS hA [0, 1] rfl (by decide) 0 rfl rfl rfl rfl rfl (by decide) rfl hl.1 rfl (Nat.le_of_ble_eq_true rfl) (by decide) d_Mod_linkConstant_262) (fun r39 hr39 => ?_)
                              have hB39 := hr39
                              refine lv_if_ne (tgt := 280) hx hb d_Mod_linkConstant_265 (by decide) (fun h265 => ?_) (fun h265 => ?_)
                              · have hT265 := hB39.2 (hB39.1.resolve_left h265)
                                exact tw_vret E hS (fa, fp) (⟨(fun h => h), (fun _ => by exact LC1.e h87 ⟨ja, ja0, ja1, exa, jat⟩ ⟨jb, jb0, jb1, exb2, jbt⟩)⟩) hP hD d_Mod_linkConstant_280
                              · refine lv_aload_n hx hb d_Mod_linkConstant_268 rfl (lv_at hl 4 rfl) ?_
                                refine lv_bipush (v := 11) hx hb d_Mod_linkConstant_269 (by decide) ?_
                                refine lv_aload_n hx hb d_Mod_linkConstant_271 rfl (lv_at hl 4 rfl) ?_
                                refine va_get (D := g.1) (ci := 10) (v := .ref (q 15)) (C := R_Mod) (T := F_Mod) (N := 61) hx hb hts in_Mod hown hK hP 0 rfl rfl 15 (by decide) (hts _ wd_1265) (fun _ h9 => h9) rfl d_Mod_linkConstant_272 ?_
                                refine lv_iload_n hx hb d_Mod_linkConstant_275 rfl (lv_at hl 5 rfl) ?_
                                refine va_iald hx hb hK hP 3 0 rfl rfl (vp_in_nI (by omega) (by decide)) d_Mod_linkConstant_276 ?_
                                obtain ⟨x40, ex40⟩ : ∃ z : Int32, tl ((nI k).toNatClampNeg) = z := ⟨_, rfl⟩
                                refine tw_ri (e2 := x40) ex40 ?_
                                refine tw_wv (wr := [((q 2), aI g 600 bs), ((q 14), aI g 620 tg), ((q 15), aI g 620 tl), ((q 16), aI g 620 on), ((q 17), aI g 620 tw)]) (tw_runV (ws := [(h0, .inr (10, mob q rf n mm mb fa fp av ev wi mn tp tc sc nf fd me mp xn mt wh tq ag an ig)), ((q 2), aI g 600 bs), ((q 14), aI g 620 tg), ((q 15), aI g 620 tl), ((q 16), aI g 620 on), ((q 17), aI g 620 tw)]) (wc := [(h0, .inr (10, mob q rf n mm mb fa fp av ev wi mn tp tc sc nf fd me mp xn mt wh tq ag an ig))]) (As := [.int 11, .int x40]) (rest := []) E hB hK hZ (g_Mod_fail l g H.size h0 q rf n mm mb av ev wi mn tp tc sc nf fd me mp xn mt wh tq ag an ig fa fp 11 x40 (by decide)) mc_Mod_fail mi_Mod_fail me_Mod_fail wd_1478 hP hD hS hA [0] rfl (by decide) 0 rfl rfl rfl rfl rfl (by decide) rfl hl.1 rfl (Nat.le_of_ble_eq_true rfl) (by decide) d_Mod_linkConstant_277) hP hD hS hA [0] [1, 2, 3, 4, 5] rfl rfl (by decide) (by decide) (fun u42 H locs hr41 hP hD hS => ?_)
                                try dsimp only at hr41
                                have hP : va_P g.1 classes [((q 2), aI g 600 bs), ((q 14), aI g 620 tg), ((q 15), aI g 620 tl), ((q 16), aI g 620 on), ((q 17), aI g 620 tw), (h0, .inr (10, mob q rf n mm mb u42.1 u42.2 av ev wi mn tp tc sc nf fd me mp xn mt wh tq ag an ig))] H := hP
                                have hD : va_D A [((q 2), aI g 600 bs), ((q 14), aI g 620 tg), ((q 15), aI g 620 tl), ((q 16), aI g 620 on), ((q 17), aI g 620 tw), (h0, .inr (10, mob q rf n mm mb u42.1 u42.2 av ev wi mn tp tc sc nf fd me mp xn mt wh tq ag an ig))] := hD
                                have hP : va_P g.1 classes [(h0, .inr (10, mob q rf n mm mb u42.1 u42.2 av ev wi mn tp tc sc nf fd me mp xn mt wh tq ag an ig)), ((q 2), aI g 600 bs), ((q 14), aI g 620 tg), ((q 15), aI g 620 tl), ((q 16), aI g 620 on), ((q 17), aI g 620 tw)] H := hP.sub [5, 0, 1, 2, 3, 4] rfl
                                have hD : va_D A [(h0, .inr (10, mob q rf n mm mb u42.1 u42.2 av ev wi mn tp tc sc nf fd me mp xn mt wh tq ag an ig)), ((q 2), aI g 600 bs), ((q 14), aI g 620 tg), ((q 15), aI g 620 tl), ((q 16), aI g 620 on), ((q 17), aI g 620 tw)] := hD.sub [5, 0, 1, 2, 3, 4] (by decide) rfl
                                have hp42_0 := hr41
                                exact tw_vret E hS (u42.1, u42.2) (⟨(fun h => absurd h hp42_0), (fun h => absurd h hp42_0)⟩) hP hD d_Mod_linkConstant_280
                        · refine lv_aload_n hx hb d_Mod_linkConstant_207 rfl (lv_at hl 4 rfl) ?_
                          refine lv_bipush (v := 10) hx hb d_Mod_linkConstant_208 (by decide) ?_
                          refine lv_aload_n hx hb d_Mod_linkConstant_210 rfl (lv_at hl 4 rfl) ?_
                          refine va_get (D := g.1) (ci := 10) (v := .ref (q 15)) (C := R_Mod) (T := F_Mod) (N := 61) hx hb hts in_Mod hown hK hP 0 rfl rfl 15 (by decide) (hts _ wd_1265) (fun _ h9 => h9) rfl d_Mod_linkConstant_211 ?_
                          refine lv_iload_n hx hb d_Mod_linkConstant_214 rfl (lv_at hl 5 rfl) ?_
                          refine va_iald hx hb hK hP 3 0 rfl rfl (vp_in_nI (by omega) (by decide)) d_Mod_linkConstant_215 ?_
                          obtain ⟨x43, ex43⟩ : ∃ z : Int32, tl ((nI k).toNatClampNeg) = z := ⟨_, rfl⟩
                          refine tw_ri (e2 := x43) ex43 ?_
                          refine tw_wv (wr := [((q 2), aI g 600 bs), ((q 14), aI g 620 tg), ((q 15), aI g 620 tl), ((q 16), aI g 620 on), ((q 17), aI g 620 tw)]) (tw_runV (ws := [(h0, .inr (10, mob q rf n mm mb fa fp av ev wi mn tp tc sc nf fd me mp xn mt wh tq ag an ig)), ((q 2), aI g 600 bs), ((q 14), aI g 620 tg), ((q 15), aI g 620 tl), ((q 16), aI g 620 on), ((q 17), aI g 620 tw)]) (wc := [(h0, .inr (10, mob q rf n mm mb fa fp av ev wi mn tp tc sc nf fd me mp xn mt wh tq ag an ig))]) (As := [.int 10, .int x43]) (rest := []) E hB hK hZ (g_Mod_fail l g H.size h0 q rf n mm mb av ev wi mn tp tc sc nf fd me mp xn mt wh tq ag an ig fa fp 10 x43 (by decide)) mc_Mod_fail mi_Mod_fail me_Mod_fail wd_1478 hP hD hS hA [0] rfl (by decide) 0 rfl rfl rfl rfl rfl (by decide) rfl hl.1 rfl (Nat.le_of_ble_eq_true rfl) (by decide) d_Mod_linkConstant_216) hP hD hS hA [0] [1, 2, 3, 4, 5] rfl rfl (by decide) (by decide) (fun u45 H locs hr44 hP hD hS => ?_)
                          try dsimp only at hr44
                          have hP : va_P g.1 classes [((q 2), aI g 600 bs), ((q 14), aI g 620 tg), ((q 15), aI g 620 tl), ((q 16), aI g 620 on), ((q 17), aI g 620 tw), (h0, .inr (10, mob q rf n mm mb u45.1 u45.2 av ev wi mn tp tc sc nf fd me mp xn mt wh tq ag an ig))] H := hP
                          have hD : va_D A [((q 2), aI g 600 bs), ((q 14), aI g 620 tg), ((q 15), aI g 620 tl), ((q 16), aI g 620 on), ((q 17), aI g 620 tw), (h0, .inr (10, mob q rf n mm mb u45.1 u45.2 av ev wi mn tp tc sc nf fd me mp xn mt wh tq ag an ig))] := hD
                          have hP : va_P g.1 classes [(h0, .inr (10, mob q rf n mm mb u45.1 u45.2 av ev wi mn tp tc sc nf fd me mp xn mt wh tq ag an ig)), ((q 2), aI g 600 bs), ((q 14), aI g 620 tg), ((q 15), aI g 620 tl), ((q 16), aI g 620 on), ((q 17), aI g 620 tw)] H := hP.sub [5, 0, 1, 2, 3, 4] rfl
                          have hD : va_D A [(h0, .inr (10, mob q rf n mm mb u45.1 u45.2 av ev wi mn tp tc sc nf fd me mp xn mt wh tq ag an ig)), ((q 2), aI g 600 bs), ((q 14), aI g 620 tg), ((q 15), aI g 620 tl), ((q 16), aI g 620 on), ((q 17), aI g 620 tw)] := hD.sub [5, 0, 1, 2, 3, 4] (by decide) rfl
                          have hp45_0 := hr44
                          refine lv_goto (tgt := 280) hx hb d_Mod_linkConstant_219 (by decide) ?_
                          exact tw_vret E hS (u45.1, u45.2) (⟨(fun h => absurd h hp45_0), (fun h => absurd h hp45_0)⟩) hP hD d_Mod_linkConstant_280
                  · exact absurd (h87.symm.trans h139) (by decide)
                · first | exact absurd h118 (by decide) | exact absurd (by decide) h118
        · refine lv_aload_n hx hb d_Mod_linkConstant_55 rfl (lv_at hl 3 rfl) ?_
          refine lv_iload_n hx hb d_Mod_linkConstant_56 rfl (lv_at hl 1 rfl) ?_
          refine lv_bipush (v := 7) hx hb d_Mod_linkConstant_57 (by decide) ?_
          refine tw_si (tw_runV (ws := [(h0, .inr (10, mob q rf n mm mb fa fp av ev wi mn tp tc sc nf fd me mp xn mt wh tq ag an ig)), ((q 2), aI g 600 bs), ((q 14), aI g 620 tg), ((q 15), aI g 620 tl), ((q 16), aI g 620 on), ((q 17), aI g 620 tw)]) (wc := [(h0, .inr (10, mob q rf n mm mb fa fp av ev wi mn tp tc sc nf fd me mp xn mt wh tq ag an ig)), ((q 14), aI g 620 tg)]) (As := [.int xa, .int 7]) (rest := []) E hB hK hZ (g_Mod_isTagI l g H.size h0 q rf n mm mb fa fp av ev wi mn tp tc sc nf fd me mp xn mt wh tq ag an ig tg xa 7 (by omega)) mc_Mod_isTag mi_Mod_isTag me_Mod_isTag wd_1508 hP hD hS hA [0, 2] rfl (by decide) 0 rfl rfl rfl rfl rfl (by decide) rfl hl.1 rfl (Nat.le_of_ble_eq_true rfl) (by decide) d_Mod_linkConstant_59) (fun r46 hr46 => ?_)
          have hB46 := hr46
          refine lv_if_eq (tgt := 80) hx hb d_Mod_linkConstant_62 (by decide) (fun h62 => ?_) (fun h62 => ?_)
          · refine lv_iconst (v := 0) hx hb d_Mod_linkConstant_80 (by decide) ?_
            refine lv_goto (tgt := 114) hx hb d_Mod_linkConstant_81 (by decide) ?_
            refine lv_istore hx hb d_Mod_linkConstant_114 hl (by decide) rfl (fun ls hl => ?_)
            have hl : lv_has ls 6 [(5, .int 0), (4, .int xb2), (3, .int xa), (2, .int (tg k)), (0, .ref h0), (1, .int (nI k))] := hl
            refine lv_iload hx hb d_Mod_linkConstant_116 (lv_at hl 0 rfl) ?_
            refine lv_if_ne (tgt := 136) hx hb d_Mod_linkConstant_118 (by decide) (fun h118 => ?_) (fun h118 => ?_)
            · first | exact absurd h118 (by decide) | exact absurd (by decide) h118
            · refine lv_aload_n hx hb d_Mod_linkConstant_121 rfl (lv_at hl 4 rfl) ?_
              refine lv_bipush (v := 6) hx hb d_Mod_linkConstant_122 (by decide) ?_
              refine lv_aload_n hx hb d_Mod_linkConstant_124 rfl (lv_at hl 4 rfl) ?_
              refine va_get (D := g.1) (ci := 10) (v := .ref (q 15)) (C := R_Mod) (T := F_Mod) (N := 61) hx hb hts in_Mod hown hK hP 0 rfl rfl 15 (by decide) (hts _ wd_1265) (fun _ h9 => h9) rfl d_Mod_linkConstant_125 ?_
              refine lv_iload_n hx hb d_Mod_linkConstant_128 rfl (lv_at hl 5 rfl) ?_
              refine va_iald hx hb hK hP 3 0 rfl rfl (vp_in_nI (by omega) (by decide)) d_Mod_linkConstant_129 ?_
              obtain ⟨x47, ex47⟩ : ∃ z : Int32, tl ((nI k).toNatClampNeg) = z := ⟨_, rfl⟩
              refine tw_ri (e2 := x47) ex47 ?_
              refine tw_wv (wr := [((q 2), aI g 600 bs), ((q 14), aI g 620 tg), ((q 15), aI g 620 tl), ((q 16), aI g 620 on), ((q 17), aI g 620 tw)]) (tw_runV (ws := [(h0, .inr (10, mob q rf n mm mb fa fp av ev wi mn tp tc sc nf fd me mp xn mt wh tq ag an ig)), ((q 2), aI g 600 bs), ((q 14), aI g 620 tg), ((q 15), aI g 620 tl), ((q 16), aI g 620 on), ((q 17), aI g 620 tw)]) (wc := [(h0, .inr (10, mob q rf n mm mb fa fp av ev wi mn tp tc sc nf fd me mp xn mt wh tq ag an ig))]) (As := [.int 6, .int x47]) (rest := []) E hB hK hZ (g_Mod_fail l g H.size h0 q rf n mm mb av ev wi mn tp tc sc nf fd me mp xn mt wh tq ag an ig fa fp 6 x47 (by decide)) mc_Mod_fail mi_Mod_fail me_Mod_fail wd_1478 hP hD hS hA [0] rfl (by decide) 0 rfl rfl rfl rfl rfl (by decide) rfl hl.1 rfl (Nat.le_of_ble_eq_true rfl) (by decide) d_Mod_linkConstant_130) hP hD hS hA [0] [1, 2, 3, 4, 5] rfl rfl (by decide) (by decide) (fun u49 H locs hr48 hP hD hS => ?_)
              try dsimp only at hr48
              have hP : va_P g.1 classes [((q 2), aI g 600 bs), ((q 14), aI g 620 tg), ((q 15), aI g 620 tl), ((q 16), aI g 620 on), ((q 17), aI g 620 tw), (h0, .inr (10, mob q rf n mm mb u49.1 u49.2 av ev wi mn tp tc sc nf fd me mp xn mt wh tq ag an ig))] H := hP
              have hD : va_D A [((q 2), aI g 600 bs), ((q 14), aI g 620 tg), ((q 15), aI g 620 tl), ((q 16), aI g 620 on), ((q 17), aI g 620 tw), (h0, .inr (10, mob q rf n mm mb u49.1 u49.2 av ev wi mn tp tc sc nf fd me mp xn mt wh tq ag an ig))] := hD
              have hP : va_P g.1 classes [(h0, .inr (10, mob q rf n mm mb u49.1 u49.2 av ev wi mn tp tc sc nf fd me mp xn mt wh tq ag an ig)), ((q 2), aI g 600 bs), ((q 14), aI g 620 tg), ((q 15), aI g 620 tl), ((q 16), aI g 620 on), ((q 17), aI g 620 tw)] H := hP.sub [5, 0, 1, 2, 3, 4] rfl
              have hD : va_D A [(h0, .inr (10, mob q rf n mm mb u49.1 u49.2 av ev wi mn tp tc sc nf fd me mp xn mt wh tq ag an ig)), ((q 2), aI g 600 bs), ((q 14), aI g 620 tg), ((q 15), aI g 620 tl), ((q 16), aI g 620 on), ((q 17), aI g 620 tw)] := hD.sub [5, 0, 1, 2, 3, 4] (by decide) rfl
              have hp49_0 := hr48
              refine lv_goto (tgt := 280) hx hb d_Mod_linkConstant_133 (by decide) ?_
              exact tw_vret E hS (u49.1, u49.2) (⟨(fun h => absurd h hp49_0), (fun h => absurd h hp49_0)⟩) hP hD d_Mod_linkConstant_280
          · have hT62 := hB46.2 (hB46.1.resolve_left h62)
            have hT62b : TGv mn tg 7 (on k) := by rw [exa]; exact hT62
            refine lv_aload_n hx hb d_Mod_linkConstant_65 rfl (lv_at hl 3 rfl) ?_
            refine lv_iload hx hb d_Mod_linkConstant_66 (lv_at hl 0 rfl) ?_
            refine lv_bipush (v := 12) hx hb d_Mod_linkConstant_68 (by decide) ?_
            refine tw_si (tw_runV (ws := [(h0, .inr (10, mob q rf n mm mb fa fp av ev wi mn tp tc sc nf fd me mp xn mt wh tq ag an ig)), ((q 2), aI g 600 bs), ((q 14), aI g 620 tg), ((q 15), aI g 620 tl), ((q 16), aI g 620 on), ((q 17), aI g 620 tw)]) (wc := [(h0, .inr (10, mob q rf n mm mb fa fp av ev wi mn tp tc sc nf fd me mp xn mt wh tq ag an ig)), ((q 14), aI g 620 tg)]) (As := [.int xb2, .int 12]) (rest := []) E hB hK hZ (g_Mod_isTagI l g H.size h0 q rf n mm mb fa fp av ev wi mn tp tc sc nf fd me mp xn mt wh tq ag an ig tg xb2 12 (by omega)) mc_Mod_isTag mi_Mod_isTag me_Mod_isTag wd_1508 hP hD hS hA [0, 2] rfl (by decide) 0 rfl rfl rfl rfl rfl (by decide) rfl hl.1 rfl (Nat.le_of_ble_eq_true rfl) (by decide) d_Mod_linkConstant_70) (fun r50 hr50 => ?_)
            have hB50 := hr50
            refine lv_if_eq (tgt := 80) hx hb d_Mod_linkConstant_73 (by decide) (fun h73 => ?_) (fun h73 => ?_)
            · refine lv_iconst (v := 0) hx hb d_Mod_linkConstant_80 (by decide) ?_
              refine lv_goto (tgt := 114) hx hb d_Mod_linkConstant_81 (by decide) ?_
              refine lv_istore hx hb d_Mod_linkConstant_114 hl (by decide) rfl (fun ls hl => ?_)
              have hl : lv_has ls 6 [(5, .int 0), (4, .int xb2), (3, .int xa), (2, .int (tg k)), (0, .ref h0), (1, .int (nI k))] := hl
              refine lv_iload hx hb d_Mod_linkConstant_116 (lv_at hl 0 rfl) ?_
              refine lv_if_ne (tgt := 136) hx hb d_Mod_linkConstant_118 (by decide) (fun h118 => ?_) (fun h118 => ?_)
              · first | exact absurd h118 (by decide) | exact absurd (by decide) h118
              · refine lv_aload_n hx hb d_Mod_linkConstant_121 rfl (lv_at hl 4 rfl) ?_
                refine lv_bipush (v := 6) hx hb d_Mod_linkConstant_122 (by decide) ?_
                refine lv_aload_n hx hb d_Mod_linkConstant_124 rfl (lv_at hl 4 rfl) ?_
                refine va_get (D := g.1) (ci := 10) (v := .ref (q 15)) (C := R_Mod) (T := F_Mod) (N := 61) hx hb hts in_Mod hown hK hP 0 rfl rfl 15 (by decide) (hts _ wd_1265) (fun _ h9 => h9) rfl d_Mod_linkConstant_125 ?_
                refine lv_iload_n hx hb d_Mod_linkConstant_128 rfl (lv_at hl 5 rfl) ?_
                refine va_iald hx hb hK hP 3 0 rfl rfl (vp_in_nI (by omega) (by decide)) d_Mod_linkConstant_129 ?_
                obtain ⟨x51, ex51⟩ : ∃ z : Int32, tl ((nI k).toNatClampNeg) = z := ⟨_, rfl⟩
                refine tw_ri (e2 := x51) ex51 ?_
                refine tw_wv (wr := [((q 2), aI g 600 bs), ((q 14), aI g 620 tg), ((q 15), aI g 620 tl), ((q 16), aI g 620 on), ((q 17), aI g 620 tw)]) (tw_runV (ws := [(h0, .inr (10, mob q rf n mm mb fa fp av ev wi mn tp tc sc nf fd me mp xn mt wh tq ag an ig)), ((q 2), aI g 600 bs), ((q 14), aI g 620 tg), ((q 15), aI g 620 tl), ((q 16), aI g 620 on), ((q 17), aI g 620 tw)]) (wc := [(h0, .inr (10, mob q rf n mm mb fa fp av ev wi mn tp tc sc nf fd me mp xn mt wh tq ag an ig))]) (As := [.int 6, .int x51]) (rest := []) E hB hK hZ (g_Mod_fail l g H.size h0 q rf n mm mb av ev wi mn tp tc sc nf fd me mp xn mt wh tq ag an ig fa fp 6 x51 (by decide)) mc_Mod_fail mi_Mod_fail me_Mod_fail wd_1478 hP hD hS hA [0] rfl (by decide) 0 rfl rfl rfl rfl rfl (by decide) rfl hl.1 rfl (Nat.le_of_ble_eq_true rfl) (by decide) d_Mod_linkConstant_130) hP hD hS hA [0] [1, 2, 3, 4, 5] rfl rfl (by decide) (by decide) (fun u53 H locs hr52 hP hD hS => ?_)
                try dsimp only at hr52
                have hP : va_P g.1 classes [((q 2), aI g 600 bs), ((q 14), aI g 620 tg), ((q 15), aI g 620 tl), ((q 16), aI g 620 on), ((q 17), aI g 620 tw), (h0, .inr (10, mob q rf n mm mb u53.1 u53.2 av ev wi mn tp tc sc nf fd me mp xn mt wh tq ag an ig))] H := hP
                have hD : va_D A [((q 2), aI g 600 bs), ((q 14), aI g 620 tg), ((q 15), aI g 620 tl), ((q 16), aI g 620 on), ((q 17), aI g 620 tw), (h0, .inr (10, mob q rf n mm mb u53.1 u53.2 av ev wi mn tp tc sc nf fd me mp xn mt wh tq ag an ig))] := hD
                have hP : va_P g.1 classes [(h0, .inr (10, mob q rf n mm mb u53.1 u53.2 av ev wi mn tp tc sc nf fd me mp xn mt wh tq ag an ig)), ((q 2), aI g 600 bs), ((q 14), aI g 620 tg), ((q 15), aI g 620 tl), ((q 16), aI g 620 on), ((q 17), aI g 620 tw)] H := hP.sub [5, 0, 1, 2, 3, 4] rfl
                have hD : va_D A [(h0, .inr (10, mob q rf n mm mb u53.1 u53.2 av ev wi mn tp tc sc nf fd me mp xn mt wh tq ag an ig)), ((q 2), aI g 600 bs), ((q 14), aI g 620 tg), ((q 15), aI g 620 tl), ((q 16), aI g 620 on), ((q 17), aI g 620 tw)] := hD.sub [5, 0, 1, 2, 3, 4] (by decide) rfl
                have hp53_0 := hr52
                refine lv_goto (tgt := 280) hx hb d_Mod_linkConstant_133 (by decide) ?_
                exact tw_vret E hS (u53.1, u53.2) (⟨(fun h => absurd h hp53_0), (fun h => absurd h hp53_0)⟩) hP hD d_Mod_linkConstant_280
            · have hT73 := hB50.2 (hB50.1.resolve_left h73)
              have hT73b : TGv mn tg 12 (tw k) := by rw [exb2]; exact hT73
              refine lv_iconst (v := 1) hx hb d_Mod_linkConstant_76 (by decide) ?_
              refine lv_goto (tgt := 114) hx hb d_Mod_linkConstant_77 (by decide) ?_
              refine lv_istore hx hb d_Mod_linkConstant_114 hl (by decide) rfl (fun ls hl => ?_)
              have hl : lv_has ls 6 [(5, .int 1), (4, .int xb2), (3, .int xa), (2, .int (tg k)), (0, .ref h0), (1, .int (nI k))] := hl
              refine lv_iload hx hb d_Mod_linkConstant_116 (lv_at hl 0 rfl) ?_
              refine lv_if_ne (tgt := 136) hx hb d_Mod_linkConstant_118 (by decide) (fun h118 => ?_) (fun h118 => ?_)
              · refine lv_iload_n hx hb d_Mod_linkConstant_136 rfl (lv_at hl 3 rfl) ?_
                refine lv_bipush (v := 7) hx hb d_Mod_linkConstant_137 (by decide) ?_
                refine lv_icmp_ne (tgt := 175) hx hb d_Mod_linkConstant_139 (by decide) (fun h139 => ?_) (fun h139 => ?_)
                · refine lv_iload_n hx hb d_Mod_linkConstant_175 rfl (lv_at hl 3 rfl) ?_
                  refine lv_bipush (v := 12) hx hb d_Mod_linkConstant_176 (by decide) ?_
                  refine lv_icmp_ne (tgt := 222) hx hb d_Mod_linkConstant_178 (by decide) (fun h178 => ?_) (fun h178 => ?_)
                  · refine lv_iload_n hx hb d_Mod_linkConstant_222 rfl (lv_at hl 3 rfl) ?_
                    refine lv_bipush (v := 12) hx hb d_Mod_linkConstant_223 (by decide) ?_
                    refine lv_icmp_ne (tgt := 280) hx hb d_Mod_linkConstant_225 (by decide) (fun h225 => ?_) (fun h225 => ?_)
                    · exact tw_vret E hS (fa, fp) (⟨(fun h => h), (fun _ => by exact LC1.d h52 hT62b hT73b)⟩) hP hD d_Mod_linkConstant_280
                    · exact absurd (h52.symm.trans h225) (by decide)
                  · exact absurd (h52.symm.trans h178) (by decide)
                · exact absurd (h52.symm.trans h139) (by decide)
              · first | exact absurd h118 (by decide) | exact absurd (by decide) h118
    · refine lv_aload_n hx hb d_Mod_linkConstant_34 rfl (lv_at hl 3 rfl) ?_
      refine lv_iload_n hx hb d_Mod_linkConstant_35 rfl (lv_at hl 1 rfl) ?_
      refine lv_iconst (v := 1) hx hb d_Mod_linkConstant_36 (by decide) ?_
      refine tw_si (tw_runV (ws := [(h0, .inr (10, mob q rf n mm mb fa fp av ev wi mn tp tc sc nf fd me mp xn mt wh tq ag an ig)), ((q 2), aI g 600 bs), ((q 14), aI g 620 tg), ((q 15), aI g 620 tl), ((q 16), aI g 620 on), ((q 17), aI g 620 tw)]) (wc := [(h0, .inr (10, mob q rf n mm mb fa fp av ev wi mn tp tc sc nf fd me mp xn mt wh tq ag an ig)), ((q 14), aI g 620 tg)]) (As := [.int xa, .int 1]) (rest := []) E hB hK hZ (g_Mod_isTagI l g H.size h0 q rf n mm mb fa fp av ev wi mn tp tc sc nf fd me mp xn mt wh tq ag an ig tg xa 1 (by omega)) mc_Mod_isTag mi_Mod_isTag me_Mod_isTag wd_1508 hP hD hS hA [0, 2] rfl (by decide) 0 rfl rfl rfl rfl rfl (by decide) rfl hl.1 rfl (Nat.le_of_ble_eq_true rfl) (by decide) d_Mod_linkConstant_37) (fun r54 hr54 => ?_)
      have hB54 := hr54
      refine lv_goto (tgt := 114) hx hb d_Mod_linkConstant_40 (by decide) ?_
      refine lv_istore hx hb d_Mod_linkConstant_114 hl (by decide) rfl (fun ls hl => ?_)
      have hl : lv_has ls 6 [(5, .int r54), (4, .int xb2), (3, .int xa), (2, .int (tg k)), (0, .ref h0), (1, .int (nI k))] := hl
      refine lv_iload hx hb d_Mod_linkConstant_116 (lv_at hl 0 rfl) ?_
      refine lv_if_ne (tgt := 136) hx hb d_Mod_linkConstant_118 (by decide) (fun h118 => ?_) (fun h118 => ?_)
      · have hT118 := hB54.2 (hB54.1.resolve_left h118)
        obtain ⟨ja, ja0, ja1, jae, jat⟩ := hT118
        subst jae
        obtain ⟨pa, la, paa, pab, pac⟩ := hTX ja (by omega) jat
        refine lv_iload_n hx hb d_Mod_linkConstant_136 rfl (lv_at hl 3 rfl) ?_
        refine lv_bipush (v := 7) hx hb d_Mod_linkConstant_137 (by decide) ?_
        refine lv_icmp_ne (tgt := 175) hx hb d_Mod_linkConstant_139 (by decide) (fun h139 => ?_) (fun h139 => ?_)
        · refine lv_iload_n hx hb d_Mod_linkConstant_175 rfl (lv_at hl 3 rfl) ?_
          refine lv_bipush (v := 12) hx hb d_Mod_linkConstant_176 (by decide) ?_
          refine lv_icmp_ne (tgt := 222) hx hb d_Mod_linkConstant_178 (by decide) (fun h178 => ?_) (fun h178 => ?_)
          · refine lv_iload_n hx hb d_Mod_linkConstant_222 rfl (lv_at hl 3 rfl) ?_
            refine lv_bipush (v := 12) hx hb d_Mod_linkConstant_223 (by decide) ?_
            refine lv_icmp_ne (tgt := 280) hx hb d_Mod_linkConstant_225 (by decide) (fun h225 => ?_) (fun h225 => ?_)
            · exact tw_vret E hS (fa, fp) (⟨(fun h => h), (fun _ => by exact LC1.b h31 ⟨ja, ja0, ja1, exa, jat⟩)⟩) hP hD d_Mod_linkConstant_280
            · exact absurd (h31.symm.trans h225) (by decide)
          · exact absurd (h31.symm.trans h178) (by decide)
        · exact absurd (h31.symm.trans h139) (by decide)
      · refine lv_aload_n hx hb d_Mod_linkConstant_121 rfl (lv_at hl 4 rfl) ?_
        refine lv_bipush (v := 6) hx hb d_Mod_linkConstant_122 (by decide) ?_
        refine lv_aload_n hx hb d_Mod_linkConstant_124 rfl (lv_at hl 4 rfl) ?_
        refine va_get (D := g.1) (ci := 10) (v := .ref (q 15)) (C := R_Mod) (T := F_Mod) (N := 61) hx hb hts in_Mod hown hK hP 0 rfl rfl 15 (by decide) (hts _ wd_1265) (fun _ h9 => h9) rfl d_Mod_linkConstant_125 ?_
        refine lv_iload_n hx hb d_Mod_linkConstant_128 rfl (lv_at hl 5 rfl) ?_
        refine va_iald hx hb hK hP 3 0 rfl rfl (vp_in_nI (by omega) (by decide)) d_Mod_linkConstant_129 ?_
        obtain ⟨x55, ex55⟩ : ∃ z : Int32, tl ((nI k).toNatClampNeg) = z := ⟨_, rfl⟩
        refine tw_ri (e2 := x55) ex55 ?_
        refine tw_wv (wr := [((q 2), aI g 600 bs), ((q 14), aI g 620 tg), ((q 15), aI g 620 tl), ((q 16), aI g 620 on), ((q 17), aI g 620 tw)]) (tw_runV (ws := [(h0, .inr (10, mob q rf n mm mb fa fp av ev wi mn tp tc sc nf fd me mp xn mt wh tq ag an ig)), ((q 2), aI g 600 bs), ((q 14), aI g 620 tg), ((q 15), aI g 620 tl), ((q 16), aI g 620 on), ((q 17), aI g 620 tw)]) (wc := [(h0, .inr (10, mob q rf n mm mb fa fp av ev wi mn tp tc sc nf fd me mp xn mt wh tq ag an ig))]) (As := [.int 6, .int x55]) (rest := []) E hB hK hZ (g_Mod_fail l g H.size h0 q rf n mm mb av ev wi mn tp tc sc nf fd me mp xn mt wh tq ag an ig fa fp 6 x55 (by decide)) mc_Mod_fail mi_Mod_fail me_Mod_fail wd_1478 hP hD hS hA [0] rfl (by decide) 0 rfl rfl rfl rfl rfl (by decide) rfl hl.1 rfl (Nat.le_of_ble_eq_true rfl) (by decide) d_Mod_linkConstant_130) hP hD hS hA [0] [1, 2, 3, 4, 5] rfl rfl (by decide) (by decide) (fun u57 H locs hr56 hP hD hS => ?_)
        try dsimp only at hr56
        have hP : va_P g.1 classes [((q 2), aI g 600 bs), ((q 14), aI g 620 tg), ((q 15), aI g 620 tl), ((q 16), aI g 620 on), ((q 17), aI g 620 tw), (h0, .inr (10, mob q rf n mm mb u57.1 u57.2 av ev wi mn tp tc sc nf fd me mp xn mt wh tq ag an ig))] H := hP
        have hD : va_D A [((q 2), aI g 600 bs), ((q 14), aI g 620 tg), ((q 15), aI g 620 tl), ((q 16), aI g 620 on), ((q 17), aI g 620 tw), (h0, .inr (10, mob q rf n mm mb u57.1 u57.2 av ev wi mn tp tc sc nf fd me mp xn mt wh tq ag an ig))] := hD
        have hP : va_P g.1 classes [(h0, .inr (10, mob q rf n mm mb u57.1 u57.2 av ev wi mn tp tc sc nf fd me mp xn mt wh tq ag an ig)), ((q 2), aI g 600 bs), ((q 14), aI g 620 tg), ((q 15), aI g 620 tl), ((q 16), aI g 620 on), ((q 17), aI g 620 tw)] H := hP.sub [5, 0, 1, 2, 3, 4] rfl
        have hD : va_D A [(h0, .inr (10, mob q rf n mm mb u57.1 u57.2 av ev wi mn tp tc sc nf fd me mp xn mt wh tq ag an ig)), ((q 2), aI g 600 bs), ((q 14), aI g 620 tg), ((q 15), aI g 620 tl), ((q 16), aI g 620 on), ((q 17), aI g 620 tw)] := hD.sub [5, 0, 1, 2, 3, 4] (by decide) rfl
        have hp57_0 := hr56
        refine lv_goto (tgt := 280) hx hb d_Mod_linkConstant_133 (by decide) ?_
        exact tw_vret E hS (u57.1, u57.2) (⟨(fun h => absurd h hp57_0), (fun h => absurd h hp57_0)⟩) hP hD d_Mod_linkConstant_280
end
section
theorem d_Mod_linkMember_0 : decode b_Mod_linkMember 0 = .ok (.iload_n 1, 1) := by decide +kernel
theorem d_Mod_linkMember_1 : decode b_Mod_linkMember 1 = .ok (.aload_n 0, 1) := by decide +kernel
theorem d_Mod_linkMember_2 : decode b_Mod_linkMember 2 = .ok (.getfield 232, 3) := by decide +kernel
theorem d_Mod_linkMember_5 : decode b_Mod_linkMember 5 = .ok (.if_icmp .lt 7, 3) := by decide +kernel
theorem d_Mod_linkMember_8 : decode b_Mod_linkMember 8 = .ok (.iconst 1, 1) := by decide +kernel
theorem d_Mod_linkMember_9 : decode b_Mod_linkMember 9 = .ok (.goto 4, 3) := by decide +kernel
theorem d_Mod_linkMember_12 : decode b_Mod_linkMember 12 = .ok (.iconst 0, 1) := by decide +kernel
theorem d_Mod_linkMember_13 : decode b_Mod_linkMember 13 = .ok (.istore_n 2, 1) := by decide +kernel
theorem d_Mod_linkMember_14 : decode b_Mod_linkMember 14 = .ok (.aload_n 0, 1) := by decide +kernel
theorem d_Mod_linkMember_15 : decode b_Mod_linkMember 15 = .ok (.aload_n 0, 1) := by decide +kernel
theorem d_Mod_linkMember_16 : decode b_Mod_linkMember 16 = .ok (.getfield 56, 3) := by decide +kernel
theorem d_Mod_linkMember_19 : decode b_Mod_linkMember 19 = .ok (.iload_n 1, 1) := by decide +kernel
theorem d_Mod_linkMember_20 : decode b_Mod_linkMember 20 = .ok (.iaload, 1) := by decide +kernel
theorem d_Mod_linkMember_21 : decode b_Mod_linkMember 21 = .ok (.iconst 1, 1) := by decide +kernel
theorem d_Mod_linkMember_22 : decode b_Mod_linkMember 22 = .ok (.invokevirtual 184, 3) := by decide +kernel
theorem d_Mod_linkMember_25 : decode b_Mod_linkMember 25 = .ok (.ifCond .eq 17, 3) := by decide +kernel
theorem d_Mod_linkMember_28 : decode b_Mod_linkMember 28 = .ok (.aload_n 0, 1) := by decide +kernel
theorem d_Mod_linkMember_29 : decode b_Mod_linkMember 29 = .ok (.aload_n 0, 1) := by decide +kernel
theorem d_Mod_linkMember_30 : decode b_Mod_linkMember 30 = .ok (.getfield 59, 3) := by decide +kernel
theorem d_Mod_linkMember_33 : decode b_Mod_linkMember 33 = .ok (.iload_n 1, 1) := by decide +kernel
theorem d_Mod_linkMember_34 : decode b_Mod_linkMember 34 = .ok (.iaload, 1) := by decide +kernel
theorem d_Mod_linkMember_35 : decode b_Mod_linkMember 35 = .ok (.iconst 1, 1) := by decide +kernel
theorem d_Mod_linkMember_36 : decode b_Mod_linkMember 36 = .ok (.invokevirtual 184, 3) := by decide +kernel
theorem d_Mod_linkMember_39 : decode b_Mod_linkMember 39 = .ok (.ifCond .ne 16, 3) := by decide +kernel
theorem d_Mod_linkMember_42 : decode b_Mod_linkMember 42 = .ok (.aload_n 0, 1) := by decide +kernel
theorem d_Mod_linkMember_43 : decode b_Mod_linkMember 43 = .ok (.bipush 6, 2) := by decide +kernel
theorem d_Mod_linkMember_45 : decode b_Mod_linkMember 45 = .ok (.aload_n 0, 1) := by decide +kernel
theorem d_Mod_linkMember_46 : decode b_Mod_linkMember 46 = .ok (.getfield 53, 3) := by decide +kernel
theorem d_Mod_linkMember_49 : decode b_Mod_linkMember 49 = .ok (.iload_n 1, 1) := by decide +kernel
theorem d_Mod_linkMember_50 : decode b_Mod_linkMember 50 = .ok (.iaload, 1) := by decide +kernel
theorem d_Mod_linkMember_51 : decode b_Mod_linkMember 51 = .ok (.invokevirtual 159, 3) := by decide +kernel
theorem d_Mod_linkMember_54 : decode b_Mod_linkMember 54 = .ok (.return_, 1) := by decide +kernel
theorem d_Mod_linkMember_55 : decode b_Mod_linkMember 55 = .ok (.aload_n 0, 1) := by decide +kernel
theorem d_Mod_linkMember_56 : decode b_Mod_linkMember 56 = .ok (.getfield 56, 3) := by decide +kernel
theorem d_Mod_linkMember_59 : decode b_Mod_linkMember 59 = .ok (.iload_n 1, 1) := by decide +kernel
theorem d_Mod_linkMember_60 : decode b_Mod_linkMember 60 = .ok (.iaload, 1) := by decide +kernel
theorem d_Mod_linkMember_61 : decode b_Mod_linkMember 61 = .ok (.istore_n 3, 1) := by decide +kernel
theorem d_Mod_linkMember_62 : decode b_Mod_linkMember 62 = .ok (.aload_n 0, 1) := by decide +kernel
theorem d_Mod_linkMember_63 : decode b_Mod_linkMember 63 = .ok (.getfield 59, 3) := by decide +kernel
theorem d_Mod_linkMember_66 : decode b_Mod_linkMember 66 = .ok (.iload_n 1, 1) := by decide +kernel
theorem d_Mod_linkMember_67 : decode b_Mod_linkMember 67 = .ok (.iaload, 1) := by decide +kernel
theorem d_Mod_linkMember_68 : decode b_Mod_linkMember 68 = .ok (.istore 4, 2) := by decide +kernel
theorem d_Mod_linkMember_70 : decode b_Mod_linkMember 70 = .ok (.aload_n 0, 1) := by decide +kernel
theorem d_Mod_linkMember_71 : decode b_Mod_linkMember 71 = .ok (.aload_n 0, 1) := by decide +kernel
theorem d_Mod_linkMember_72 : decode b_Mod_linkMember 72 = .ok (.getfield 38, 3) := by decide +kernel
theorem d_Mod_linkMember_75 : decode b_Mod_linkMember 75 = .ok (.iload_n 3, 1) := by decide +kernel
theorem d_Mod_linkMember_76 : decode b_Mod_linkMember 76 = .ok (.iaload, 1) := by decide +kernel
theorem d_Mod_linkMember_77 : decode b_Mod_linkMember 77 = .ok (.aload_n 0, 1) := by decide +kernel
theorem d_Mod_linkMember_78 : decode b_Mod_linkMember 78 = .ok (.iload_n 3, 1) := by decide +kernel
theorem d_Mod_linkMember_79 : decode b_Mod_linkMember 79 = .ok (.invokevirtual 254, 3) := by decide +kernel
theorem d_Mod_linkMember_82 : decode b_Mod_linkMember 82 = .ok (.invokevirtual 241, 3) := by decide +kernel
theorem d_Mod_linkMember_85 : decode b_Mod_linkMember 85 = .ok (.ifCond .ne 38, 3) := by decide +kernel
theorem d_Mod_linkMember_88 : decode b_Mod_linkMember 88 = .ok (.iload_n 2, 1) := by decide +kernel
theorem d_Mod_linkMember_89 : decode b_Mod_linkMember 89 = .ok (.ifCond .eq 19, 3) := by decide +kernel
theorem d_Mod_linkMember_92 : decode b_Mod_linkMember 92 = .ok (.aload_n 0, 1) := by decide +kernel
theorem d_Mod_linkMember_93 : decode b_Mod_linkMember 93 = .ok (.iload_n 3, 1) := by decide +kernel
theorem d_Mod_linkMember_94 : decode b_Mod_linkMember 94 = .ok (.invokevirtual 258, 3) := by decide +kernel
theorem d_Mod_linkMember_97 : decode b_Mod_linkMember 97 = .ok (.ifCond .ne 26, 3) := by decide +kernel
theorem d_Mod_linkMember_100 : decode b_Mod_linkMember 100 = .ok (.aload_n 0, 1) := by decide +kernel
theorem d_Mod_linkMember_101 : decode b_Mod_linkMember 101 = .ok (.iload_n 3, 1) := by decide +kernel
theorem d_Mod_linkMember_102 : decode b_Mod_linkMember 102 = .ok (.invokevirtual 264, 3) := by decide +kernel
theorem d_Mod_linkMember_105 : decode b_Mod_linkMember 105 = .ok (.ifCond .ne 18, 3) := by decide +kernel
theorem d_Mod_linkMember_108 : decode b_Mod_linkMember 108 = .ok (.aload_n 0, 1) := by decide +kernel
theorem d_Mod_linkMember_109 : decode b_Mod_linkMember 109 = .ok (.bipush 10, 2) := by decide +kernel
theorem d_Mod_linkMember_111 : decode b_Mod_linkMember 111 = .ok (.aload_n 0, 1) := by decide +kernel
theorem d_Mod_linkMember_112 : decode b_Mod_linkMember 112 = .ok (.getfield 53, 3) := by decide +kernel
theorem d_Mod_linkMember_115 : decode b_Mod_linkMember 115 = .ok (.iload_n 1, 1) := by decide +kernel
theorem d_Mod_linkMember_116 : decode b_Mod_linkMember 116 = .ok (.iaload, 1) := by decide +kernel
theorem d_Mod_linkMember_117 : decode b_Mod_linkMember 117 = .ok (.invokevirtual 159, 3) := by decide +kernel
theorem d_Mod_linkMember_120 : decode b_Mod_linkMember 120 = .ok (.goto 62, 3) := by decide +kernel
theorem d_Mod_linkMember_123 : decode b_Mod_linkMember 123 = .ok (.iload_n 2, 1) := by decide +kernel
theorem d_Mod_linkMember_124 : decode b_Mod_linkMember 124 = .ok (.ifCond .eq 26, 3) := by decide +kernel
theorem d_Mod_linkMember_127 : decode b_Mod_linkMember 127 = .ok (.aload_n 0, 1) := by decide +kernel
theorem d_Mod_linkMember_128 : decode b_Mod_linkMember 128 = .ok (.aload_n 0, 1) := by decide +kernel
theorem d_Mod_linkMember_129 : decode b_Mod_linkMember 129 = .ok (.getfield 38, 3) := by decide +kernel
theorem d_Mod_linkMember_132 : decode b_Mod_linkMember 132 = .ok (.iload 4, 2) := by decide +kernel
theorem d_Mod_linkMember_134 : decode b_Mod_linkMember 134 = .ok (.iaload, 1) := by decide +kernel
theorem d_Mod_linkMember_135 : decode b_Mod_linkMember 135 = .ok (.aload_n 0, 1) := by decide +kernel
theorem d_Mod_linkMember_136 : decode b_Mod_linkMember 136 = .ok (.iload 4, 2) := by decide +kernel
theorem d_Mod_linkMember_138 : decode b_Mod_linkMember 138 = .ok (.invokevirtual 254, 3) := by decide +kernel
theorem d_Mod_linkMember_141 : decode b_Mod_linkMember 141 = .ok (.invokevirtual 261, 3) := by decide +kernel
theorem d_Mod_linkMember_144 : decode b_Mod_linkMember 144 = .ok (.ifCond .ne 38, 3) := by decide +kernel
theorem d_Mod_linkMember_147 : decode b_Mod_linkMember 147 = .ok (.goto 23, 3) := by decide +kernel
theorem d_Mod_linkMember_150 : decode b_Mod_linkMember 150 = .ok (.aload_n 0, 1) := by decide +kernel
theorem d_Mod_linkMember_151 : decode b_Mod_linkMember 151 = .ok (.aload_n 0, 1) := by decide +kernel
theorem d_Mod_linkMember_152 : decode b_Mod_linkMember 152 = .ok (.getfield 38, 3) := by decide +kernel
theorem d_Mod_linkMember_155 : decode b_Mod_linkMember 155 = .ok (.iload 4, 2) := by decide +kernel
theorem d_Mod_linkMember_157 : decode b_Mod_linkMember 157 = .ok (.iaload, 1) := by decide +kernel
theorem d_Mod_linkMember_158 : decode b_Mod_linkMember 158 = .ok (.aload_n 0, 1) := by decide +kernel
theorem d_Mod_linkMember_159 : decode b_Mod_linkMember 159 = .ok (.iload 4, 2) := by decide +kernel
theorem d_Mod_linkMember_161 : decode b_Mod_linkMember 161 = .ok (.invokevirtual 254, 3) := by decide +kernel
theorem d_Mod_linkMember_164 : decode b_Mod_linkMember 164 = .ok (.invokevirtual 251, 3) := by decide +kernel
theorem d_Mod_linkMember_167 : decode b_Mod_linkMember 167 = .ok (.ifCond .ne 15, 3) := by decide +kernel
theorem d_Mod_linkMember_170 : decode b_Mod_linkMember 170 = .ok (.aload_n 0, 1) := by decide +kernel
theorem d_Mod_linkMember_171 : decode b_Mod_linkMember 171 = .ok (.bipush 11, 2) := by decide +kernel
theorem d_Mod_linkMember_173 : decode b_Mod_linkMember 173 = .ok (.aload_n 0, 1) := by decide +kernel
theorem d_Mod_linkMember_174 : decode b_Mod_linkMember 174 = .ok (.getfield 53, 3) := by decide +kernel
theorem d_Mod_linkMember_177 : decode b_Mod_linkMember 177 = .ok (.iload_n 1, 1) := by decide +kernel
theorem d_Mod_linkMember_178 : decode b_Mod_linkMember 178 = .ok (.iaload, 1) := by decide +kernel
theorem d_Mod_linkMember_179 : decode b_Mod_linkMember 179 = .ok (.invokevirtual 159, 3) := by decide +kernel
theorem d_Mod_linkMember_182 : decode b_Mod_linkMember 182 = .ok (.iload_n 2, 1) := by decide +kernel
theorem d_Mod_linkMember_183 : decode b_Mod_linkMember 183 = .ok (.ifCond .eq 10, 3) := by decide +kernel
theorem d_Mod_linkMember_186 : decode b_Mod_linkMember 186 = .ok (.aload_n 0, 1) := by decide +kernel
theorem d_Mod_linkMember_187 : decode b_Mod_linkMember 187 = .ok (.getfield 232, 3) := by decide +kernel
theorem d_Mod_linkMember_190 : decode b_Mod_linkMember 190 = .ok (.goto 4, 3) := by decide +kernel
theorem d_Mod_linkMember_193 : decode b_Mod_linkMember 193 = .ok (.iconst 0, 1) := by decide +kernel
theorem d_Mod_linkMember_194 : decode b_Mod_linkMember 194 = .ok (.istore 5, 2) := by decide +kernel
theorem d_Mod_linkMember_196 : decode b_Mod_linkMember 196 = .ok (.iload 5, 2) := by decide +kernel
theorem d_Mod_linkMember_198 : decode b_Mod_linkMember 198 = .ok (.iload_n 1, 1) := by decide +kernel
theorem d_Mod_linkMember_199 : decode b_Mod_linkMember 199 = .ok (.if_icmp .ge 52, 3) := by decide +kernel
theorem d_Mod_linkMember_202 : decode b_Mod_linkMember 202 = .ok (.aload_n 0, 1) := by decide +kernel
theorem d_Mod_linkMember_203 : decode b_Mod_linkMember 203 = .ok (.aload_n 0, 1) := by decide +kernel
theorem d_Mod_linkMember_204 : decode b_Mod_linkMember 204 = .ok (.getfield 56, 3) := by decide +kernel
theorem d_Mod_linkMember_207 : decode b_Mod_linkMember 207 = .ok (.iload 5, 2) := by decide +kernel
theorem d_Mod_linkMember_209 : decode b_Mod_linkMember 209 = .ok (.iaload, 1) := by decide +kernel
theorem d_Mod_linkMember_210 : decode b_Mod_linkMember 210 = .ok (.iload_n 3, 1) := by decide +kernel
theorem d_Mod_linkMember_211 : decode b_Mod_linkMember 211 = .ok (.invokevirtual 267, 3) := by decide +kernel
theorem d_Mod_linkMember_214 : decode b_Mod_linkMember 214 = .ok (.ifCond .eq 31, 3) := by decide +kernel
theorem d_Mod_linkMember_217 : decode b_Mod_linkMember 217 = .ok (.aload_n 0, 1) := by decide +kernel
theorem d_Mod_linkMember_218 : decode b_Mod_linkMember 218 = .ok (.aload_n 0, 1) := by decide +kernel
theorem d_Mod_linkMember_219 : decode b_Mod_linkMember 219 = .ok (.getfield 59, 3) := by decide +kernel
theorem d_Mod_linkMember_222 : decode b_Mod_linkMember 222 = .ok (.iload 5, 2) := by decide +kernel
theorem d_Mod_linkMember_224 : decode b_Mod_linkMember 224 = .ok (.iaload, 1) := by decide +kernel
theorem d_Mod_linkMember_225 : decode b_Mod_linkMember 225 = .ok (.iload 4, 2) := by decide +kernel
theorem d_Mod_linkMember_227 : decode b_Mod_linkMember 227 = .ok (.invokevirtual 267, 3) := by decide +kernel
theorem d_Mod_linkMember_230 : decode b_Mod_linkMember 230 = .ok (.ifCond .eq 15, 3) := by decide +kernel
theorem d_Mod_linkMember_233 : decode b_Mod_linkMember 233 = .ok (.aload_n 0, 1) := by decide +kernel
theorem d_Mod_linkMember_234 : decode b_Mod_linkMember 234 = .ok (.bipush 7, 2) := by decide +kernel
theorem d_Mod_linkMember_236 : decode b_Mod_linkMember 236 = .ok (.aload_n 0, 1) := by decide +kernel
theorem d_Mod_linkMember_237 : decode b_Mod_linkMember 237 = .ok (.getfield 53, 3) := by decide +kernel
theorem d_Mod_linkMember_240 : decode b_Mod_linkMember 240 = .ok (.iload_n 1, 1) := by decide +kernel
theorem d_Mod_linkMember_241 : decode b_Mod_linkMember 241 = .ok (.iaload, 1) := by decide +kernel
theorem d_Mod_linkMember_242 : decode b_Mod_linkMember 242 = .ok (.invokevirtual 159, 3) := by decide +kernel
theorem d_Mod_linkMember_245 : decode b_Mod_linkMember 245 = .ok (.iinc 5 1, 3) := by decide +kernel
theorem d_Mod_linkMember_248 : decode b_Mod_linkMember 248 = .ok (.goto (-52), 3) := by decide +kernel
theorem d_Mod_linkMember_251 : decode b_Mod_linkMember 251 = .ok (.iload_n 2, 1) := by decide +kernel
theorem d_Mod_linkMember_252 : decode b_Mod_linkMember 252 = .ok (.ifCond .eq 50, 3) := by decide +kernel
theorem d_Mod_linkMember_255 : decode b_Mod_linkMember 255 = .ok (.aload_n 0, 1) := by decide +kernel
theorem d_Mod_linkMember_256 : decode b_Mod_linkMember 256 = .ok (.getfield 62, 3) := by decide +kernel
theorem d_Mod_linkMember_259 : decode b_Mod_linkMember 259 = .ok (.iload_n 1, 1) := by decide +kernel
theorem d_Mod_linkMember_260 : decode b_Mod_linkMember 260 = .ok (.iaload, 1) := by decide +kernel
theorem d_Mod_linkMember_261 : decode b_Mod_linkMember 261 = .ok (.ifCond .le 7, 3) := by decide +kernel
theorem d_Mod_linkMember_264 : decode b_Mod_linkMember 264 = .ok (.iconst 1, 1) := by decide +kernel
theorem d_Mod_linkMember_265 : decode b_Mod_linkMember 265 = .ok (.goto 4, 3) := by decide +kernel
theorem d_Mod_linkMember_268 : decode b_Mod_linkMember 268 = .ok (.iconst 0, 1) := by decide +kernel
theorem d_Mod_linkMember_269 : decode b_Mod_linkMember 269 = .ok (.aload_n 0, 1) := by decide +kernel
theorem d_Mod_linkMember_270 : decode b_Mod_linkMember 270 = .ok (.getfield 50, 3) := by decide +kernel
theorem d_Mod_linkMember_273 : decode b_Mod_linkMember 273 = .ok (.iload_n 1, 1) := by decide +kernel
theorem d_Mod_linkMember_274 : decode b_Mod_linkMember 274 = .ok (.iaload, 1) := by decide +kernel
theorem d_Mod_linkMember_275 : decode b_Mod_linkMember 275 = .ok (.sipush 1280, 3) := by decide +kernel
theorem d_Mod_linkMember_278 : decode b_Mod_linkMember 278 = .ok (.iand, 1) := by decide +kernel
theorem d_Mod_linkMember_279 : decode b_Mod_linkMember 279 = .ok (.ifCond .eq 7, 3) := by decide +kernel
theorem d_Mod_linkMember_282 : decode b_Mod_linkMember 282 = .ok (.iconst 1, 1) := by decide +kernel
theorem d_Mod_linkMember_283 : decode b_Mod_linkMember 283 = .ok (.goto 4, 3) := by decide +kernel
theorem d_Mod_linkMember_286 : decode b_Mod_linkMember 286 = .ok (.iconst 0, 1) := by decide +kernel
theorem d_Mod_linkMember_287 : decode b_Mod_linkMember 287 = .ok (.if_icmp .ne 15, 3) := by decide +kernel
theorem d_Mod_linkMember_290 : decode b_Mod_linkMember 290 = .ok (.aload_n 0, 1) := by decide +kernel
theorem d_Mod_linkMember_291 : decode b_Mod_linkMember 291 = .ok (.bipush 12, 2) := by decide +kernel
theorem d_Mod_linkMember_293 : decode b_Mod_linkMember 293 = .ok (.aload_n 0, 1) := by decide +kernel
theorem d_Mod_linkMember_294 : decode b_Mod_linkMember 294 = .ok (.getfield 53, 3) := by decide +kernel
theorem d_Mod_linkMember_297 : decode b_Mod_linkMember 297 = .ok (.iload_n 1, 1) := by decide +kernel
theorem d_Mod_linkMember_298 : decode b_Mod_linkMember 298 = .ok (.iaload, 1) := by decide +kernel
theorem d_Mod_linkMember_299 : decode b_Mod_linkMember 299 = .ok (.invokevirtual 159, 3) := by decide +kernel
theorem d_Mod_linkMember_302 : decode b_Mod_linkMember 302 = .ok (.return_, 1) := by decide +kernel
theorem d_Mod_linkMemberConstant_0 : decode b_Mod_linkMemberConstant 0 = .ok (.aload_n 0, 1) := by decide +kernel
theorem d_Mod_linkMemberConstant_1 : decode b_Mod_linkMemberConstant 1 = .ok (.getfield 38, 3) := by decide +kernel
theorem d_Mod_linkMemberConstant_4 : decode b_Mod_linkMemberConstant 4 = .ok (.aload_n 0, 1) := by decide +kernel
theorem d_Mod_linkMemberConstant_5 : decode b_Mod_linkMemberConstant 5 = .ok (.getfield 41, 3) := by decide +kernel
theorem d_Mod_linkMemberConstant_8 : decode b_Mod_linkMemberConstant 8 = .ok (.iload_n 1, 1) := by decide +kernel
theorem d_Mod_linkMemberConstant_9 : decode b_Mod_linkMemberConstant 9 = .ok (.iaload, 1) := by decide +kernel
theorem d_Mod_linkMemberConstant_10 : decode b_Mod_linkMemberConstant 10 = .ok (.iaload, 1) := by decide +kernel
theorem d_Mod_linkMemberConstant_11 : decode b_Mod_linkMemberConstant 11 = .ok (.istore_n 2, 1) := by decide +kernel
theorem d_Mod_linkMemberConstant_12 : decode b_Mod_linkMemberConstant 12 = .ok (.aload_n 0, 1) := by decide +kernel
theorem d_Mod_linkMemberConstant_13 : decode b_Mod_linkMemberConstant 13 = .ok (.getfield 41, 3) := by decide +kernel
theorem d_Mod_linkMemberConstant_16 : decode b_Mod_linkMemberConstant 16 = .ok (.aload_n 0, 1) := by decide +kernel
theorem d_Mod_linkMemberConstant_17 : decode b_Mod_linkMemberConstant 17 = .ok (.getfield 41, 3) := by decide +kernel
theorem d_Mod_linkMemberConstant_20 : decode b_Mod_linkMemberConstant 20 = .ok (.iload_n 1, 1) := by decide +kernel
theorem d_Mod_linkMemberConstant_21 : decode b_Mod_linkMemberConstant 21 = .ok (.iaload, 1) := by decide +kernel
theorem d_Mod_linkMemberConstant_22 : decode b_Mod_linkMemberConstant 22 = .ok (.iaload, 1) := by decide +kernel
theorem d_Mod_linkMemberConstant_23 : decode b_Mod_linkMemberConstant 23 = .ok (.istore_n 3, 1) := by decide +kernel
theorem d_Mod_linkMemberConstant_24 : decode b_Mod_linkMemberConstant 24 = .ok (.aload_n 0, 1) := by decide +kernel
theorem d_Mod_linkMemberConstant_25 : decode b_Mod_linkMemberConstant 25 = .ok (.iload_n 2, 1) := by decide +kernel
theorem d_Mod_linkMemberConstant_26 : decode b_Mod_linkMemberConstant 26 = .ok (.invokevirtual 258, 3) := by decide +kernel
theorem d_Mod_linkMemberConstant_29 : decode b_Mod_linkMemberConstant 29 = .ok (.ifCond .ne 25, 3) := by decide +kernel
theorem d_Mod_linkMemberConstant_32 : decode b_Mod_linkMemberConstant 32 = .ok (.aload_n 0, 1) := by decide +kernel
theorem d_Mod_linkMemberConstant_33 : decode b_Mod_linkMemberConstant 33 = .ok (.aload_n 0, 1) := by decide +kernel
theorem d_Mod_linkMemberConstant_34 : decode b_Mod_linkMemberConstant 34 = .ok (.getfield 38, 3) := by decide +kernel
theorem d_Mod_linkMemberConstant_37 : decode b_Mod_linkMemberConstant 37 = .ok (.iload_n 3, 1) := by decide +kernel
theorem d_Mod_linkMemberConstant_38 : decode b_Mod_linkMemberConstant 38 = .ok (.iaload, 1) := by decide +kernel
theorem d_Mod_linkMemberConstant_39 : decode b_Mod_linkMemberConstant 39 = .ok (.aload_n 0, 1) := by decide +kernel
theorem d_Mod_linkMemberConstant_40 : decode b_Mod_linkMemberConstant 40 = .ok (.iload_n 3, 1) := by decide +kernel
theorem d_Mod_linkMemberConstant_41 : decode b_Mod_linkMemberConstant 41 = .ok (.invokevirtual 254, 3) := by decide +kernel
theorem d_Mod_linkMemberConstant_44 : decode b_Mod_linkMemberConstant 44 = .ok (.invokevirtual 251, 3) := by decide +kernel
theorem d_Mod_linkMemberConstant_47 : decode b_Mod_linkMemberConstant 47 = .ok (.ifCond .eq 7, 3) := by decide +kernel
theorem d_Mod_linkMemberConstant_50 : decode b_Mod_linkMemberConstant 50 = .ok (.iconst 1, 1) := by decide +kernel
theorem d_Mod_linkMemberConstant_51 : decode b_Mod_linkMemberConstant 51 = .ok (.goto 4, 3) := by decide +kernel
theorem d_Mod_linkMemberConstant_54 : decode b_Mod_linkMemberConstant 54 = .ok (.iconst 0, 1) := by decide +kernel
theorem d_Mod_linkMemberConstant_55 : decode b_Mod_linkMemberConstant 55 = .ok (.istore 4, 2) := by decide +kernel
theorem d_Mod_linkMemberConstant_57 : decode b_Mod_linkMemberConstant 57 = .ok (.aload_n 0, 1) := by decide +kernel
theorem d_Mod_linkMemberConstant_58 : decode b_Mod_linkMemberConstant 58 = .ok (.aload_n 0, 1) := by decide +kernel
theorem d_Mod_linkMemberConstant_59 : decode b_Mod_linkMemberConstant 59 = .ok (.getfield 38, 3) := by decide +kernel
theorem d_Mod_linkMemberConstant_62 : decode b_Mod_linkMemberConstant 62 = .ok (.iload_n 3, 1) := by decide +kernel
theorem d_Mod_linkMemberConstant_63 : decode b_Mod_linkMemberConstant 63 = .ok (.iaload, 1) := by decide +kernel
theorem d_Mod_linkMemberConstant_64 : decode b_Mod_linkMemberConstant 64 = .ok (.aload_n 0, 1) := by decide +kernel
theorem d_Mod_linkMemberConstant_65 : decode b_Mod_linkMemberConstant 65 = .ok (.iload_n 3, 1) := by decide +kernel
theorem d_Mod_linkMemberConstant_66 : decode b_Mod_linkMemberConstant 66 = .ok (.invokevirtual 254, 3) := by decide +kernel
theorem d_Mod_linkMemberConstant_69 : decode b_Mod_linkMemberConstant 69 = .ok (.invokevirtual 261, 3) := by decide +kernel
theorem d_Mod_linkMemberConstant_72 : decode b_Mod_linkMemberConstant 72 = .ok (.ifCond .eq 32, 3) := by decide +kernel
theorem d_Mod_linkMemberConstant_75 : decode b_Mod_linkMemberConstant 75 = .ok (.aload_n 0, 1) := by decide +kernel
theorem d_Mod_linkMemberConstant_76 : decode b_Mod_linkMemberConstant 76 = .ok (.iload_n 2, 1) := by decide +kernel
theorem d_Mod_linkMemberConstant_77 : decode b_Mod_linkMemberConstant 77 = .ok (.invokevirtual 258, 3) := by decide +kernel
theorem d_Mod_linkMemberConstant_80 : decode b_Mod_linkMemberConstant 80 = .ok (.ifCond .eq 20, 3) := by decide +kernel
theorem d_Mod_linkMemberConstant_83 : decode b_Mod_linkMemberConstant 83 = .ok (.aload_n 0, 1) := by decide +kernel
theorem d_Mod_linkMemberConstant_84 : decode b_Mod_linkMemberConstant 84 = .ok (.getfield 7, 3) := by decide +kernel
theorem d_Mod_linkMemberConstant_87 : decode b_Mod_linkMemberConstant 87 = .ok (.aload_n 0, 1) := by decide +kernel
theorem d_Mod_linkMemberConstant_88 : decode b_Mod_linkMemberConstant 88 = .ok (.iload_n 3, 1) := by decide +kernel
theorem d_Mod_linkMemberConstant_89 : decode b_Mod_linkMemberConstant 89 = .ok (.invokevirtual 254, 3) := by decide +kernel
theorem d_Mod_linkMemberConstant_92 : decode b_Mod_linkMemberConstant 92 = .ok (.iconst 1, 1) := by decide +kernel
theorem d_Mod_linkMemberConstant_93 : decode b_Mod_linkMemberConstant 93 = .ok (.isub, 1) := by decide +kernel
theorem d_Mod_linkMemberConstant_94 : decode b_Mod_linkMemberConstant 94 = .ok (.iaload, 1) := by decide +kernel
theorem d_Mod_linkMemberConstant_95 : decode b_Mod_linkMemberConstant 95 = .ok (.bipush 86, 2) := by decide +kernel
theorem d_Mod_linkMemberConstant_97 : decode b_Mod_linkMemberConstant 97 = .ok (.if_icmp .ne 7, 3) := by decide +kernel
theorem d_Mod_linkMemberConstant_100 : decode b_Mod_linkMemberConstant 100 = .ok (.iconst 1, 1) := by decide +kernel
theorem d_Mod_linkMemberConstant_101 : decode b_Mod_linkMemberConstant 101 = .ok (.goto 4, 3) := by decide +kernel
theorem d_Mod_linkMemberConstant_104 : decode b_Mod_linkMemberConstant 104 = .ok (.iconst 0, 1) := by decide +kernel
theorem d_Mod_linkMemberConstant_105 : decode b_Mod_linkMemberConstant 105 = .ok (.istore 5, 2) := by decide +kernel
theorem d_Mod_linkMemberConstant_107 : decode b_Mod_linkMemberConstant 107 = .ok (.aload_n 0, 1) := by decide +kernel
theorem d_Mod_linkMemberConstant_108 : decode b_Mod_linkMemberConstant 108 = .ok (.getfield 32, 3) := by decide +kernel
theorem d_Mod_linkMemberConstant_111 : decode b_Mod_linkMemberConstant 111 = .ok (.iload_n 1, 1) := by decide +kernel
theorem d_Mod_linkMemberConstant_112 : decode b_Mod_linkMemberConstant 112 = .ok (.iaload, 1) := by decide +kernel
theorem d_Mod_linkMemberConstant_113 : decode b_Mod_linkMemberConstant 113 = .ok (.bipush 9, 2) := by decide +kernel
theorem d_Mod_linkMemberConstant_115 : decode b_Mod_linkMemberConstant 115 = .ok (.if_icmp .ne 11, 3) := by decide +kernel
theorem d_Mod_linkMemberConstant_118 : decode b_Mod_linkMemberConstant 118 = .ok (.iload 4, 2) := by decide +kernel
theorem d_Mod_linkMemberConstant_120 : decode b_Mod_linkMemberConstant 120 = .ok (.ifCond .ne 23, 3) := by decide +kernel
theorem d_Mod_linkMemberConstant_123 : decode b_Mod_linkMemberConstant 123 = .ok (.goto 8, 3) := by decide +kernel
theorem d_Mod_linkMemberConstant_126 : decode b_Mod_linkMemberConstant 126 = .ok (.iload 5, 2) := by decide +kernel
theorem d_Mod_linkMemberConstant_128 : decode b_Mod_linkMemberConstant 128 = .ok (.ifCond .ne 15, 3) := by decide +kernel
theorem d_Mod_linkMemberConstant_131 : decode b_Mod_linkMemberConstant 131 = .ok (.aload_n 0, 1) := by decide +kernel
theorem d_Mod_linkMemberConstant_132 : decode b_Mod_linkMemberConstant 132 = .ok (.bipush 11, 2) := by decide +kernel
theorem d_Mod_linkMemberConstant_134 : decode b_Mod_linkMemberConstant 134 = .ok (.aload_n 0, 1) := by decide +kernel
theorem d_Mod_linkMemberConstant_135 : decode b_Mod_linkMemberConstant 135 = .ok (.getfield 35, 3) := by decide +kernel
theorem d_Mod_linkMemberConstant_138 : decode b_Mod_linkMemberConstant 138 = .ok (.iload_n 1, 1) := by decide +kernel
theorem d_Mod_linkMemberConstant_139 : decode b_Mod_linkMemberConstant 139 = .ok (.iaload, 1) := by decide +kernel
theorem d_Mod_linkMemberConstant_140 : decode b_Mod_linkMemberConstant 140 = .ok (.invokevirtual 159, 3) := by decide +kernel
theorem d_Mod_linkMemberConstant_143 : decode b_Mod_linkMemberConstant 143 = .ok (.return_, 1) := by decide +kernel
end
