/-! Counting what is left to do: places without a FRAME, LOCALS that are not U, places that are new. -/
def cs (w : Nat → Int32 → Nat) (f : Nat → Int32) : Nat → Nat
  | 0 => 0
  | n + 1 => cs w f n + w n (f n)
theorem cs_out {w : Nat → Int32 → Nat} {f : Nat → Int32} {i : Nat} {x : Int32} : ∀ n, n ≤ i → cs w (upd f i x) n = cs w f n := by
  intro n
  induction n with
  | zero => intro _; rfl
  | succ n ih =>
    intro h
    rw [cs, cs, ih (by omega)]
    have e : upd f i x n = f n := if_neg (by omega)
    rw [e]
theorem cs_upd {w : Nat → Int32 → Nat} {f : Nat → Int32} {i : Nat} {x : Int32} : ∀ n, i < n → cs w (upd f i x) n + w i (f i) = cs w f n + w i x := by
  intro n
  induction n with
  | zero => intro h; omega
  | succ n ih =>
    intro h
    rw [cs, cs]
    by_cases e : i = n
    · subst e
      have e2 : upd f i x i = x := if_pos rfl
      rw [cs_out i (Nat.le_refl _), e2]
      omega
    · have e2 : upd f i x n = f n := if_neg (Ne.symm e)
      rw [e2]
      have := ih (by omega)
      omega
def wF (_ : Nat) (x : Int32) : Nat := if x = -1 then 1 else 0
def wN (i : Nat) (x : Int32) : Nat := if i % 128 < 64 then (if x = 0 then 0 else 1) else 0
def wC (_ : Nat) (x : Int32) : Nat := if x = 0 then 0 else 1
def NK (kd : Nat → Int32) : Nat := cs wN kd 76800
def MU (dp iw kd : Nat → Int32) : Nat := cs wF dp 600 * 39065 + NK kd * 601 + cs wC iw 600
theorem wN_le (i : Nat) (x : Int32) : wN i x ≤ 1 := by unfold wN; split <;> (try split) <;> omega
theorem wN_0 {i : Nat} (h : 64 ≤ i % 128) (x : Int32) : wN i x = 0 := by unfold wN; rw [if_neg (by omega)]
theorem nk_up {kd : Nat → Int32} {i : Nat} {x : Int32} (h : i < 76800) : NK (upd kd i x) ≤ NK kd + 1 := by
  have h1 := cs_upd (w := wN) (f := kd) (i := i) (x := x) 76800 h
  have h2 := wN_le i x
  unfold NK
  omega
theorem nk_st {kd : Nat → Int32} {i : Nat} {x : Int32} (h : i < 76800) (h64 : 64 ≤ i % 128) : NK (upd kd i x) = NK kd := by
  have h1 := cs_upd (w := wN) (f := kd) (i := i) (x := x) 76800 h
  rw [wN_0 h64, wN_0 h64] at h1
  unfold NK
  omega
theorem nk_two {kd kd0 : Nat → Int32} {i j k : Nat} {x y : Int32} (h : NK kd ≤ NK kd0 + k) (hi : i < 76800) (hj : j < 76800) (h64 : 64 ≤ j % 128) : NK (upd (upd kd i x) j y) ≤ NK kd0 + (k + 1) := by
  rw [nk_st hj h64]
  have := nk_up (kd := kd) (x := x) hi
  omega
def CHN (c : Int32) (a b : Nat) : Prop := (c = 0 ∧ a = b) ∨ (c = 1 ∧ a + 1 ≤ b)
theorem chn_le {c : Int32} {a b : Nat} (h : CHN c a b) : a ≤ b := by rcases h with h | h <;> omega
theorem chn_lt {c : Int32} {a b : Nat} (h : CHN c a b) (hc : ¬ c = 0) : a + 1 ≤ b := by
  rcases h with h | h
  · exact absurd h.1 hc
  · exact h.2
theorem nk_dn {c : Int32} {kd : Nat → Int32} {i b : Nat} (h : CHN c (NK kd) b) (hi : i < 76800) (h64 : i % 128 < 64) (hk : ¬ kd i = 0) : CHN 1 (NK (upd kd i 0)) b := by
  have h1 := cs_upd (w := wN) (f := kd) (i := i) (x := 0) 76800 hi
  have e1 : wN i (kd i) = 1 := by unfold wN; rw [if_pos h64, if_neg hk]
  have e2 : wN i 0 = 0 := by unfold wN; rw [if_pos h64, if_pos rfl]
  rw [e1, e2] at h1
  have h2 := chn_le h
  refine Or.inr ⟨rfl, ?_⟩
  unfold NK at h2 ⊢
  omega
def KD3 (kd : Nat → Int32) : Prop := ∀ p, p < 600 → ¬ kd (128 * p) = 3 ∧ ¬ kd (128 * p + 64) = 3
theorem KD3.put {kd : Nat → Int32} {i : Nat} {x : Int32} (h : KD3 kd) (hx : i % 64 = 0 → ¬ x = 3) : KD3 (upd kd i x) := by
  intro p hp
  constructor
  · by_cases e : 128 * p = i
    · simp only [upd, if_pos e]; exact hx (by omega)
    · simp only [upd, if_neg e]; exact (h p hp).1
  · by_cases e : 128 * p + 64 = i
    · simp only [upd, if_pos e]; exact hx (by omega)
    · simp only [upd, if_neg e]; exact (h p hp).2
theorem fr_none {dp iw kd : Nat → Int32} {t : Nat} (h : FRG dp iw kd) (ht : t < 600) (h0 : ¬ 0 ≤ dp t) : dp t = -1 := by
  rcases h.1 t ht with e | ⟨d, hd, e⟩
  · exact e
  · rw [e] at h0
    exact absurd (Int32.not_lt.mp (nI_pos (by omega))) h0
theorem FRG.new {dp iw kd kd' : Nat → Int32} {t d : Nat} (h : FRG dp iw kd) (hd : d ≤ 64) (hk : KD3 kd') : FRG (upd dp t (nI d)) (upd iw t 1) kd' := by
  refine ⟨?_, ?_, hk⟩
  · intro p hp
    by_cases e : p = t
    · exact Or.inr ⟨d, hd, if_pos e⟩
    · simp only [upd, if_neg e]; exact h.1 p hp
  · intro p hp hw
    by_cases e : p = t
    · simp only [upd, if_pos e]; exact sf_nm1 d hd
    · simp only [upd, if_neg e] at hw ⊢; exact h.2.1 p hp hw
theorem FRG.again {dp iw kd kd' : Nat → Int32} {t : Nat} {x : Int32} (h : FRG dp iw kd) (h0 : 0 ≤ dp t) (hk : KD3 kd') : FRG dp (upd iw t x) kd' := by
  refine ⟨h.1, ?_, hk⟩
  intro p hp hw
  by_cases e : p = t
  · rw [e]; intro q; rw [q] at h0; exact absurd h0 (by decide)
  · simp only [upd, if_neg e] at hw; exact h.2.1 p hp hw
theorem mu_new {dp iw kd kd' : Nat → Int32} {t d : Nat} (h : dp t = -1) (ht : t < 600) (hn : NK kd' ≤ NK kd + 64) (hd : d ≤ 64) : MU (upd dp t (nI d)) (upd iw t 1) kd' ≤ MU dp iw kd := by
  have h1 := cs_upd (w := wF) (f := dp) (i := t) (x := nI d) 600 ht
  have h2 := cs_upd (w := wC) (f := iw) (i := t) (x := 1) 600 ht
  have e1 : wF t (dp t) = 1 := by unfold wF; rw [if_pos h]
  have e2 : wF t (nI d) = 0 := by unfold wF; rw [if_neg (sf_nm1 d hd)]
  have e3 : wC t 1 = 1 := if_neg (by decide)
  rw [e1, e2] at h1
  rw [e3] at h2
  unfold MU
  omega
theorem mu_keep {dp iw kd kd' : Nat → Int32} {t : Nat} {x : Int32} (ht : t < 600) (h : (wC t x ≤ wC t (iw t) ∧ NK kd' ≤ NK kd) ∨ NK kd' + 1 ≤ NK kd) : MU dp (upd iw t x) kd' ≤ MU dp iw kd := by
  have h2 := cs_upd (w := wC) (f := iw) (i := t) (x := x) 600 ht
  have e3 : wC t x ≤ 1 := by unfold wC; split <;> omega
  unfold MU
  rcases h with h | h <;> omega
theorem wC_1 {t : Nat} {y : Int32} (h : ¬ y = 0) : wC t y = 1 := if_neg h
theorem mu_take {dp iw kd : Nat → Int32} {t : Nat} (ht : t < 600) (h : ¬ iw t = 0) : MU dp (upd iw t 0) kd + 1 ≤ MU dp iw kd := by
  have h2 := cs_upd (w := wC) (f := iw) (i := t) (x := 0) 600 ht
  rw [wC_1 h] at h2
  have e : wC t 0 = 0 := if_pos rfl
  rw [e] at h2
  unfold MU
  omega
