section
/-! Counting what is left to do: places without a FRAME, LOCALS that are not U, places that are new. -/
def cs (w : Nat → Int32 → Nat) (f : Nat → Int32) : Nat → Nat
  | 0 => 0
  | n + 1 => cs w f n + w n (f n)
theorem cs_out {w : Nat → Int32 → Nat} {f : Nat → Int32} {i : Nat} {x : Int32} : ∀ n, n ≤ i → cs w (upd f i x) n = cs w f n := by
  intro n
  induction n with
  | zero => intro _; rfl
  | succ n ih =>
    intro h
    rw [cs, cs, ih (by omega)]
    have e : upd f i x n = f n := if_neg (by omega)
    rw [e]
theorem cs_upd {w : Nat → Int32 → Nat} {f : Nat → Int32} {i : Nat} {x : Int32} : ∀ n, i < n → cs w (upd f i x) n + w i (f i) = cs w f n + w i x := by
  intro n
  induction n with
  | zero => intro h; omega
  | succ n ih =>
    intro h
    rw [cs, cs]
    by_cases e : i = n
    · subst e
      have e2 : upd f i x i = x := if_pos rfl
      rw [cs_out i (Nat.le_refl _), e2]
      omega
    · have e2 : upd f i x n = f n := if_neg (Ne.symm e)
      rw [e2]
      have := ih (by omega)
      omega
def wF (_ : Nat) (x : Int32) : Nat := if x = -1 then 1 else 0
def wN (i : Nat) (x : Int32) : Nat := if i % 128 < 64 then (if x = 0 then 0 else 1) else 0
def wC (_ : Nat) (x : Int32) : Nat := if x = 0 then 0 else 1
def NK (kd : Nat → Int32) : Nat := cs wN kd 76800
def MU (dp iw kd : Nat → Int32) : Nat := cs wF dp 600 * 39065 + NK kd * 601 + cs wC iw 600
theorem wN_le (i : Nat) (x : Int32) : wN i x ≤ 1 := by unfold wN; split <;> (try split) <;> omega
theorem wN_0 {i : Nat} (h : 64 ≤ i % 128) (x : Int32) : wN i x = 0 := by unfold wN; rw [if_neg (by omega)]
theorem nk_up {kd : Nat → Int32} {i : Nat} {x : Int32} (h : i < 76800) : NK (upd kd i x) ≤ NK kd + 1 := by
  have h1 := cs_upd (w := wN) (f := kd) (i := i) (x := x) 76800 h
  have h2 := wN_le i x
  unfold NK
  omega
theorem nk_st {kd : Nat → Int32} {i : Nat} {x : Int32} (h : i < 76800) (h64 : 64 ≤ i % 128) : NK (upd kd i x) = NK kd := by
  have h1 := cs_upd (w := wN) (f := kd) (i := i) (x := x) 76800 h
  rw [wN_0 h64, wN_0 h64] at h1
  unfold NK
  omega
theorem nk_two {kd kd0 : Nat → Int32} {i j k : Nat} {x y : Int32} (h : NK kd ≤ NK kd0 + k) (hi : i < 76800) (hj : j < 76800) (h64 : 64 ≤ j % 128) : NK (upd (upd kd i x) j y) ≤ NK kd0 + (k + 1) := by
  rw [nk_st hj h64]
  have := nk_up (kd := kd) (x := x) hi
  omega
def CHN (c : Int32) (a b : Nat) : Prop := (c = 0 ∧ a = b) ∨ (c = 1 ∧ a + 1 ≤ b)
theorem chn_le {c : Int32} {a b : Nat} (h : CHN c a b) : a ≤ b := by rcases h with h | h <;> omega
theorem chn_lt {c : Int32} {a b : Nat} (h : CHN c a b) (hc : ¬ c = 0) : a + 1 ≤ b := by
  rcases h with h | h
  · exact absurd h.1 hc
  · exact h.2
theorem nk_dn {c : Int32} {kd : Nat → Int32} {i b : Nat} (h : CHN c (NK kd) b) (hi : i < 76800) (h64 : i % 128 < 64) (hk : ¬ kd i = 0) : CHN 1 (NK (upd kd i 0)) b := by
  have h1 := cs_upd (w := wN) (f := kd) (i := i) (x := 0) 76800 hi
  have e1 : wN i (kd i) = 1 := by unfold wN; rw [if_pos h64, if_neg hk]
  have e2 : wN i 0 = 0 := by unfold wN; rw [if_pos h64, if_pos rfl]
  rw [e1, e2] at h1
  have h2 := chn_le h
  refine Or.inr ⟨rfl, ?_⟩
  unfold NK at h2 ⊢
  omega
def KD3 (kd : Nat → Int32) : Prop := ∀ p, p < 600 → ¬ kd (128 * p) = 3 ∧ ¬ kd (128 * p + 64) = 3
theorem KD3.put {kd : Nat → Int32} {i : Nat} {x : Int32} (h : KD3 kd) (hx : i % 64 = 0 → ¬ x = 3) : KD3 (upd kd i x) := by
  intro p hp
  constructor
  · by_cases e : 128 * p = i
    · simp only [upd, if_pos e]; exact hx (by omega)
    · simp only [upd, if_neg e]; exact (h p hp).1
  · by_cases e : 128 * p + 64 = i
    · simp only [upd, if_pos e]; exact hx (by omega)
    · simp only [upd, if_neg e]; exact (h p hp).2
theorem fr_none {dp iw kd : Nat → Int32} {t : Nat} (h : FRG dp iw kd) (ht : t < 600) (h0 : ¬ 0 ≤ dp t) : dp t = -1 := by
  rcases h.1 t ht with e | ⟨d, hd, e⟩
  · exact e
  · rw [e] at h0
    exact absurd (Int32.not_lt.mp (nI_pos (by omega))) h0
theorem FRG.new {dp iw kd kd' : Nat → Int32} {t d : Nat} (h : FRG dp iw kd) (hd : d ≤ 64) (hk : KD3 kd') : FRG (upd dp t (nI d)) (upd iw t 1) kd' := by
  refine ⟨?_, ?_, hk⟩
  · intro p hp
    by_cases e : p = t
    · exact Or.inr ⟨d, hd, if_pos e⟩
    · simp only [upd, if_neg e]; exact h.1 p hp
  · intro p hp hw
    by_cases e : p = t
    · simp only [upd, if_pos e]; exact sf_nm1 d hd
    · simp only [upd, if_neg e] at hw ⊢; exact h.2.1 p hp hw
theorem FRG.again {dp iw kd kd' : Nat → Int32} {t : Nat} {x : Int32} (h : FRG dp iw kd) (h0 : 0 ≤ dp t) (hk : KD3 kd') : FRG dp (upd iw t x) kd' := by
  refine ⟨h.1, ?_, hk⟩
  intro p hp hw
  by_cases e : p = t
  · rw [e]; intro q; rw [q] at h0; exact absurd h0 (by decide)
  · simp only [upd, if_neg e] at hw; exact h.2.1 p hp hw
theorem mu_new {dp iw kd kd' : Nat → Int32} {t d : Nat} (h : dp t = -1) (ht : t < 600) (hn : NK kd' ≤ NK kd + 64) (hd : d ≤ 64) : MU (upd dp t (nI d)) (upd iw t 1) kd' ≤ MU dp iw kd := by
  have h1 := cs_upd (w := wF) (f := dp) (i := t) (x := nI d) 600 ht
  have h2 := cs_upd (w := wC) (f := iw) (i := t) (x := 1) 600 ht
  have e1 : wF t (dp t) = 1 := by unfold wF; rw [if_pos h]
  have e2 : wF t (nI d) = 0 := by unfold wF; rw [if_neg (sf_nm1 d hd)]
  have e3 : wC t 1 = 1 := if_neg (by decide)
  rw [e1, e2] at h1
  rw [e3] at h2
  unfold MU
  omega
theorem mu_keep {dp iw kd kd' : Nat → Int32} {t : Nat} {x : Int32} (ht : t < 600) (h : (wC t x ≤ wC t (iw t) ∧ NK kd' ≤ NK kd) ∨ NK kd' + 1 ≤ NK kd) : MU dp (upd iw t x) kd' ≤ MU dp iw kd := by
  have h2 := cs_upd (w := wC) (f := iw) (i := t) (x := x) 600 ht
  have e3 : wC t x ≤ 1 := by unfold wC; split <;> omega
  unfold MU
  rcases h with h | h <;> omega
theorem wC_1 {t : Nat} {y : Int32} (h : ¬ y = 0) : wC t y = 1 := if_neg h
theorem mu_take {dp iw kd : Nat → Int32} {t : Nat} (ht : t < 600) (h : ¬ iw t = 0) : MU dp (upd iw t 0) kd + 1 ≤ MU dp iw kd := by
  have h2 := cs_upd (w := wC) (f := iw) (i := t) (x := 0) 600 ht
  rw [wC_1 h] at h2
  have e : wC t 0 = 0 := if_pos rfl
  rw [e] at h2
  unfold MU
  omega
end
section
theorem d_Mod_goOn_0 : decode b_Mod_goOn 0 = .ok (.sipush 128, 3) := by decide +kernel
theorem d_Mod_goOn_3 : decode b_Mod_goOn 3 = .ok (.iload_n 1, 1) := by decide +kernel
theorem d_Mod_goOn_4 : decode b_Mod_goOn 4 = .ok (.imul, 1) := by decide +kernel
theorem d_Mod_goOn_5 : decode b_Mod_goOn 5 = .ok (.istore 4, 2) := by decide +kernel
theorem d_Mod_goOn_7 : decode b_Mod_goOn 7 = .ok (.aload_n 0, 1) := by decide +kernel
theorem d_Mod_goOn_8 : decode b_Mod_goOn 8 = .ok (.getfield 90, 3) := by decide +kernel
theorem d_Mod_goOn_11 : decode b_Mod_goOn 11 = .ok (.iload_n 1, 1) := by decide +kernel
theorem d_Mod_goOn_12 : decode b_Mod_goOn 12 = .ok (.iaload, 1) := by decide +kernel
theorem d_Mod_goOn_13 : decode b_Mod_goOn 13 = .ok (.ifCond .ge 81, 3) := by decide +kernel
theorem d_Mod_goOn_16 : decode b_Mod_goOn 16 = .ok (.iconst 0, 1) := by decide +kernel
theorem d_Mod_goOn_17 : decode b_Mod_goOn 17 = .ok (.istore 5, 2) := by decide +kernel
theorem d_Mod_goOn_19 : decode b_Mod_goOn 19 = .ok (.iload 5, 2) := by decide +kernel
theorem d_Mod_goOn_21 : decode b_Mod_goOn 21 = .ok (.bipush 64, 2) := by decide +kernel
theorem d_Mod_goOn_23 : decode b_Mod_goOn 23 = .ok (.if_icmp .ge 56, 3) := by decide +kernel
theorem d_Mod_goOn_26 : decode b_Mod_goOn 26 = .ok (.aload_n 0, 1) := by decide +kernel
theorem d_Mod_goOn_27 : decode b_Mod_goOn 27 = .ok (.getfield 97, 3) := by decide +kernel
theorem d_Mod_goOn_30 : decode b_Mod_goOn 30 = .ok (.iload 4, 2) := by decide +kernel
theorem d_Mod_goOn_32 : decode b_Mod_goOn 32 = .ok (.iload 5, 2) := by decide +kernel
theorem d_Mod_goOn_34 : decode b_Mod_goOn 34 = .ok (.iadd, 1) := by decide +kernel
theorem d_Mod_goOn_35 : decode b_Mod_goOn 35 = .ok (.aload_n 2, 1) := by decide +kernel
theorem d_Mod_goOn_36 : decode b_Mod_goOn 36 = .ok (.iload 5, 2) := by decide +kernel
theorem d_Mod_goOn_38 : decode b_Mod_goOn 38 = .ok (.iaload, 1) := by decide +kernel
theorem d_Mod_goOn_39 : decode b_Mod_goOn 39 = .ok (.iastore, 1) := by decide +kernel
theorem d_Mod_goOn_40 : decode b_Mod_goOn 40 = .ok (.aload_n 0, 1) := by decide +kernel
theorem d_Mod_goOn_41 : decode b_Mod_goOn 41 = .ok (.getfield 97, 3) := by decide +kernel
theorem d_Mod_goOn_44 : decode b_Mod_goOn 44 = .ok (.iload 4, 2) := by decide +kernel
theorem d_Mod_goOn_46 : decode b_Mod_goOn 46 = .ok (.bipush 64, 2) := by decide +kernel
theorem d_Mod_goOn_48 : decode b_Mod_goOn 48 = .ok (.iadd, 1) := by decide +kernel
theorem d_Mod_goOn_49 : decode b_Mod_goOn 49 = .ok (.iload 5, 2) := by decide +kernel
theorem d_Mod_goOn_51 : decode b_Mod_goOn 51 = .ok (.iadd, 1) := by decide +kernel
theorem d_Mod_goOn_52 : decode b_Mod_goOn 52 = .ok (.iload 5, 2) := by decide +kernel
theorem d_Mod_goOn_54 : decode b_Mod_goOn 54 = .ok (.iload_n 3, 1) := by decide +kernel
theorem d_Mod_goOn_55 : decode b_Mod_goOn 55 = .ok (.if_icmp .ge 16, 3) := by decide +kernel
theorem d_Mod_goOn_58 : decode b_Mod_goOn 58 = .ok (.aload_n 0, 1) := by decide +kernel
theorem d_Mod_goOn_59 : decode b_Mod_goOn 59 = .ok (.getfield 100, 3) := by decide +kernel
theorem d_Mod_goOn_62 : decode b_Mod_goOn 62 = .ok (.bipush 64, 2) := by decide +kernel
theorem d_Mod_goOn_64 : decode b_Mod_goOn 64 = .ok (.iload 5, 2) := by decide +kernel
theorem d_Mod_goOn_66 : decode b_Mod_goOn 66 = .ok (.iadd, 1) := by decide +kernel
theorem d_Mod_goOn_67 : decode b_Mod_goOn 67 = .ok (.iaload, 1) := by decide +kernel
theorem d_Mod_goOn_68 : decode b_Mod_goOn 68 = .ok (.goto 4, 3) := by decide +kernel
theorem d_Mod_goOn_71 : decode b_Mod_goOn 71 = .ok (.iconst 0, 1) := by decide +kernel
theorem d_Mod_goOn_72 : decode b_Mod_goOn 72 = .ok (.iastore, 1) := by decide +kernel
theorem d_Mod_goOn_73 : decode b_Mod_goOn 73 = .ok (.iinc 5 1, 3) := by decide +kernel
theorem d_Mod_goOn_76 : decode b_Mod_goOn 76 = .ok (.goto (-57), 3) := by decide +kernel
theorem d_Mod_goOn_79 : decode b_Mod_goOn 79 = .ok (.aload_n 0, 1) := by decide +kernel
theorem d_Mod_goOn_80 : decode b_Mod_goOn 80 = .ok (.getfield 90, 3) := by decide +kernel
theorem d_Mod_goOn_83 : decode b_Mod_goOn 83 = .ok (.iload_n 1, 1) := by decide +kernel
theorem d_Mod_goOn_84 : decode b_Mod_goOn 84 = .ok (.iload_n 3, 1) := by decide +kernel
theorem d_Mod_goOn_85 : decode b_Mod_goOn 85 = .ok (.iastore, 1) := by decide +kernel
theorem d_Mod_goOn_86 : decode b_Mod_goOn 86 = .ok (.aload_n 0, 1) := by decide +kernel
theorem d_Mod_goOn_87 : decode b_Mod_goOn 87 = .ok (.getfield 93, 3) := by decide +kernel
theorem d_Mod_goOn_90 : decode b_Mod_goOn 90 = .ok (.iload_n 1, 1) := by decide +kernel
theorem d_Mod_goOn_91 : decode b_Mod_goOn 91 = .ok (.iconst 1, 1) := by decide +kernel
theorem d_Mod_goOn_92 : decode b_Mod_goOn 92 = .ok (.bastore, 1) := by decide +kernel
theorem d_Mod_goOn_93 : decode b_Mod_goOn 93 = .ok (.return_, 1) := by decide +kernel
theorem d_Mod_goOn_94 : decode b_Mod_goOn 94 = .ok (.aload_n 0, 1) := by decide +kernel
theorem d_Mod_goOn_95 : decode b_Mod_goOn 95 = .ok (.getfield 90, 3) := by decide +kernel
theorem d_Mod_goOn_98 : decode b_Mod_goOn 98 = .ok (.iload_n 1, 1) := by decide +kernel
theorem d_Mod_goOn_99 : decode b_Mod_goOn 99 = .ok (.iaload, 1) := by decide +kernel
theorem d_Mod_goOn_100 : decode b_Mod_goOn 100 = .ok (.iload_n 3, 1) := by decide +kernel
theorem d_Mod_goOn_101 : decode b_Mod_goOn 101 = .ok (.if_icmp .ne 7, 3) := by decide +kernel
theorem d_Mod_goOn_104 : decode b_Mod_goOn 104 = .ok (.iconst 1, 1) := by decide +kernel
theorem d_Mod_goOn_105 : decode b_Mod_goOn 105 = .ok (.goto 4, 3) := by decide +kernel
theorem d_Mod_goOn_108 : decode b_Mod_goOn 108 = .ok (.iconst 0, 1) := by decide +kernel
theorem d_Mod_goOn_109 : decode b_Mod_goOn 109 = .ok (.istore 5, 2) := by decide +kernel
theorem d_Mod_goOn_111 : decode b_Mod_goOn 111 = .ok (.iconst 0, 1) := by decide +kernel
theorem d_Mod_goOn_112 : decode b_Mod_goOn 112 = .ok (.istore 6, 2) := by decide +kernel
theorem d_Mod_goOn_114 : decode b_Mod_goOn 114 = .ok (.iload 5, 2) := by decide +kernel
theorem d_Mod_goOn_116 : decode b_Mod_goOn 116 = .ok (.ifCond .eq 48, 3) := by decide +kernel
theorem d_Mod_goOn_119 : decode b_Mod_goOn 119 = .ok (.iload 6, 2) := by decide +kernel
theorem d_Mod_goOn_121 : decode b_Mod_goOn 121 = .ok (.iload_n 3, 1) := by decide +kernel
theorem d_Mod_goOn_122 : decode b_Mod_goOn 122 = .ok (.if_icmp .ge 42, 3) := by decide +kernel
theorem d_Mod_goOn_125 : decode b_Mod_goOn 125 = .ok (.aload_n 0, 1) := by decide +kernel
theorem d_Mod_goOn_126 : decode b_Mod_goOn 126 = .ok (.getfield 97, 3) := by decide +kernel
theorem d_Mod_goOn_129 : decode b_Mod_goOn 129 = .ok (.iload 4, 2) := by decide +kernel
theorem d_Mod_goOn_131 : decode b_Mod_goOn 131 = .ok (.bipush 64, 2) := by decide +kernel
theorem d_Mod_goOn_133 : decode b_Mod_goOn 133 = .ok (.iadd, 1) := by decide +kernel
theorem d_Mod_goOn_134 : decode b_Mod_goOn 134 = .ok (.iload 6, 2) := by decide +kernel
theorem d_Mod_goOn_136 : decode b_Mod_goOn 136 = .ok (.iadd, 1) := by decide +kernel
theorem d_Mod_goOn_137 : decode b_Mod_goOn 137 = .ok (.iaload, 1) := by decide +kernel
theorem d_Mod_goOn_138 : decode b_Mod_goOn 138 = .ok (.aload_n 0, 1) := by decide +kernel
theorem d_Mod_goOn_139 : decode b_Mod_goOn 139 = .ok (.getfield 100, 3) := by decide +kernel
theorem d_Mod_goOn_142 : decode b_Mod_goOn 142 = .ok (.bipush 64, 2) := by decide +kernel
theorem d_Mod_goOn_144 : decode b_Mod_goOn 144 = .ok (.iload 6, 2) := by decide +kernel
theorem d_Mod_goOn_146 : decode b_Mod_goOn 146 = .ok (.iadd, 1) := by decide +kernel
theorem d_Mod_goOn_147 : decode b_Mod_goOn 147 = .ok (.iaload, 1) := by decide +kernel
theorem d_Mod_goOn_148 : decode b_Mod_goOn 148 = .ok (.if_icmp .ne 7, 3) := by decide +kernel
theorem d_Mod_goOn_151 : decode b_Mod_goOn 151 = .ok (.iconst 1, 1) := by decide +kernel
theorem d_Mod_goOn_152 : decode b_Mod_goOn 152 = .ok (.goto 4, 3) := by decide +kernel
theorem d_Mod_goOn_155 : decode b_Mod_goOn 155 = .ok (.iconst 0, 1) := by decide +kernel
theorem d_Mod_goOn_156 : decode b_Mod_goOn 156 = .ok (.istore 5, 2) := by decide +kernel
theorem d_Mod_goOn_158 : decode b_Mod_goOn 158 = .ok (.iinc 6 1, 3) := by decide +kernel
theorem d_Mod_goOn_161 : decode b_Mod_goOn 161 = .ok (.goto (-47), 3) := by decide +kernel
theorem d_Mod_goOn_164 : decode b_Mod_goOn 164 = .ok (.iload 5, 2) := by decide +kernel
theorem d_Mod_goOn_166 : decode b_Mod_goOn 166 = .ok (.ifCond .ne 14, 3) := by decide +kernel
theorem d_Mod_goOn_169 : decode b_Mod_goOn 169 = .ok (.aload_n 0, 1) := by decide +kernel
theorem d_Mod_goOn_170 : decode b_Mod_goOn 170 = .ok (.bipush 25, 2) := by decide +kernel
theorem d_Mod_goOn_172 : decode b_Mod_goOn 172 = .ok (.aload_n 0, 1) := by decide +kernel
theorem d_Mod_goOn_173 : decode b_Mod_goOn 173 = .ok (.getfield 309, 3) := by decide +kernel
theorem d_Mod_goOn_176 : decode b_Mod_goOn 176 = .ok (.invokevirtual 159, 3) := by decide +kernel
theorem d_Mod_goOn_179 : decode b_Mod_goOn 179 = .ok (.return_, 1) := by decide +kernel
theorem d_Mod_goOn_180 : decode b_Mod_goOn 180 = .ok (.iconst 0, 1) := by decide +kernel
theorem d_Mod_goOn_181 : decode b_Mod_goOn 181 = .ok (.istore 6, 2) := by decide +kernel
theorem d_Mod_goOn_183 : decode b_Mod_goOn 183 = .ok (.iconst 0, 1) := by decide +kernel
theorem d_Mod_goOn_184 : decode b_Mod_goOn 184 = .ok (.istore 7, 2) := by decide +kernel
theorem d_Mod_goOn_186 : decode b_Mod_goOn 186 = .ok (.iload 7, 2) := by decide +kernel
theorem d_Mod_goOn_188 : decode b_Mod_goOn 188 = .ok (.bipush 64, 2) := by decide +kernel
theorem d_Mod_goOn_190 : decode b_Mod_goOn 190 = .ok (.if_icmp .ge 53, 3) := by decide +kernel
theorem d_Mod_goOn_193 : decode b_Mod_goOn 193 = .ok (.aload_n 0, 1) := by decide +kernel
theorem d_Mod_goOn_194 : decode b_Mod_goOn 194 = .ok (.getfield 97, 3) := by decide +kernel
theorem d_Mod_goOn_197 : decode b_Mod_goOn 197 = .ok (.iload 4, 2) := by decide +kernel
theorem d_Mod_goOn_199 : decode b_Mod_goOn 199 = .ok (.iload 7, 2) := by decide +kernel
theorem d_Mod_goOn_201 : decode b_Mod_goOn 201 = .ok (.iadd, 1) := by decide +kernel
theorem d_Mod_goOn_202 : decode b_Mod_goOn 202 = .ok (.iaload, 1) := by decide +kernel
theorem d_Mod_goOn_203 : decode b_Mod_goOn 203 = .ok (.aload_n 2, 1) := by decide +kernel
theorem d_Mod_goOn_204 : decode b_Mod_goOn 204 = .ok (.iload 7, 2) := by decide +kernel
theorem d_Mod_goOn_206 : decode b_Mod_goOn 206 = .ok (.iaload, 1) := by decide +kernel
theorem d_Mod_goOn_207 : decode b_Mod_goOn 207 = .ok (.if_icmp .eq 30, 3) := by decide +kernel
theorem d_Mod_goOn_210 : decode b_Mod_goOn 210 = .ok (.aload_n 0, 1) := by decide +kernel
theorem d_Mod_goOn_211 : decode b_Mod_goOn 211 = .ok (.getfield 97, 3) := by decide +kernel
theorem d_Mod_goOn_214 : decode b_Mod_goOn 214 = .ok (.iload 4, 2) := by decide +kernel
theorem d_Mod_goOn_216 : decode b_Mod_goOn 216 = .ok (.iload 7, 2) := by decide +kernel
theorem d_Mod_goOn_218 : decode b_Mod_goOn 218 = .ok (.iadd, 1) := by decide +kernel
theorem d_Mod_goOn_219 : decode b_Mod_goOn 219 = .ok (.iaload, 1) := by decide +kernel
theorem d_Mod_goOn_220 : decode b_Mod_goOn 220 = .ok (.ifCond .eq 17, 3) := by decide +kernel
theorem d_Mod_goOn_223 : decode b_Mod_goOn 223 = .ok (.aload_n 0, 1) := by decide +kernel
theorem d_Mod_goOn_224 : decode b_Mod_goOn 224 = .ok (.getfield 97, 3) := by decide +kernel
theorem d_Mod_goOn_227 : decode b_Mod_goOn 227 = .ok (.iload 4, 2) := by decide +kernel
theorem d_Mod_goOn_229 : decode b_Mod_goOn 229 = .ok (.iload 7, 2) := by decide +kernel
theorem d_Mod_goOn_231 : decode b_Mod_goOn 231 = .ok (.iadd, 1) := by decide +kernel
theorem d_Mod_goOn_232 : decode b_Mod_goOn 232 = .ok (.iconst 0, 1) := by decide +kernel
theorem d_Mod_goOn_233 : decode b_Mod_goOn 233 = .ok (.iastore, 1) := by decide +kernel
theorem d_Mod_goOn_234 : decode b_Mod_goOn 234 = .ok (.iconst 1, 1) := by decide +kernel
theorem d_Mod_goOn_235 : decode b_Mod_goOn 235 = .ok (.istore 6, 2) := by decide +kernel
theorem d_Mod_goOn_237 : decode b_Mod_goOn 237 = .ok (.iinc 7 1, 3) := by decide +kernel
theorem d_Mod_goOn_240 : decode b_Mod_goOn 240 = .ok (.goto (-54), 3) := by decide +kernel
theorem d_Mod_goOn_243 : decode b_Mod_goOn 243 = .ok (.iconst 0, 1) := by decide +kernel
theorem d_Mod_goOn_244 : decode b_Mod_goOn 244 = .ok (.istore 7, 2) := by decide +kernel
theorem d_Mod_goOn_246 : decode b_Mod_goOn 246 = .ok (.iload 7, 2) := by decide +kernel
theorem d_Mod_goOn_248 : decode b_Mod_goOn 248 = .ok (.bipush 64, 2) := by decide +kernel
theorem d_Mod_goOn_250 : decode b_Mod_goOn 250 = .ok (.if_icmp .ge 103, 3) := by decide +kernel
theorem d_Mod_goOn_253 : decode b_Mod_goOn 253 = .ok (.aload_n 0, 1) := by decide +kernel
theorem d_Mod_goOn_254 : decode b_Mod_goOn 254 = .ok (.getfield 97, 3) := by decide +kernel
theorem d_Mod_goOn_257 : decode b_Mod_goOn 257 = .ok (.iload 4, 2) := by decide +kernel
theorem d_Mod_goOn_259 : decode b_Mod_goOn 259 = .ok (.iload 7, 2) := by decide +kernel
theorem d_Mod_goOn_261 : decode b_Mod_goOn 261 = .ok (.iadd, 1) := by decide +kernel
theorem d_Mod_goOn_262 : decode b_Mod_goOn 262 = .ok (.iaload, 1) := by decide +kernel
theorem d_Mod_goOn_263 : decode b_Mod_goOn 263 = .ok (.istore 8, 2) := by decide +kernel
theorem d_Mod_goOn_265 : decode b_Mod_goOn 265 = .ok (.iload 8, 2) := by decide +kernel
theorem d_Mod_goOn_267 : decode b_Mod_goOn 267 = .ok (.iconst 2, 1) := by decide +kernel
theorem d_Mod_goOn_268 : decode b_Mod_goOn 268 = .ok (.if_icmp .ne 26, 3) := by decide +kernel
theorem d_Mod_goOn_271 : decode b_Mod_goOn 271 = .ok (.iload 7, 2) := by decide +kernel
theorem d_Mod_goOn_273 : decode b_Mod_goOn 273 = .ok (.bipush 63, 2) := by decide +kernel
theorem d_Mod_goOn_275 : decode b_Mod_goOn 275 = .ok (.if_icmp .eq 46, 3) := by decide +kernel
theorem d_Mod_goOn_278 : decode b_Mod_goOn 278 = .ok (.aload_n 0, 1) := by decide +kernel
theorem d_Mod_goOn_279 : decode b_Mod_goOn 279 = .ok (.getfield 97, 3) := by decide +kernel
theorem d_Mod_goOn_282 : decode b_Mod_goOn 282 = .ok (.iload 4, 2) := by decide +kernel
theorem d_Mod_goOn_284 : decode b_Mod_goOn 284 = .ok (.iload 7, 2) := by decide +kernel
theorem d_Mod_goOn_286 : decode b_Mod_goOn 286 = .ok (.iadd, 1) := by decide +kernel
theorem d_Mod_goOn_287 : decode b_Mod_goOn 287 = .ok (.iconst 1, 1) := by decide +kernel
theorem d_Mod_goOn_288 : decode b_Mod_goOn 288 = .ok (.iadd, 1) := by decide +kernel
theorem d_Mod_goOn_289 : decode b_Mod_goOn 289 = .ok (.iaload, 1) := by decide +kernel
theorem d_Mod_goOn_290 : decode b_Mod_goOn 290 = .ok (.iconst 3, 1) := by decide +kernel
theorem d_Mod_goOn_291 : decode b_Mod_goOn 291 = .ok (.if_icmp .ne 30, 3) := by decide +kernel
theorem d_Mod_goOn_294 : decode b_Mod_goOn 294 = .ok (.iload 8, 2) := by decide +kernel
theorem d_Mod_goOn_296 : decode b_Mod_goOn 296 = .ok (.iconst 3, 1) := by decide +kernel
theorem d_Mod_goOn_297 : decode b_Mod_goOn 297 = .ok (.if_icmp .ne 28, 3) := by decide +kernel
theorem d_Mod_goOn_300 : decode b_Mod_goOn 300 = .ok (.iload 7, 2) := by decide +kernel
theorem d_Mod_goOn_302 : decode b_Mod_goOn 302 = .ok (.ifCond .eq 19, 3) := by decide +kernel
theorem d_Mod_goOn_305 : decode b_Mod_goOn 305 = .ok (.aload_n 0, 1) := by decide +kernel
theorem d_Mod_goOn_306 : decode b_Mod_goOn 306 = .ok (.getfield 97, 3) := by decide +kernel
theorem d_Mod_goOn_309 : decode b_Mod_goOn 309 = .ok (.iload 4, 2) := by decide +kernel
theorem d_Mod_goOn_311 : decode b_Mod_goOn 311 = .ok (.iload 7, 2) := by decide +kernel
theorem d_Mod_goOn_313 : decode b_Mod_goOn 313 = .ok (.iadd, 1) := by decide +kernel
theorem d_Mod_goOn_314 : decode b_Mod_goOn 314 = .ok (.iconst 1, 1) := by decide +kernel
theorem d_Mod_goOn_315 : decode b_Mod_goOn 315 = .ok (.isub, 1) := by decide +kernel
theorem d_Mod_goOn_316 : decode b_Mod_goOn 316 = .ok (.iaload, 1) := by decide +kernel
theorem d_Mod_goOn_317 : decode b_Mod_goOn 317 = .ok (.iconst 2, 1) := by decide +kernel
theorem d_Mod_goOn_318 : decode b_Mod_goOn 318 = .ok (.if_icmp .eq 7, 3) := by decide +kernel
theorem d_Mod_goOn_321 : decode b_Mod_goOn 321 = .ok (.iconst 1, 1) := by decide +kernel
theorem d_Mod_goOn_322 : decode b_Mod_goOn 322 = .ok (.goto 4, 3) := by decide +kernel
theorem d_Mod_goOn_325 : decode b_Mod_goOn 325 = .ok (.iconst 0, 1) := by decide +kernel
theorem d_Mod_goOn_326 : decode b_Mod_goOn 326 = .ok (.istore 9, 2) := by decide +kernel
theorem d_Mod_goOn_328 : decode b_Mod_goOn 328 = .ok (.iload 9, 2) := by decide +kernel
theorem d_Mod_goOn_330 : decode b_Mod_goOn 330 = .ok (.ifCond .eq 17, 3) := by decide +kernel
theorem d_Mod_goOn_333 : decode b_Mod_goOn 333 = .ok (.aload_n 0, 1) := by decide +kernel
theorem d_Mod_goOn_334 : decode b_Mod_goOn 334 = .ok (.getfield 97, 3) := by decide +kernel
theorem d_Mod_goOn_337 : decode b_Mod_goOn 337 = .ok (.iload 4, 2) := by decide +kernel
theorem d_Mod_goOn_339 : decode b_Mod_goOn 339 = .ok (.iload 7, 2) := by decide +kernel
theorem d_Mod_goOn_341 : decode b_Mod_goOn 341 = .ok (.iadd, 1) := by decide +kernel
theorem d_Mod_goOn_342 : decode b_Mod_goOn 342 = .ok (.iconst 0, 1) := by decide +kernel
theorem d_Mod_goOn_343 : decode b_Mod_goOn 343 = .ok (.iastore, 1) := by decide +kernel
theorem d_Mod_goOn_344 : decode b_Mod_goOn 344 = .ok (.iconst 1, 1) := by decide +kernel
theorem d_Mod_goOn_345 : decode b_Mod_goOn 345 = .ok (.istore 6, 2) := by decide +kernel
theorem d_Mod_goOn_347 : decode b_Mod_goOn 347 = .ok (.iinc 7 1, 3) := by decide +kernel
theorem d_Mod_goOn_350 : decode b_Mod_goOn 350 = .ok (.goto (-104), 3) := by decide +kernel
theorem d_Mod_goOn_353 : decode b_Mod_goOn 353 = .ok (.aload_n 0, 1) := by decide +kernel
theorem d_Mod_goOn_354 : decode b_Mod_goOn 354 = .ok (.getfield 93, 3) := by decide +kernel
theorem d_Mod_goOn_357 : decode b_Mod_goOn 357 = .ok (.iload_n 1, 1) := by decide +kernel
theorem d_Mod_goOn_358 : decode b_Mod_goOn 358 = .ok (.aload_n 0, 1) := by decide +kernel
theorem d_Mod_goOn_359 : decode b_Mod_goOn 359 = .ok (.getfield 93, 3) := by decide +kernel
theorem d_Mod_goOn_362 : decode b_Mod_goOn 362 = .ok (.iload_n 1, 1) := by decide +kernel
theorem d_Mod_goOn_363 : decode b_Mod_goOn 363 = .ok (.baload, 1) := by decide +kernel
theorem d_Mod_goOn_364 : decode b_Mod_goOn 364 = .ok (.ifCond .ne 8, 3) := by decide +kernel
theorem d_Mod_goOn_367 : decode b_Mod_goOn 367 = .ok (.iload 6, 2) := by decide +kernel
theorem d_Mod_goOn_369 : decode b_Mod_goOn 369 = .ok (.ifCond .eq 7, 3) := by decide +kernel
theorem d_Mod_goOn_372 : decode b_Mod_goOn 372 = .ok (.iconst 1, 1) := by decide +kernel
theorem d_Mod_goOn_373 : decode b_Mod_goOn 373 = .ok (.goto 4, 3) := by decide +kernel
theorem d_Mod_goOn_376 : decode b_Mod_goOn 376 = .ok (.iconst 0, 1) := by decide +kernel
theorem d_Mod_goOn_377 : decode b_Mod_goOn 377 = .ok (.bastore, 1) := by decide +kernel
theorem d_Mod_goOn_378 : decode b_Mod_goOn 378 = .ok (.return_, 1) := by decide +kernel
end
section
set_option maxHeartbeats 4000000 in
set_option maxRecDepth 100000 in
theorem g_Mod_goOnN (l : Launch) (g : tw_G) (sz : Nat) (h0 : Nat) (q : Nat → Nat) (rf : Int32) (n : Nat) (mm : Int32) (mb : Int32) (av : Nat) (ev : Nat) (wi : Int32) (mn : Nat) (tp : Int32) (tc : Int32) (sc : Int32) (nf : Nat) (fd : Nat) (me : Nat) (mp : Int32) (xn : Nat) (mt : Nat) (wh : Nat) (tq : Nat) (ag : Nat) (an : Int32) (ig : Int32) (nw : Nat → Int32) (fa : Int32) (fp : Int32) (dp : Nat → Int32) (iw : Nat → Int32) (kd : Nat → Int32) (tt : Nat) (dd : Nat) (ht6 : tt < 600) (hd64 : dd ≤ 64) (hFR : FRG dp iw kd) (hr3 : ¬ nw 0 = 3) (hn3 : ¬ nw 64 = 3) : Met l y_Mod_goOn [.code y_Mod_goOn b_Mod_goOn 10 none] ({ frames := 1, cells := 0, slots := 0, locals := 22 }) (tw_P g [.ref h0, .int (nI tt), .ref (q 47), .int (nI dd)] [(h0, .inr (10, mob q rf n mm mb fa fp av ev wi mn tp tc sc nf fd me mp xn mt wh tq ag an ig)), ((q 41), aI g 600 dp), ((q 42), aZ g 600 iw), ((q 43), aI g 76800 kd), ((q 47), aI g 128 nw)] sz) (tw_Qv g (fun (u : Int32 × Int32 × (Nat → Int32) × (Nat → Int32) × (Nat → Int32)) => (u.1 = 0 → fa = 0) ∧ (FRG u.2.2.1 u.2.2.2.1 u.2.2.2.2) ∧ (MU u.2.2.1 u.2.2.2.1 u.2.2.2.2 ≤ MU dp iw kd)) (fun u : Int32 × Int32 × (Nat → Int32) × (Nat → Int32) × (Nat → Int32) => [(h0, .inr (10, mob q rf n mm mb u.1 u.2.1 av ev wi mn tp tc sc nf fd me mp xn mt wh tq ag an ig)), ((q 41), aI g 600 u.2.2.1), ((q 42), aZ g 600 u.2.2.2.1), ((q 43), aI g 76800 u.2.2.2.2), ((q 47), aI g 128 nw)]) (va_A [(h0, .inr (10, mob q rf n mm mb fa fp av ev wi mn tp tc sc nf fd me mp xn mt wh tq ag an ig)), ((q 41), aI g 600 dp), ((q 42), aZ g 600 iw), ((q 43), aI g 76800 kd), ((q 47), aI g 128 nw)] sz)) 0 0 (va_A [(h0, .inr (10, mob q rf n mm mb fa fp av ev wi mn tp tc sc nf fd me mp xn mt wh tq ag an ig)), ((q 41), aI g 600 dp), ((q 42), aZ g 600 iw), ((q 43), aI g 76800 kd), ((q 47), aI g 128 nw)] sz) := by
  refine tw_metW (l := l) (g := g) (y := y_Mod_goOn) (cc := b_Mod_goOn) (maxL := 10) (ret := none) (rm := { frames := 1, cells := 0, slots := 0, locals := 22 }) (mc := 0) (ms := 0) (av := [.ref h0, .int (nI tt), .ref (q 47), .int (nI dd)]) (ws := [(h0, .inr (10, mob q rf n mm mb fa fp av ev wi mn tp tc sc nf fd me mp xn mt wh tq ag an ig)), ((q 41), aI g 600 dp), ((q 42), aZ g 600 iw), ((q 43), aI g 76800 kd), ((q 47), aI g 128 nw)]) (sz := sz) (Qc := fun A => (tw_Qv g (fun (u : Int32 × Int32 × (Nat → Int32) × (Nat → Int32) × (Nat → Int32)) => (u.1 = 0 → fa = 0) ∧ (FRG u.2.2.1 u.2.2.2.1 u.2.2.2.2) ∧ (MU u.2.2.1 u.2.2.2.1 u.2.2.2.2 ≤ MU dp iw kd)) (fun u : Int32 × Int32 × (Nat → Int32) × (Nat → Int32) × (Nat → Int32) => [(h0, .inr (10, mob q rf n mm mb u.1 u.2.1 av ev wi mn tp tc sc nf fd me mp xn mt wh tq ag an ig)), ((q 41), aI g 600 u.2.2.1), ((q 42), aZ g 600 u.2.2.2.1), ((q 43), aI g 76800 u.2.2.2.2), ((q 47), aI g 128 nw)]) A)) (by decide) (Nat.le_of_ble_eq_true rfl) ?_
  intro p e s m below meth c ls H A E hB hK hZ hP hD hS hA hl
  obtain ⟨hx, hb, hml, hr, hown, hts, hlocks, hin⟩ := id E
  have hl : lv_has ls 10 [(0, .ref h0), (1, .int (nI tt)), (2, .ref (q 47)), (3, .int (nI dd))] := hl
  refine lv_sipush (v := 128) hx hb d_Mod_goOn_0 (by decide) ?_
  refine lv_iload_n hx hb d_Mod_goOn_3 rfl (lv_at hl 1 rfl) ?_
  refine lv_imul hx hb d_Mod_goOn_4 ?_
  refine tw_ri (e2 := nI (128 * tt)) (pk_mul 128 tt) ?_
  refine lv_istore hx hb d_Mod_goOn_5 hl (by decide) rfl (fun ls hl => ?_)
  have hl : lv_has ls 10 [(4, .int (nI (128 * tt))), (0, .ref h0), (1, .int (nI tt)), (2, .ref (q 47)), (3, .int (nI dd))] := hl
  refine lv_aload_n hx hb d_Mod_goOn_7 rfl (lv_at hl 1 rfl) ?_
  refine va_get (D := g.1) (ci := 10) (v := .ref (q 41)) (C := R_Mod) (T := F_Mod) (N := 61) hx hb hts in_Mod hown hK hP 0 rfl rfl 41 (by decide) (hts _ wd_1291) (fun _ h9 => h9) rfl d_Mod_goOn_8 ?_
  refine lv_iload_n hx hb d_Mod_goOn_11 rfl (lv_at hl 2 rfl) ?_
  refine va_iald hx hb hK hP 1 0 rfl rfl (vp_in_nI (by omega) (by decide)) d_Mod_goOn_12 ?_
  refine tw_ri (e2 := dp tt) (by rw [nI_clamp (by omega)]) ?_
  refine lv_if_ge (tgt := 94) hx hb d_Mod_goOn_13 (by decide) (fun h13 => ?_) (fun h13 => ?_)
  · refine lv_aload_n hx hb d_Mod_goOn_94 rfl (lv_at hl 1 rfl) ?_
    refine va_get (D := g.1) (ci := 10) (v := .ref (q 41)) (C := R_Mod) (T := F_Mod) (N := 61) hx hb hts in_Mod hown hK hP 0 rfl rfl 41 (by decide) (hts _ wd_1291) (fun _ h9 => h9) rfl d_Mod_goOn_95 ?_
    refine lv_iload_n hx hb d_Mod_goOn_98 rfl (lv_at hl 2 rfl) ?_
    refine va_iald hx hb hK hP 1 0 rfl rfl (vp_in_nI (by omega) (by decide)) d_Mod_goOn_99 ?_
    refine tw_ri (e2 := dp tt) (by rw [nI_clamp (by omega)]) ?_
    refine lv_iload_n hx hb d_Mod_goOn_100 rfl (lv_at hl 4 rfl) ?_
    refine lv_icmp_ne (tgt := 108) hx hb d_Mod_goOn_101 (by decide) (fun h101 => ?_) (fun h101 => ?_)
    · refine lv_iconst (v := 0) hx hb d_Mod_goOn_108 (by decide) ?_
      refine lv_istore hx hb d_Mod_goOn_109 hl (by decide) rfl (fun ls hl => ?_)
      have hl : lv_has ls 10 [(5, .int 0), (4, .int (nI (128 * tt))), (0, .ref h0), (1, .int (nI tt)), (2, .ref (q 47)), (3, .int (nI dd))] := hl
      refine lv_iconst (v := 0) hx hb d_Mod_goOn_111 (by decide) ?_
      refine lv_istore hx hb d_Mod_goOn_112 hl (by decide) rfl (fun ls hl => ?_)
      have hl : lv_has ls 10 [(6, .int 0), (5, .int 0), (4, .int (nI (128 * tt))), (0, .ref h0), (1, .int (nI tt)), (2, .ref (q 47)), (3, .int (nI dd))] := hl
      have loop114 : ∀ (kq : Nat) (s9 : Int32) (k : Nat) (ls : Array Slot) (H : Heap) (locs : List Loc) , dd - k = kq → (hkd : k ≤ dd) → lv_has ls 10 [(6, .int (nI k)), (5, .int s9), (4, .int (nI (128 * tt))), (0, .ref h0), (1, .int (nI tt)), (2, .ref (q 47)), (3, .int (nI dd))] → va_P g.1 classes [(h0, .inr (10, mob q rf n mm mb fa fp av ev wi mn tp tc sc nf fd me mp xn mt wh tq ag an ig)), ((q 41), aI g 600 dp), ((q 42), aZ g 600 iw), ((q 43), aI g 76800 kd), ((q 47), aI g 128 nw)] H → va_D A [(h0, .inr (10, mob q rf n mm mb fa fp av ev wi mn tp tc sc nf fd me mp xn mt wh tq ag an ig)), ((q 41), aI g 600 dp), ((q 42), aZ g 600 iw), ((q 43), aI g 76800 kd), ((q 47), aI g 128 nw)] → va_S A s.heap H locs → W p l e ({ frames := 1, cells := 0, slots := 0, locals := 22 }) s m [.ref h0, .int (nI tt), .ref (q 47), .int (nI dd)].toArray below meth c H locs 0 0 (MQ below (tw_Qv g (fun (u : Int32 × Int32 × (Nat → Int32) × (Nat → Int32) × (Nat → Int32)) => (u.1 = 0 → fa = 0) ∧ (FRG u.2.2.1 u.2.2.2.1 u.2.2.2.2) ∧ (MU u.2.2.1 u.2.2.2.1 u.2.2.2.2 ≤ MU dp iw kd)) (fun u : Int32 × Int32 × (Nat → Int32) × (Nat → Int32) × (Nat → Int32) => [(h0, .inr (10, mob q rf n mm mb u.1 u.2.1 av ev wi mn tp tc sc nf fd me mp xn mt wh tq ag an ig)), ((q 41), aI g 600 u.2.2.1), ((q 42), aZ g 600 u.2.2.2.1), ((q 43), aI g 76800 u.2.2.2.2), ((q 47), aI g 128 nw)]) A) [.ref h0, .int (nI tt), .ref (q 47), .int (nI dd)].toArray s 0 0 A) (F0 m 114 ls []) := by
        intro kq
        induction kq using Nat.strongRecOn with
        | _ kq ih =>
          intro s9 k ls H locs hk hkd hl hP hD hS
          refine lv_iload hx hb d_Mod_goOn_114 (lv_at hl 1 rfl) ?_
          refine lv_if_eq (tgt := 164) hx hb d_Mod_goOn_116 (by decide) (fun h116 => ?_) (fun h116 => ?_)
          · refine lv_iload hx hb d_Mod_goOn_164 (lv_at hl 1 rfl) ?_
            refine lv_if_ne (tgt := 180) hx hb d_Mod_goOn_166 (by decide) (fun h166 => ?_) (fun h166 => ?_)
            · exact absurd h116 h166
            · refine lv_aload_n hx hb d_Mod_goOn_169 rfl (lv_at hl 3 rfl) ?_
              refine lv_bipush (v := 25) hx hb d_Mod_goOn_170 (by decide) ?_
              refine lv_aload_n hx hb d_Mod_goOn_172 rfl (lv_at hl 3 rfl) ?_
              refine va_get (D := g.1) (ci := 10) (v := .int (nI wh)) (C := R_Mod) (T := F_Mod) (N := 61) hx hb hts in_Mod hown hK hP 0 rfl rfl 45 (by decide) (hts _ wd_1295) (fun _ h9 => h9) rfl d_Mod_goOn_173 ?_
              refine tw_wv (wr := [((q 41), aI g 600 dp), ((q 42), aZ g 600 iw), ((q 43), aI g 76800 kd), ((q 47), aI g 128 nw)]) (tw_runV (ws := [(h0, .inr (10, mob q rf n mm mb fa fp av ev wi mn tp tc sc nf fd me mp xn mt wh tq ag an ig)), ((q 41), aI g 600 dp), ((q 42), aZ g 600 iw), ((q 43), aI g 76800 kd), ((q 47), aI g 128 nw)]) (wc := [(h0, .inr (10, mob q rf n mm mb fa fp av ev wi mn tp tc sc nf fd me mp xn mt wh tq ag an ig))]) (As := [.int 25, .int (nI wh)]) (rest := []) E hB hK hZ (g_Mod_fail l g H.size h0 q rf n mm mb av ev wi mn tp tc sc nf fd me mp xn mt wh tq ag an ig fa fp 25 (nI wh) (by decide)) mc_Mod_fail mi_Mod_fail me_Mod_fail wd_1478 hP hD hS hA [0] rfl (by decide) 0 rfl rfl rfl rfl rfl (by decide) rfl hl.1 rfl (Nat.le_of_ble_eq_true rfl) (by decide) d_Mod_goOn_176) hP hD hS hA [0] [1, 2, 3, 4] rfl rfl (by decide) (by decide) (fun u2 H locs hr1 hP hD hS => ?_)
              try dsimp only at hr1
              have hP : va_P g.1 classes [((q 41), aI g 600 dp), ((q 42), aZ g 600 iw), ((q 43), aI g 76800 kd), ((q 47), aI g 128 nw), (h0, .inr (10, mob q rf n mm mb u2.1 u2.2 av ev wi mn tp tc sc nf fd me mp xn mt wh tq ag an ig))] H := hP
              have hD : va_D A [((q 41), aI g 600 dp), ((q 42), aZ g 600 iw), ((q 43), aI g 76800 kd), ((q 47), aI g 128 nw), (h0, .inr (10, mob q rf n mm mb u2.1 u2.2 av ev wi mn tp tc sc nf fd me mp xn mt wh tq ag an ig))] := hD
              have hP : va_P g.1 classes [(h0, .inr (10, mob q rf n mm mb u2.1 u2.2 av ev wi mn tp tc sc nf fd me mp xn mt wh tq ag an ig)), ((q 41), aI g 600 dp), ((q 42), aZ g 600 iw), ((q 43), aI g 76800 kd), ((q 47), aI g 128 nw)] H := hP.sub [4, 0, 1, 2, 3] rfl
              have hD : va_D A [(h0, .inr (10, mob q rf n mm mb u2.1 u2.2 av ev wi mn tp tc sc nf fd me mp xn mt wh tq ag an ig)), ((q 41), aI g 600 dp), ((q 42), aZ g 600 iw), ((q 43), aI g 76800 kd), ((q 47), aI g 128 nw)] := hD.sub [4, 0, 1, 2, 3] (by decide) rfl
              have hp2_0 := hr1
              exact tw_vret E hS (u2.1, u2.2, dp, iw, kd) (⟨(fun h => absurd h hp2_0), hFR, (Nat.le_refl _)⟩) hP hD d_Mod_goOn_179
          · refine lv_iload hx hb d_Mod_goOn_119 (lv_at hl 0 rfl) ?_
            refine lv_iload_n hx hb d_Mod_goOn_121 rfl (lv_at hl 6 rfl) ?_
            refine lv_icmp_ge (tgt := 164) hx hb d_Mod_goOn_122 (by decide) (fun h122 => ?_) (fun h122 => ?_)
            · refine lv_iload hx hb d_Mod_goOn_164 (lv_at hl 1 rfl) ?_
              refine lv_if_ne (tgt := 180) hx hb d_Mod_goOn_166 (by decide) (fun h166 => ?_) (fun h166 => ?_)
              · refine lv_iconst (v := 0) hx hb d_Mod_goOn_180 (by decide) ?_
                refine lv_istore hx hb d_Mod_goOn_181 hl (by decide) rfl (fun ls hl => ?_)
                have hl : lv_has ls 10 [(6, .int 0), (5, .int s9), (4, .int (nI (128 * tt))), (0, .ref h0), (1, .int (nI tt)), (2, .ref (q 47)), (3, .int (nI dd))] := hl
                refine lv_iconst (v := 0) hx hb d_Mod_goOn_183 (by decide) ?_
                refine lv_istore hx hb d_Mod_goOn_184 hl (by decide) rfl (fun ls hl => ?_)
                have hl : lv_has ls 10 [(7, .int 0), (6, .int 0), (5, .int s9), (4, .int (nI (128 * tt))), (0, .ref h0), (1, .int (nI tt)), (2, .ref (q 47)), (3, .int (nI dd))] := hl
                have loop186 : ∀ (kq : Nat) (c9 : Int32) (k : Nat) (kd9 : Nat → Int32) (ls : Array Slot) (H : Heap) (locs : List Loc) , 64 - k = kq → (hk4 : k ≤ 64) → (hKD : KD3 kd9) → (hCN : CHN c9 (NK kd9) (NK kd)) → lv_has ls 10 [(7, .int (nI k)), (6, .int c9), (5, .int s9), (4, .int (nI (128 * tt))), (0, .ref h0), (1, .int (nI tt)), (2, .ref (q 47)), (3, .int (nI dd))] → va_P g.1 classes [(h0, .inr (10, mob q rf n mm mb fa fp av ev wi mn tp tc sc nf fd me mp xn mt wh tq ag an ig)), ((q 41), aI g 600 dp), ((q 42), aZ g 600 iw), ((q 43), aI g 76800 kd9), ((q 47), aI g 128 nw)] H → va_D A [(h0, .inr (10, mob q rf n mm mb fa fp av ev wi mn tp tc sc nf fd me mp xn mt wh tq ag an ig)), ((q 41), aI g 600 dp), ((q 42), aZ g 600 iw), ((q 43), aI g 76800 kd9), ((q 47), aI g 128 nw)] → va_S A s.heap H locs → W p l e ({ frames := 1, cells := 0, slots := 0, locals := 22 }) s m [.ref h0, .int (nI tt), .ref (q 47), .int (nI dd)].toArray below meth c H locs 0 0 (MQ below (tw_Qv g (fun (u : Int32 × Int32 × (Nat → Int32) × (Nat → Int32) × (Nat → Int32)) => (u.1 = 0 → fa = 0) ∧ (FRG u.2.2.1 u.2.2.2.1 u.2.2.2.2) ∧ (MU u.2.2.1 u.2.2.2.1 u.2.2.2.2 ≤ MU dp iw kd)) (fun u : Int32 × Int32 × (Nat → Int32) × (Nat → Int32) × (Nat → Int32) => [(h0, .inr (10, mob q rf n mm mb u.1 u.2.1 av ev wi mn tp tc sc nf fd me mp xn mt wh tq ag an ig)), ((q 41), aI g 600 u.2.2.1), ((q 42), aZ g 600 u.2.2.2.1), ((q 43), aI g 76800 u.2.2.2.2), ((q 47), aI g 128 nw)]) A) [.ref h0, .int (nI tt), .ref (q 47), .int (nI dd)].toArray s 0 0 A) (F0 m 186 ls []) := by
                  intro kq
                  induction kq using Nat.strongRecOn with
                  | _ kq ih186 =>
                    intro c9 k kd9 ls H locs hk186 hk4 hKD hCN hl hP hD hS
                    refine lv_iload hx hb d_Mod_goOn_186 (lv_at hl 0 rfl) ?_
                    refine lv_bipush (v := 64) hx hb d_Mod_goOn_188 (by decide) ?_
                    refine lv_icmp_ge (tgt := 243) hx hb d_Mod_goOn_190 (by decide) (fun h190 => ?_) (fun h190 => ?_)
                    · have h190 := tn_le (a := 64) h190 (by decide) (by omega)
                      refine lv_iconst (v := 0) hx hb d_Mod_goOn_243 (by decide) ?_
                      refine lv_istore hx hb d_Mod_goOn_244 hl (by decide) rfl (fun ls hl => ?_)
                      have hl : lv_has ls 10 [(7, .int 0), (6, .int c9), (5, .int s9), (4, .int (nI (128 * tt))), (0, .ref h0), (1, .int (nI tt)), (2, .ref (q 47)), (3, .int (nI dd))] := hl
                      have loop246 : ∀ (kq : Nat) (c8 : Int32) (k : Nat) (kd8 : Nat → Int32) (ls : Array Slot) (H : Heap) (locs : List Loc) , 64 - k = kq → (hk48 : k ≤ 64) → (hKD8 : KD3 kd8) → (hCN8 : CHN c8 (NK kd8) (NK kd)) → lv_has ls 10 [(7, .int (nI k)), (6, .int c8), (4, .int (nI (128 * tt))), (0, .ref h0), (1, .int (nI tt)), (2, .ref (q 47)), (3, .int (nI dd))] → va_P g.1 classes [(h0, .inr (10, mob q rf n mm mb fa fp av ev wi mn tp tc sc nf fd me mp xn mt wh tq ag an ig)), ((q 41), aI g 600 dp), ((q 42), aZ g 600 iw), ((q 43), aI g 76800 kd8), ((q 47), aI g 128 nw)] H → va_D A [(h0, .inr (10, mob q rf n mm mb fa fp av ev wi mn tp tc sc nf fd me mp xn mt wh tq ag an ig)), ((q 41), aI g 600 dp), ((q 42), aZ g 600 iw), ((q 43), aI g 76800 kd8), ((q 47), aI g 128 nw)] → va_S A s.heap H locs → W p l e ({ frames := 1, cells := 0, slots := 0, locals := 22 }) s m [.ref h0, .int (nI tt), .ref (q 47), .int (nI dd)].toArray below meth c H locs 0 0 (MQ below (tw_Qv g (fun (u : Int32 × Int32 × (Nat → Int32) × (Nat → Int32) × (Nat → Int32)) => (u.1 = 0 → fa = 0) ∧ (FRG u.2.2.1 u.2.2.2.1 u.2.2.2.2) ∧ (MU u.2.2.1 u.2.2.2.1 u.2.2.2.2 ≤ MU dp iw kd)) (fun u : Int32 × Int32 × (Nat → Int32) × (Nat → Int32) × (Nat → Int32) => [(h0, .inr (10, mob q rf n mm mb u.1 u.2.1 av ev wi mn tp tc sc nf fd me mp xn mt wh tq ag an ig)), ((q 41), aI g 600 u.2.2.1), ((q 42), aZ g 600 u.2.2.2.1), ((q 43), aI g 76800 u.2.2.2.2), ((q 47), aI g 128 nw)]) A) [.ref h0, .int (nI tt), .ref (q 47), .int (nI dd)].toArray s 0 0 A) (F0 m 246 ls []) := by
                        intro kq
                        induction kq using Nat.strongRecOn with
                        | _ kq ih246 =>
                          intro c8 k kd8 ls H locs hk246 hk48 hKD8 hCN8 hl hP hD hS
                          refine lv_iload hx hb d_Mod_goOn_246 (lv_at hl 0 rfl) ?_
                          refine lv_bipush (v := 64) hx hb d_Mod_goOn_248 (by decide) ?_
                          refine lv_icmp_ge (tgt := 353) hx hb d_Mod_goOn_250 (by decide) (fun h250 => ?_) (fun h250 => ?_)
                          · have h250 := tn_le (a := 64) h250 (by decide) (by omega)
                            refine lv_aload_n hx hb d_Mod_goOn_353 rfl (lv_at hl 3 rfl) ?_
                            refine va_get (D := g.1) (ci := 10) (v := .ref (q 42)) (C := R_Mod) (T := F_Mod) (N := 61) hx hb hts in_Mod hown hK hP 0 rfl rfl 42 (by decide) (hts _ wd_1292) (fun _ h9 => h9) rfl d_Mod_goOn_354 ?_
                            refine lv_iload_n hx hb d_Mod_goOn_357 rfl (lv_at hl 4 rfl) ?_
                            refine lv_aload_n hx hb d_Mod_goOn_358 rfl (lv_at hl 3 rfl) ?_
                            refine va_get (D := g.1) (ci := 10) (v := .ref (q 42)) (C := R_Mod) (T := F_Mod) (N := 61) hx hb hts in_Mod hown hK hP 0 rfl rfl 42 (by decide) (hts _ wd_1292) (fun _ h9 => h9) rfl d_Mod_goOn_359 ?_
                            refine lv_iload_n hx hb d_Mod_goOn_362 rfl (lv_at hl 4 rfl) ?_
                            refine va_zald hx hb hK hP 2 3 rfl rfl (vp_in_nI (by omega) (by decide)) d_Mod_goOn_363 ?_
                            refine tw_ri (e2 := iw tt) (by rw [nI_clamp (by omega)]) ?_
                            refine lv_if_ne (tgt := 372) hx hb d_Mod_goOn_364 (by decide) (fun h364 => ?_) (fun h364 => ?_)
                            · refine lv_iconst (v := 1) hx hb d_Mod_goOn_372 (by decide) ?_
                              refine lv_goto (tgt := 377) hx hb d_Mod_goOn_373 (by decide) ?_
                              refine va_zast hx hb hK hP hD hS 2 3 rfl rfl (vp_in_nI (by omega) (by decide)) d_Mod_goOn_377 (fun H locs hP hD hS => ?_)
                              have hP : va_P g.1 classes [(h0, .inr (10, mob q rf n mm mb fa fp av ev wi mn tp tc sc nf fd me mp xn mt wh tq ag an ig)), ((q 41), aI g 600 dp), ((q 42), aZ g 600 (upd iw (nI tt).toNatClampNeg (vp_nar .boolean 1))), ((q 43), aI g 76800 kd8), ((q 47), aI g 128 nw)] H := hP
                              have hD : va_D A [(h0, .inr (10, mob q rf n mm mb fa fp av ev wi mn tp tc sc nf fd me mp xn mt wh tq ag an ig)), ((q 41), aI g 600 dp), ((q 42), aZ g 600 (upd iw (nI tt).toNatClampNeg (vp_nar .boolean 1))), ((q 43), aI g 76800 kd8), ((q 47), aI g 128 nw)] := hD
                              have e9 : upd iw (nI tt).toNatClampNeg (vp_nar .boolean 1) = upd iw tt 1 := by rw [nI_clamp (by omega)]; rfl
                              rw [e9] at hP hD
                              exact tw_vret E hS (fa, fp, dp, upd iw tt 1, kd8) (⟨(fun h => h), (hFR.again h13 hKD8), (mu_keep ht6 (Or.inl ⟨by rw [wC_1 h364]; exact Nat.le_refl _, chn_le hCN8⟩))⟩) hP hD d_Mod_goOn_378
                            · refine lv_iload hx hb d_Mod_goOn_367 (lv_at hl 1 rfl) ?_
                              refine lv_if_eq (tgt := 376) hx hb d_Mod_goOn_369 (by decide) (fun h369 => ?_) (fun h369 => ?_)
                              · refine lv_iconst (v := 0) hx hb d_Mod_goOn_376 (by decide) ?_
                                refine va_zast hx hb hK hP hD hS 2 3 rfl rfl (vp_in_nI (by omega) (by decide)) d_Mod_goOn_377 (fun H locs hP hD hS => ?_)
                                have hP : va_P g.1 classes [(h0, .inr (10, mob q rf n mm mb fa fp av ev wi mn tp tc sc nf fd me mp xn mt wh tq ag an ig)), ((q 41), aI g 600 dp), ((q 42), aZ g 600 (upd iw (nI tt).toNatClampNeg (vp_nar .boolean 0))), ((q 43), aI g 76800 kd8), ((q 47), aI g 128 nw)] H := hP
                                have hD : va_D A [(h0, .inr (10, mob q rf n mm mb fa fp av ev wi mn tp tc sc nf fd me mp xn mt wh tq ag an ig)), ((q 41), aI g 600 dp), ((q 42), aZ g 600 (upd iw (nI tt).toNatClampNeg (vp_nar .boolean 0))), ((q 43), aI g 76800 kd8), ((q 47), aI g 128 nw)] := hD
                                have e9 : upd iw (nI tt).toNatClampNeg (vp_nar .boolean 0) = upd iw tt 0 := by rw [nI_clamp (by omega)]; rfl
                                rw [e9] at hP hD
                                exact tw_vret E hS (fa, fp, dp, upd iw tt 0, kd8) (⟨(fun h => h), (hFR.again h13 hKD8), (mu_keep ht6 (Or.inl ⟨Nat.zero_le _, chn_le hCN8⟩))⟩) hP hD d_Mod_goOn_378
                              · refine lv_iconst (v := 1) hx hb d_Mod_goOn_372 (by decide) ?_
                                refine lv_goto (tgt := 377) hx hb d_Mod_goOn_373 (by decide) ?_
                                refine va_zast hx hb hK hP hD hS 2 3 rfl rfl (vp_in_nI (by omega) (by decide)) d_Mod_goOn_377 (fun H locs hP hD hS => ?_)
                                have hP : va_P g.1 classes [(h0, .inr (10, mob q rf n mm mb fa fp av ev wi mn tp tc sc nf fd me mp xn mt wh tq ag an ig)), ((q 41), aI g 600 dp), ((q 42), aZ g 600 (upd iw (nI tt).toNatClampNeg (vp_nar .boolean 1))), ((q 43), aI g 76800 kd8), ((q 47), aI g 128 nw)] H := hP
                                have hD : va_D A [(h0, .inr (10, mob q rf n mm mb fa fp av ev wi mn tp tc sc nf fd me mp xn mt wh tq ag an ig)), ((q 41), aI g 600 dp), ((q 42), aZ g 600 (upd iw (nI tt).toNatClampNeg (vp_nar .boolean 1))), ((q 43), aI g 76800 kd8), ((q 47), aI g 128 nw)] := hD
                                have e9 : upd iw (nI tt).toNatClampNeg (vp_nar .boolean 1) = upd iw tt 1 := by rw [nI_clamp (by omega)]; rfl
                                rw [e9] at hP hD
                                exact tw_vret E hS (fa, fp, dp, upd iw tt 1, kd8) (⟨(fun h => h), (hFR.again h13 hKD8), (mu_keep ht6 (Or.inr (chn_lt hCN8 h369)))⟩) hP hD d_Mod_goOn_378
                          · have h250 := tn_nle (a := 64) h250 (by decide) (by omega)
                            refine lv_aload_n hx hb d_Mod_goOn_253 rfl (lv_at hl 3 rfl) ?_
                            refine va_get (D := g.1) (ci := 10) (v := .ref (q 43)) (C := R_Mod) (T := F_Mod) (N := 61) hx hb hts in_Mod hown hK hP 0 rfl rfl 43 (by decide) (hts _ wd_1293) (fun _ h9 => h9) rfl d_Mod_goOn_254 ?_
                            refine lv_iload hx hb d_Mod_goOn_257 (lv_at hl 2 rfl) ?_
                            refine lv_iload hx hb d_Mod_goOn_259 (lv_at hl 0 rfl) ?_
                            refine lv_iadd hx hb d_Mod_goOn_261 ?_
                            refine tw_ri (e2 := nI (128 * tt + k)) (nI_add _ _) ?_
                            refine va_iald hx hb hK hP 3 0 rfl rfl (vp_in_nI (by omega) (by decide)) d_Mod_goOn_262 ?_
                            refine tw_ri (e2 := kd8 (128 * tt + k)) (by rw [nI_clamp (by omega)]) ?_
                            refine lv_istore hx hb d_Mod_goOn_263 hl (by decide) rfl (fun ls hl => ?_)
                            have hl : lv_has ls 10 [(8, .int (kd8 (128 * tt + k))), (7, .int (nI k)), (6, .int c8), (4, .int (nI (128 * tt))), (0, .ref h0), (1, .int (nI tt)), (2, .ref (q 47)), (3, .int (nI dd))] := hl
                            refine lv_iload hx hb d_Mod_goOn_265 (lv_at hl 0 rfl) ?_
                            refine lv_iconst (v := 2) hx hb d_Mod_goOn_267 (by decide) ?_
                            refine lv_icmp_ne (tgt := 294) hx hb d_Mod_goOn_268 (by decide) (fun h268 => ?_) (fun h268 => ?_)
                            · refine lv_iload hx hb d_Mod_goOn_294 (lv_at hl 0 rfl) ?_
                              refine lv_iconst (v := 3) hx hb d_Mod_goOn_296 (by decide) ?_
                              refine lv_icmp_ne (tgt := 325) hx hb d_Mod_goOn_297 (by decide) (fun h297 => ?_) (fun h297 => ?_)
                              · refine lv_iconst (v := 0) hx hb d_Mod_goOn_325 (by decide) ?_
                                refine lv_istore hx hb d_Mod_goOn_326 hl (by decide) rfl (fun ls hl => ?_)
                                have hl : lv_has ls 10 [(9, .int 0), (8, .int (kd8 (128 * tt + k))), (7, .int (nI k)), (6, .int c8), (4, .int (nI (128 * tt))), (0, .ref h0), (1, .int (nI tt)), (2, .ref (q 47)), (3, .int (nI dd))] := hl
                                refine lv_iload hx hb d_Mod_goOn_328 (lv_at hl 0 rfl) ?_
                                refine lv_if_eq (tgt := 347) hx hb d_Mod_goOn_330 (by decide) (fun h330 => ?_) (fun h330 => ?_)
                                · refine lv_iinc (k := 2) (v := nI (k + 1)) hx hb d_Mod_goOn_347 hl rfl ((nI_succ k).symm) (by decide) rfl (fun ls hl => ?_)
                                  have hl : lv_has ls 10 [(7, .int (nI (k + 1))), (9, .int 0), (8, .int (kd8 (128 * tt + k))), (6, .int c8), (4, .int (nI (128 * tt))), (0, .ref h0), (1, .int (nI tt)), (2, .ref (q 47)), (3, .int (nI dd))] := hl
                                  refine lv_goto (tgt := 246) hx hb d_Mod_goOn_350 (by decide) ?_
                                  have hP : va_P g.1 classes [(h0, .inr (10, mob q rf n mm mb fa fp av ev wi mn tp tc sc nf fd me mp xn mt wh tq ag an ig)), ((q 41), aI g 600 dp), ((q 42), aZ g 600 iw), ((q 43), aI g 76800 kd8), ((q 47), aI g 128 nw)] H := hP.sub [0, 1, 2, 3, 4] rfl
                                  have hD : va_D A [(h0, .inr (10, mob q rf n mm mb fa fp av ev wi mn tp tc sc nf fd me mp xn mt wh tq ag an ig)), ((q 41), aI g 600 dp), ((q 42), aZ g 600 iw), ((q 43), aI g 76800 kd8), ((q 47), aI g 128 nw)] := hD.sub [0, 1, 2, 3, 4] (by decide) rfl
                                  exact ih246 _ (by omega) c8 (k + 1) kd8 ls _ _ rfl (by omega) hKD8 hCN8 (lv_sub hl [0, 3, 4, 5, 6, 7, 8] rfl) hP hD hS
                                · first | exact absurd h330 (by decide) | exact absurd (by decide) h330
                              · refine lv_iload hx hb d_Mod_goOn_300 (lv_at hl 1 rfl) ?_
                                refine lv_if_eq (tgt := 321) hx hb d_Mod_goOn_302 (by decide) (fun h302 => ?_) (fun h302 => ?_)
                                · refine lv_iconst (v := 1) hx hb d_Mod_goOn_321 (by decide) ?_
                                  refine lv_goto (tgt := 326) hx hb d_Mod_goOn_322 (by decide) ?_
                                  refine lv_istore hx hb d_Mod_goOn_326 hl (by decide) rfl (fun ls hl => ?_)
                                  have hl : lv_has ls 10 [(9, .int 1), (8, .int (kd8 (128 * tt + k))), (7, .int (nI k)), (6, .int c8), (4, .int (nI (128 * tt))), (0, .ref h0), (1, .int (nI tt)), (2, .ref (q 47)), (3, .int (nI dd))] := hl
                                  refine lv_iload hx hb d_Mod_goOn_328 (lv_at hl 0 rfl) ?_
                                  refine lv_if_eq (tgt := 347) hx hb d_Mod_goOn_330 (by decide) (fun h330 => ?_) (fun h330 => ?_)
                                  · first | exact absurd h330 (by decide) | exact absurd (by decide) h330
                                  · refine lv_aload_n hx hb d_Mod_goOn_333 rfl (lv_at hl 5 rfl) ?_
                                    refine va_get (D := g.1) (ci := 10) (v := .ref (q 43)) (C := R_Mod) (T := F_Mod) (N := 61) hx hb hts in_Mod hown hK hP 0 rfl rfl 43 (by decide) (hts _ wd_1293) (fun _ h9 => h9) rfl d_Mod_goOn_334 ?_
                                    refine lv_iload hx hb d_Mod_goOn_337 (lv_at hl 4 rfl) ?_
                                    refine lv_iload hx hb d_Mod_goOn_339 (lv_at hl 2 rfl) ?_
                                    refine lv_iadd hx hb d_Mod_goOn_341 ?_
                                    refine tw_ri (e2 := nI (128 * tt + k)) (nI_add _ _) ?_
                                    refine lv_iconst (v := 0) hx hb d_Mod_goOn_342 (by decide) ?_
                                    refine va_iast hx hb hK hP hD hS 3 0 rfl rfl (vp_in_nI (by omega) (by decide)) d_Mod_goOn_343 (fun H locs hP hD hS => ?_)
                                    have hP : va_P g.1 classes [(h0, .inr (10, mob q rf n mm mb fa fp av ev wi mn tp tc sc nf fd me mp xn mt wh tq ag an ig)), ((q 41), aI g 600 dp), ((q 42), aZ g 600 iw), ((q 43), aI g 76800 (upd kd8 (nI (128 * tt + k)).toNatClampNeg 0)), ((q 47), aI g 128 nw)] H := hP
                                    have hD : va_D A [(h0, .inr (10, mob q rf n mm mb fa fp av ev wi mn tp tc sc nf fd me mp xn mt wh tq ag an ig)), ((q 41), aI g 600 dp), ((q 42), aZ g 600 iw), ((q 43), aI g 76800 (upd kd8 (nI (128 * tt + k)).toNatClampNeg 0)), ((q 47), aI g 128 nw)] := hD
                                    have e9 : upd kd8 (nI (128 * tt + k)).toNatClampNeg 0 = upd kd8 (128 * tt + k) 0 := by rw [nI_clamp (by omega)]
                                    rw [e9] at hP hD
                                    refine lv_iconst (v := 1) hx hb d_Mod_goOn_344 (by decide) ?_
                                    refine lv_istore hx hb d_Mod_goOn_345 hl (by decide) rfl (fun ls hl => ?_)
                                    have hl : lv_has ls 10 [(6, .int 1), (9, .int 1), (8, .int (kd8 (128 * tt + k))), (7, .int (nI k)), (4, .int (nI (128 * tt))), (0, .ref h0), (1, .int (nI tt)), (2, .ref (q 47)), (3, .int (nI dd))] := hl
                                    refine lv_iinc (k := 3) (v := nI (k + 1)) hx hb d_Mod_goOn_347 hl rfl ((nI_succ k).symm) (by decide) rfl (fun ls hl => ?_)
                                    have hl : lv_has ls 10 [(7, .int (nI (k + 1))), (6, .int 1), (9, .int 1), (8, .int (kd8 (128 * tt + k))), (4, .int (nI (128 * tt))), (0, .ref h0), (1, .int (nI tt)), (2, .ref (q 47)), (3, .int (nI dd))] := hl
                                    refine lv_goto (tgt := 246) hx hb d_Mod_goOn_350 (by decide) ?_
                                    have hP : va_P g.1 classes [(h0, .inr (10, mob q rf n mm mb fa fp av ev wi mn tp tc sc nf fd me mp xn mt wh tq ag an ig)), ((q 41), aI g 600 dp), ((q 42), aZ g 600 iw), ((q 43), aI g 76800 (upd kd8 (128 * tt + k) 0)), ((q 47), aI g 128 nw)] H := hP.sub [0, 1, 2, 3, 4] rfl
                                    have hD : va_D A [(h0, .inr (10, mob q rf n mm mb fa fp av ev wi mn tp tc sc nf fd me mp xn mt wh tq ag an ig)), ((q 41), aI g 600 dp), ((q 42), aZ g 600 iw), ((q 43), aI g 76800 (upd kd8 (128 * tt + k) 0)), ((q 47), aI g 128 nw)] := hD.sub [0, 1, 2, 3, 4] (by decide) rfl
                                    exact ih246 _ (by omega) 1 (k + 1) (upd kd8 (128 * tt + k) 0) ls _ _ rfl (by omega) (hKD8.put (fun _ => by decide)) (nk_dn hCN8 (by omega) (by omega) (by rw [h297]; decide)) (lv_sub hl [0, 1, 4, 5, 6, 7, 8] rfl) hP hD hS
                                · have h302 := tn_ne (b := 0) h302
                                  refine lv_aload_n hx hb d_Mod_goOn_305 rfl (lv_at hl 4 rfl) ?_
                                  refine va_get (D := g.1) (ci := 10) (v := .ref (q 43)) (C := R_Mod) (T := F_Mod) (N := 61) hx hb hts in_Mod hown hK hP 0 rfl rfl 43 (by decide) (hts _ wd_1293) (fun _ h9 => h9) rfl d_Mod_goOn_306 ?_
                                  refine lv_iload hx hb d_Mod_goOn_309 (lv_at hl 3 rfl) ?_
                                  refine lv_iload hx hb d_Mod_goOn_311 (lv_at hl 1 rfl) ?_
                                  refine lv_iadd hx hb d_Mod_goOn_313 ?_
                                  refine tw_ri (e2 := nI (128 * tt + k)) (nI_add _ _) ?_
                                  refine lv_iconst (v := 1) hx hb d_Mod_goOn_314 (by decide) ?_
                                  refine lv_isub hx hb d_Mod_goOn_315 ?_
                                  refine tw_ri (e2 := nI (128 * tt + k - 1)) (pk_sub (b := 1) (by omega)) ?_
                                  refine va_iald hx hb hK hP 3 0 rfl rfl (vp_in_nI (by omega) (by decide)) d_Mod_goOn_316 ?_
                                  obtain ⟨x3, ex3⟩ : ∃ z : Int32, kd8 ((nI (128 * tt + k - 1)).toNatClampNeg) = z := ⟨_, rfl⟩
                                  refine tw_ri (e2 := x3) ex3 ?_
                                  refine lv_iconst (v := 2) hx hb d_Mod_goOn_317 (by decide) ?_
                                  refine lv_icmp_eq (tgt := 325) hx hb d_Mod_goOn_318 (by decide) (fun h318 => ?_) (fun h318 => ?_)
                                  · refine lv_iconst (v := 0) hx hb d_Mod_goOn_325 (by decide) ?_
                                    refine lv_istore hx hb d_Mod_goOn_326 hl (by decide) rfl (fun ls hl => ?_)
                                    have hl : lv_has ls 10 [(9, .int 0), (8, .int (kd8 (128 * tt + k))), (7, .int (nI k)), (6, .int c8), (4, .int (nI (128 * tt))), (0, .ref h0), (1, .int (nI tt)), (2, .ref (q 47)), (3, .int (nI dd))] := hl
                                    refine lv_iload hx hb d_Mod_goOn_328 (lv_at hl 0 rfl) ?_
                                    refine lv_if_eq (tgt := 347) hx hb d_Mod_goOn_330 (by decide) (fun h330 => ?_) (fun h330 => ?_)
                                    · refine lv_iinc (k := 2) (v := nI (k + 1)) hx hb d_Mod_goOn_347 hl rfl ((nI_succ k).symm) (by decide) rfl (fun ls hl => ?_)
                                      have hl : lv_has ls 10 [(7, .int (nI (k + 1))), (9, .int 0), (8, .int (kd8 (128 * tt + k))), (6, .int c8), (4, .int (nI (128 * tt))), (0, .ref h0), (1, .int (nI tt)), (2, .ref (q 47)), (3, .int (nI dd))] := hl
                                      refine lv_goto (tgt := 246) hx hb d_Mod_goOn_350 (by decide) ?_
                                      have hP : va_P g.1 classes [(h0, .inr (10, mob q rf n mm mb fa fp av ev wi mn tp tc sc nf fd me mp xn mt wh tq ag an ig)), ((q 41), aI g 600 dp), ((q 42), aZ g 600 iw), ((q 43), aI g 76800 kd8), ((q 47), aI g 128 nw)] H := hP.sub [0, 1, 2, 3, 4] rfl
                                      have hD : va_D A [(h0, .inr (10, mob q rf n mm mb fa fp av ev wi mn tp tc sc nf fd me mp xn mt wh tq ag an ig)), ((q 41), aI g 600 dp), ((q 42), aZ g 600 iw), ((q 43), aI g 76800 kd8), ((q 47), aI g 128 nw)] := hD.sub [0, 1, 2, 3, 4] (by decide) rfl
                                      exact ih246 _ (by omega) c8 (k + 1) kd8 ls _ _ rfl (by omega) hKD8 hCN8 (lv_sub hl [0, 3, 4, 5, 6, 7, 8] rfl) hP hD hS
                                    · first | exact absurd h330 (by decide) | exact absurd (by decide) h330
                                  · refine lv_iconst (v := 1) hx hb d_Mod_goOn_321 (by decide) ?_
                                    refine lv_goto (tgt := 326) hx hb d_Mod_goOn_322 (by decide) ?_
                                    refine lv_istore hx hb d_Mod_goOn_326 hl (by decide) rfl (fun ls hl => ?_)
                                    have hl : lv_has ls 10 [(9, .int 1), (8, .int (kd8 (128 * tt + k))), (7, .int (nI k)), (6, .int c8), (4, .int (nI (128 * tt))), (0, .ref h0), (1, .int (nI tt)), (2, .ref (q 47)), (3, .int (nI dd))] := hl
                                    refine lv_iload hx hb d_Mod_goOn_328 (lv_at hl 0 rfl) ?_
                                    refine lv_if_eq (tgt := 347) hx hb d_Mod_goOn_330 (by decide) (fun h330 => ?_) (fun h330 => ?_)
                                    · first | exact absurd h330 (by decide) | exact absurd (by decide) h330
                                    · refine lv_aload_n hx hb d_Mod_goOn_333 rfl (lv_at hl 5 rfl) ?_
                                      refine va_get (D := g.1) (ci := 10) (v := .ref (q 43)) (C := R_Mod) (T := F_Mod) (N := 61) hx hb hts in_Mod hown hK hP 0 rfl rfl 43 (by decide) (hts _ wd_1293) (fun _ h9 => h9) rfl d_Mod_goOn_334 ?_
                                      refine lv_iload hx hb d_Mod_goOn_337 (lv_at hl 4 rfl) ?_
                                      refine lv_iload hx hb d_Mod_goOn_339 (lv_at hl 2 rfl) ?_
                                      refine lv_iadd hx hb d_Mod_goOn_341 ?_
                                      refine tw_ri (e2 := nI (128 * tt + k)) (nI_add _ _) ?_
                                      refine lv_iconst (v := 0) hx hb d_Mod_goOn_342 (by decide) ?_
                                      refine va_iast hx hb hK hP hD hS 3 0 rfl rfl (vp_in_nI (by omega) (by decide)) d_Mod_goOn_343 (fun H locs hP hD hS => ?_)
                                      have hP : va_P g.1 classes [(h0, .inr (10, mob q rf n mm mb fa fp av ev wi mn tp tc sc nf fd me mp xn mt wh tq ag an ig)), ((q 41), aI g 600 dp), ((q 42), aZ g 600 iw), ((q 43), aI g 76800 (upd kd8 (nI (128 * tt + k)).toNatClampNeg 0)), ((q 47), aI g 128 nw)] H := hP
                                      have hD : va_D A [(h0, .inr (10, mob q rf n mm mb fa fp av ev wi mn tp tc sc nf fd me mp xn mt wh tq ag an ig)), ((q 41), aI g 600 dp), ((q 42), aZ g 600 iw), ((q 43), aI g 76800 (upd kd8 (nI (128 * tt + k)).toNatClampNeg 0)), ((q 47), aI g 128 nw)] := hD
                                      have e9 : upd kd8 (nI (128 * tt + k)).toNatClampNeg 0 = upd kd8 (128 * tt + k) 0 := by rw [nI_clamp (by omega)]
                                      rw [e9] at hP hD
                                      refine lv_iconst (v := 1) hx hb d_Mod_goOn_344 (by decide) ?_
                                      refine lv_istore hx hb d_Mod_goOn_345 hl (by decide) rfl (fun ls hl => ?_)
                                      have hl : lv_has ls 10 [(6, .int 1), (9, .int 1), (8, .int (kd8 (128 * tt + k))), (7, .int (nI k)), (4, .int (nI (128 * tt))), (0, .ref h0), (1, .int (nI tt)), (2, .ref (q 47)), (3, .int (nI dd))] := hl
                                      refine lv_iinc (k := 3) (v := nI (k + 1)) hx hb d_Mod_goOn_347 hl rfl ((nI_succ k).symm) (by decide) rfl (fun ls hl => ?_)
                                      have hl : lv_has ls 10 [(7, .int (nI (k + 1))), (6, .int 1), (9, .int 1), (8, .int (kd8 (128 * tt + k))), (4, .int (nI (128 * tt))), (0, .ref h0), (1, .int (nI tt)), (2, .ref (q 47)), (3, .int (nI dd))] := hl
                                      refine lv_goto (tgt := 246) hx hb d_Mod_goOn_350 (by decide) ?_
                                      have hP : va_P g.1 classes [(h0, .inr (10, mob q rf n mm mb fa fp av ev wi mn tp tc sc nf fd me mp xn mt wh tq ag an ig)), ((q 41), aI g 600 dp), ((q 42), aZ g 600 iw), ((q 43), aI g 76800 (upd kd8 (128 * tt + k) 0)), ((q 47), aI g 128 nw)] H := hP.sub [0, 1, 2, 3, 4] rfl
                                      have hD : va_D A [(h0, .inr (10, mob q rf n mm mb fa fp av ev wi mn tp tc sc nf fd me mp xn mt wh tq ag an ig)), ((q 41), aI g 600 dp), ((q 42), aZ g 600 iw), ((q 43), aI g 76800 (upd kd8 (128 * tt + k) 0)), ((q 47), aI g 128 nw)] := hD.sub [0, 1, 2, 3, 4] (by decide) rfl
                                      exact ih246 _ (by omega) 1 (k + 1) (upd kd8 (128 * tt + k) 0) ls _ _ rfl (by omega) (hKD8.put (fun _ => by decide)) (nk_dn hCN8 (by omega) (by omega) (by rw [h297]; decide)) (lv_sub hl [0, 1, 4, 5, 6, 7, 8] rfl) hP hD hS
                            · refine lv_iload hx hb d_Mod_goOn_271 (lv_at hl 1 rfl) ?_
                              refine lv_bipush (v := 63) hx hb d_Mod_goOn_273 (by decide) ?_
                              refine lv_icmp_eq (tgt := 321) hx hb d_Mod_goOn_275 (by decide) (fun h275 => ?_) (fun h275 => ?_)
                              · refine lv_iconst (v := 1) hx hb d_Mod_goOn_321 (by decide) ?_
                                refine lv_goto (tgt := 326) hx hb d_Mod_goOn_322 (by decide) ?_
                                refine lv_istore hx hb d_Mod_goOn_326 hl (by decide) rfl (fun ls hl => ?_)
                                have hl : lv_has ls 10 [(9, .int 1), (8, .int (kd8 (128 * tt + k))), (7, .int (nI k)), (6, .int c8), (4, .int (nI (128 * tt))), (0, .ref h0), (1, .int (nI tt)), (2, .ref (q 47)), (3, .int (nI dd))] := hl
                                refine lv_iload hx hb d_Mod_goOn_328 (lv_at hl 0 rfl) ?_
                                refine lv_if_eq (tgt := 347) hx hb d_Mod_goOn_330 (by decide) (fun h330 => ?_) (fun h330 => ?_)
                                · first | exact absurd h330 (by decide) | exact absurd (by decide) h330
                                · refine lv_aload_n hx hb d_Mod_goOn_333 rfl (lv_at hl 5 rfl) ?_
                                  refine va_get (D := g.1) (ci := 10) (v := .ref (q 43)) (C := R_Mod) (T := F_Mod) (N := 61) hx hb hts in_Mod hown hK hP 0 rfl rfl 43 (by decide) (hts _ wd_1293) (fun _ h9 => h9) rfl d_Mod_goOn_334 ?_
                                  refine lv_iload hx hb d_Mod_goOn_337 (lv_at hl 4 rfl) ?_
                                  refine lv_iload hx hb d_Mod_goOn_339 (lv_at hl 2 rfl) ?_
                                  refine lv_iadd hx hb d_Mod_goOn_341 ?_
                                  refine tw_ri (e2 := nI (128 * tt + k)) (nI_add _ _) ?_
                                  refine lv_iconst (v := 0) hx hb d_Mod_goOn_342 (by decide) ?_
                                  refine va_iast hx hb hK hP hD hS 3 0 rfl rfl (vp_in_nI (by omega) (by decide)) d_Mod_goOn_343 (fun H locs hP hD hS => ?_)
                                  have hP : va_P g.1 classes [(h0, .inr (10, mob q rf n mm mb fa fp av ev wi mn tp tc sc nf fd me mp xn mt wh tq ag an ig)), ((q 41), aI g 600 dp), ((q 42), aZ g 600 iw), ((q 43), aI g 76800 (upd kd8 (nI (128 * tt + k)).toNatClampNeg 0)), ((q 47), aI g 128 nw)] H := hP
                                  have hD : va_D A [(h0, .inr (10, mob q rf n mm mb fa fp av ev wi mn tp tc sc nf fd me mp xn mt wh tq ag an ig)), ((q 41), aI g 600 dp), ((q 42), aZ g 600 iw), ((q 43), aI g 76800 (upd kd8 (nI (128 * tt + k)).toNatClampNeg 0)), ((q 47), aI g 128 nw)] := hD
                                  have e9 : upd kd8 (nI (128 * tt + k)).toNatClampNeg 0 = upd kd8 (128 * tt + k) 0 := by rw [nI_clamp (by omega)]
                                  rw [e9] at hP hD
                                  refine lv_iconst (v := 1) hx hb d_Mod_goOn_344 (by decide) ?_
                                  refine lv_istore hx hb d_Mod_goOn_345 hl (by decide) rfl (fun ls hl => ?_)
                                  have hl : lv_has ls 10 [(6, .int 1), (9, .int 1), (8, .int (kd8 (128 * tt + k))), (7, .int (nI k)), (4, .int (nI (128 * tt))), (0, .ref h0), (1, .int (nI tt)), (2, .ref (q 47)), (3, .int (nI dd))] := hl
                                  refine lv_iinc (k := 3) (v := nI (k + 1)) hx hb d_Mod_goOn_347 hl rfl ((nI_succ k).symm) (by decide) rfl (fun ls hl => ?_)
                                  have hl : lv_has ls 10 [(7, .int (nI (k + 1))), (6, .int 1), (9, .int 1), (8, .int (kd8 (128 * tt + k))), (4, .int (nI (128 * tt))), (0, .ref h0), (1, .int (nI tt)), (2, .ref (q 47)), (3, .int (nI dd))] := hl
                                  refine lv_goto (tgt := 246) hx hb d_Mod_goOn_350 (by decide) ?_
                                  have hP : va_P g.1 classes [(h0, .inr (10, mob q rf n mm mb fa fp av ev wi mn tp tc sc nf fd me mp xn mt wh tq ag an ig)), ((q 41), aI g 600 dp), ((q 42), aZ g 600 iw), ((q 43), aI g 76800 (upd kd8 (128 * tt + k) 0)), ((q 47), aI g 128 nw)] H := hP.sub [0, 1, 2, 3, 4] rfl
                                  have hD : va_D A [(h0, .inr (10, mob q rf n mm mb fa fp av ev wi mn tp tc sc nf fd me mp xn mt wh tq ag an ig)), ((q 41), aI g 600 dp), ((q 42), aZ g 600 iw), ((q 43), aI g 76800 (upd kd8 (128 * tt + k) 0)), ((q 47), aI g 128 nw)] := hD.sub [0, 1, 2, 3, 4] (by decide) rfl
                                  exact ih246 _ (by omega) 1 (k + 1) (upd kd8 (128 * tt + k) 0) ls _ _ rfl (by omega) (hKD8.put (fun _ => by decide)) (nk_dn hCN8 (by omega) (by omega) (by rw [h268]; decide)) (lv_sub hl [0, 1, 4, 5, 6, 7, 8] rfl) hP hD hS
                              · refine lv_aload_n hx hb d_Mod_goOn_278 rfl (lv_at hl 4 rfl) ?_
                                refine va_get (D := g.1) (ci := 10) (v := .ref (q 43)) (C := R_Mod) (T := F_Mod) (N := 61) hx hb hts in_Mod hown hK hP 0 rfl rfl 43 (by decide) (hts _ wd_1293) (fun _ h9 => h9) rfl d_Mod_goOn_279 ?_
                                refine lv_iload hx hb d_Mod_goOn_282 (lv_at hl 3 rfl) ?_
                                refine lv_iload hx hb d_Mod_goOn_284 (lv_at hl 1 rfl) ?_
                                refine lv_iadd hx hb d_Mod_goOn_286 ?_
                                refine tw_ri (e2 := nI (128 * tt + k)) (nI_add _ _) ?_
                                refine lv_iconst (v := 1) hx hb d_Mod_goOn_287 (by decide) ?_
                                refine lv_iadd hx hb d_Mod_goOn_288 ?_
                                refine tw_ri (e2 := nI (128 * tt + k + 1)) (nI_add _ 1) ?_
                                refine va_iald hx hb hK hP 3 0 rfl rfl (vp_in_nI (by omega) (by decide)) d_Mod_goOn_289 ?_
                                obtain ⟨x4, ex4⟩ : ∃ z : Int32, kd8 ((nI (128 * tt + k + 1)).toNatClampNeg) = z := ⟨_, rfl⟩
                                refine tw_ri (e2 := x4) ex4 ?_
                                refine lv_iconst (v := 3) hx hb d_Mod_goOn_290 (by decide) ?_
                                refine lv_icmp_ne (tgt := 321) hx hb d_Mod_goOn_291 (by decide) (fun h291 => ?_) (fun h291 => ?_)
                                · refine lv_iconst (v := 1) hx hb d_Mod_goOn_321 (by decide) ?_
                                  refine lv_goto (tgt := 326) hx hb d_Mod_goOn_322 (by decide) ?_
                                  refine lv_istore hx hb d_Mod_goOn_326 hl (by decide) rfl (fun ls hl => ?_)
                                  have hl : lv_has ls 10 [(9, .int 1), (8, .int (kd8 (128 * tt + k))), (7, .int (nI k)), (6, .int c8), (4, .int (nI (128 * tt))), (0, .ref h0), (1, .int (nI tt)), (2, .ref (q 47)), (3, .int (nI dd))] := hl
                                  refine lv_iload hx hb d_Mod_goOn_328 (lv_at hl 0 rfl) ?_
                                  refine lv_if_eq (tgt := 347) hx hb d_Mod_goOn_330 (by decide) (fun h330 => ?_) (fun h330 => ?_)
                                  · first | exact absurd h330 (by decide) | exact absurd (by decide) h330
                                  · refine lv_aload_n hx hb d_Mod_goOn_333 rfl (lv_at hl 5 rfl) ?_
                                    refine va_get (D := g.1) (ci := 10) (v := .ref (q 43)) (C := R_Mod) (T := F_Mod) (N := 61) hx hb hts in_Mod hown hK hP 0 rfl rfl 43 (by decide) (hts _ wd_1293) (fun _ h9 => h9) rfl d_Mod_goOn_334 ?_
                                    refine lv_iload hx hb d_Mod_goOn_337 (lv_at hl 4 rfl) ?_
                                    refine lv_iload hx hb d_Mod_goOn_339 (lv_at hl 2 rfl) ?_
                                    refine lv_iadd hx hb d_Mod_goOn_341 ?_
                                    refine tw_ri (e2 := nI (128 * tt + k)) (nI_add _ _) ?_
                                    refine lv_iconst (v := 0) hx hb d_Mod_goOn_342 (by decide) ?_
                                    refine va_iast hx hb hK hP hD hS 3 0 rfl rfl (vp_in_nI (by omega) (by decide)) d_Mod_goOn_343 (fun H locs hP hD hS => ?_)
                                    have hP : va_P g.1 classes [(h0, .inr (10, mob q rf n mm mb fa fp av ev wi mn tp tc sc nf fd me mp xn mt wh tq ag an ig)), ((q 41), aI g 600 dp), ((q 42), aZ g 600 iw), ((q 43), aI g 76800 (upd kd8 (nI (128 * tt + k)).toNatClampNeg 0)), ((q 47), aI g 128 nw)] H := hP
                                    have hD : va_D A [(h0, .inr (10, mob q rf n mm mb fa fp av ev wi mn tp tc sc nf fd me mp xn mt wh tq ag an ig)), ((q 41), aI g 600 dp), ((q 42), aZ g 600 iw), ((q 43), aI g 76800 (upd kd8 (nI (128 * tt + k)).toNatClampNeg 0)), ((q 47), aI g 128 nw)] := hD
                                    have e9 : upd kd8 (nI (128 * tt + k)).toNatClampNeg 0 = upd kd8 (128 * tt + k) 0 := by rw [nI_clamp (by omega)]
                                    rw [e9] at hP hD
                                    refine lv_iconst (v := 1) hx hb d_Mod_goOn_344 (by decide) ?_
                                    refine lv_istore hx hb d_Mod_goOn_345 hl (by decide) rfl (fun ls hl => ?_)
                                    have hl : lv_has ls 10 [(6, .int 1), (9, .int 1), (8, .int (kd8 (128 * tt + k))), (7, .int (nI k)), (4, .int (nI (128 * tt))), (0, .ref h0), (1, .int (nI tt)), (2, .ref (q 47)), (3, .int (nI dd))] := hl
                                    refine lv_iinc (k := 3) (v := nI (k + 1)) hx hb d_Mod_goOn_347 hl rfl ((nI_succ k).symm) (by decide) rfl (fun ls hl => ?_)
                                    have hl : lv_has ls 10 [(7, .int (nI (k + 1))), (6, .int 1), (9, .int 1), (8, .int (kd8 (128 * tt + k))), (4, .int (nI (128 * tt))), (0, .ref h0), (1, .int (nI tt)), (2, .ref (q 47)), (3, .int (nI dd))] := hl
                                    refine lv_goto (tgt := 246) hx hb d_Mod_goOn_350 (by decide) ?_
                                    have hP : va_P g.1 classes [(h0, .inr (10, mob q rf n mm mb fa fp av ev wi mn tp tc sc nf fd me mp xn mt wh tq ag an ig)), ((q 41), aI g 600 dp), ((q 42), aZ g 600 iw), ((q 43), aI g 76800 (upd kd8 (128 * tt + k) 0)), ((q 47), aI g 128 nw)] H := hP.sub [0, 1, 2, 3, 4] rfl
                                    have hD : va_D A [(h0, .inr (10, mob q rf n mm mb fa fp av ev wi mn tp tc sc nf fd me mp xn mt wh tq ag an ig)), ((q 41), aI g 600 dp), ((q 42), aZ g 600 iw), ((q 43), aI g 76800 (upd kd8 (128 * tt + k) 0)), ((q 47), aI g 128 nw)] := hD.sub [0, 1, 2, 3, 4] (by decide) rfl
                                    exact ih246 _ (by omega) 1 (k + 1) (upd kd8 (128 * tt + k) 0) ls _ _ rfl (by omega) (hKD8.put (fun _ => by decide)) (nk_dn hCN8 (by omega) (by omega) (by rw [h268]; decide)) (lv_sub hl [0, 1, 4, 5, 6, 7, 8] rfl) hP hD hS
                                · refine lv_iload hx hb d_Mod_goOn_294 (lv_at hl 0 rfl) ?_
                                  refine lv_iconst (v := 3) hx hb d_Mod_goOn_296 (by decide) ?_
                                  refine lv_icmp_ne (tgt := 325) hx hb d_Mod_goOn_297 (by decide) (fun h297 => ?_) (fun h297 => ?_)
                                  · refine lv_iconst (v := 0) hx hb d_Mod_goOn_325 (by decide) ?_
                                    refine lv_istore hx hb d_Mod_goOn_326 hl (by decide) rfl (fun ls hl => ?_)
                                    have hl : lv_has ls 10 [(9, .int 0), (8, .int (kd8 (128 * tt + k))), (7, .int (nI k)), (6, .int c8), (4, .int (nI (128 * tt))), (0, .ref h0), (1, .int (nI tt)), (2, .ref (q 47)), (3, .int (nI dd))] := hl
                                    refine lv_iload hx hb d_Mod_goOn_328 (lv_at hl 0 rfl) ?_
                                    refine lv_if_eq (tgt := 347) hx hb d_Mod_goOn_330 (by decide) (fun h330 => ?_) (fun h330 => ?_)
                                    · refine lv_iinc (k := 2) (v := nI (k + 1)) hx hb d_Mod_goOn_347 hl rfl ((nI_succ k).symm) (by decide) rfl (fun ls hl => ?_)
                                      have hl : lv_has ls 10 [(7, .int (nI (k + 1))), (9, .int 0), (8, .int (kd8 (128 * tt + k))), (6, .int c8), (4, .int (nI (128 * tt))), (0, .ref h0), (1, .int (nI tt)), (2, .ref (q 47)), (3, .int (nI dd))] := hl
                                      refine lv_goto (tgt := 246) hx hb d_Mod_goOn_350 (by decide) ?_
                                      have hP : va_P g.1 classes [(h0, .inr (10, mob q rf n mm mb fa fp av ev wi mn tp tc sc nf fd me mp xn mt wh tq ag an ig)), ((q 41), aI g 600 dp), ((q 42), aZ g 600 iw), ((q 43), aI g 76800 kd8), ((q 47), aI g 128 nw)] H := hP.sub [0, 1, 2, 3, 4] rfl
                                      have hD : va_D A [(h0, .inr (10, mob q rf n mm mb fa fp av ev wi mn tp tc sc nf fd me mp xn mt wh tq ag an ig)), ((q 41), aI g 600 dp), ((q 42), aZ g 600 iw), ((q 43), aI g 76800 kd8), ((q 47), aI g 128 nw)] := hD.sub [0, 1, 2, 3, 4] (by decide) rfl
                                      exact ih246 _ (by omega) c8 (k + 1) kd8 ls _ _ rfl (by omega) hKD8 hCN8 (lv_sub hl [0, 3, 4, 5, 6, 7, 8] rfl) hP hD hS
                                    · first | exact absurd h330 (by decide) | exact absurd (by decide) h330
                                  · refine lv_iload hx hb d_Mod_goOn_300 (lv_at hl 1 rfl) ?_
                                    refine lv_if_eq (tgt := 321) hx hb d_Mod_goOn_302 (by decide) (fun h302 => ?_) (fun h302 => ?_)
                                    · refine lv_iconst (v := 1) hx hb d_Mod_goOn_321 (by decide) ?_
                                      refine lv_goto (tgt := 326) hx hb d_Mod_goOn_322 (by decide) ?_
                                      refine lv_istore hx hb d_Mod_goOn_326 hl (by decide) rfl (fun ls hl => ?_)
                                      have hl : lv_has ls 10 [(9, .int 1), (8, .int (kd8 (128 * tt + k))), (7, .int (nI k)), (6, .int c8), (4, .int (nI (128 * tt))), (0, .ref h0), (1, .int (nI tt)), (2, .ref (q 47)), (3, .int (nI dd))] := hl
                                      refine lv_iload hx hb d_Mod_goOn_328 (lv_at hl 0 rfl) ?_
                                      refine lv_if_eq (tgt := 347) hx hb d_Mod_goOn_330 (by decide) (fun h330 => ?_) (fun h330 => ?_)
                                      · first | exact absurd h330 (by decide) | exact absurd (by decide) h330
                                      · refine lv_aload_n hx hb d_Mod_goOn_333 rfl (lv_at hl 5 rfl) ?_
                                        refine va_get (D := g.1) (ci := 10) (v := .ref (q 43)) (C := R_Mod) (T := F_Mod) (N := 61) hx hb hts in_Mod hown hK hP 0 rfl rfl 43 (by decide) (hts _ wd_1293) (fun _ h9 => h9) rfl d_Mod_goOn_334 ?_
                                        refine lv_iload hx hb d_Mod_goOn_337 (lv_at hl 4 rfl) ?_
                                        refine lv_iload hx hb d_Mod_goOn_339 (lv_at hl 2 rfl) ?_
                                        refine lv_iadd hx hb d_Mod_goOn_341 ?_
                                        refine tw_ri (e2 := nI (128 * tt + k)) (nI_add _ _) ?_
                                        refine lv_iconst (v := 0) hx hb d_Mod_goOn_342 (by decide) ?_
                                        refine va_iast hx hb hK hP hD hS 3 0 rfl rfl (vp_in_nI (by omega) (by decide)) d_Mod_goOn_343 (fun H locs hP hD hS => ?_)
                                        have hP : va_P g.1 classes [(h0, .inr (10, mob q rf n mm mb fa fp av ev wi mn tp tc sc nf fd me mp xn mt wh tq ag an ig)), ((q 41), aI g 600 dp), ((q 42), aZ g 600 iw), ((q 43), aI g 76800 (upd kd8 (nI (128 * tt + k)).toNatClampNeg 0)), ((q 47), aI g 128 nw)] H := hP
                                        have hD : va_D A [(h0, .inr (10, mob q rf n mm mb fa fp av ev wi mn tp tc sc nf fd me mp xn mt wh tq ag an ig)), ((q 41), aI g 600 dp), ((q 42), aZ g 600 iw), ((q 43), aI g 76800 (upd kd8 (nI (128 * tt + k)).toNatClampNeg 0)), ((q 47), aI g 128 nw)] := hD
                                        have e9 : upd kd8 (nI (128 * tt + k)).toNatClampNeg 0 = upd kd8 (128 * tt + k) 0 := by rw [nI_clamp (by omega)]
                                        rw [e9] at hP hD
                                        refine lv_iconst (v := 1) hx hb d_Mod_goOn_344 (by decide) ?_
                                        refine lv_istore hx hb d_Mod_goOn_345 hl (by decide) rfl (fun ls hl => ?_)
                                        have hl : lv_has ls 10 [(6, .int 1), (9, .int 1), (8, .int (kd8 (128 * tt + k))), (7, .int (nI k)), (4, .int (nI (128 * tt))), (0, .ref h0), (1, .int (nI tt)), (2, .ref (q 47)), (3, .int (nI dd))] := hl
                                        refine lv_iinc (k := 3) (v := nI (k + 1)) hx hb d_Mod_goOn_347 hl rfl ((nI_succ k).symm) (by decide) rfl (fun ls hl => ?_)
                                        have hl : lv_has ls 10 [(7, .int (nI (k + 1))), (6, .int 1), (9, .int 1), (8, .int (kd8 (128 * tt + k))), (4, .int (nI (128 * tt))), (0, .ref h0), (1, .int (nI tt)), (2, .ref (q 47)), (3, .int (nI dd))] := hl
                                        refine lv_goto (tgt := 246) hx hb d_Mod_goOn_350 (by decide) ?_
                                        have hP : va_P g.1 classes [(h0, .inr (10, mob q rf n mm mb fa fp av ev wi mn tp tc sc nf fd me mp xn mt wh tq ag an ig)), ((q 41), aI g 600 dp), ((q 42), aZ g 600 iw), ((q 43), aI g 76800 (upd kd8 (128 * tt + k) 0)), ((q 47), aI g 128 nw)] H := hP.sub [0, 1, 2, 3, 4] rfl
                                        have hD : va_D A [(h0, .inr (10, mob q rf n mm mb fa fp av ev wi mn tp tc sc nf fd me mp xn mt wh tq ag an ig)), ((q 41), aI g 600 dp), ((q 42), aZ g 600 iw), ((q 43), aI g 76800 (upd kd8 (128 * tt + k) 0)), ((q 47), aI g 128 nw)] := hD.sub [0, 1, 2, 3, 4] (by decide) rfl
                                        exact ih246 _ (by omega) 1 (k + 1) (upd kd8 (128 * tt + k) 0) ls _ _ rfl (by omega) (hKD8.put (fun _ => by decide)) (nk_dn hCN8 (by omega) (by omega) (by rw [h297]; decide)) (lv_sub hl [0, 1, 4, 5, 6, 7, 8] rfl) hP hD hS
                                    · have h302 := tn_ne (b := 0) h302
                                      refine lv_aload_n hx hb d_Mod_goOn_305 rfl (lv_at hl 4 rfl) ?_
                                      refine va_get (D := g.1) (ci := 10) (v := .ref (q 43)) (C := R_Mod) (T := F_Mod) (N := 61) hx hb hts in_Mod hown hK hP 0 rfl rfl 43 (by decide) (hts _ wd_1293) (fun _ h9 => h9) rfl d_Mod_goOn_306 ?_
                                      refine lv_iload hx hb d_Mod_goOn_309 (lv_at hl 3 rfl) ?_
                                      refine lv_iload hx hb d_Mod_goOn_311 (lv_at hl 1 rfl) ?_
                                      refine lv_iadd hx hb d_Mod_goOn_313 ?_
                                      refine tw_ri (e2 := nI (128 * tt + k)) (nI_add _ _) ?_
                                      refine lv_iconst (v := 1) hx hb d_Mod_goOn_314 (by decide) ?_
                                      refine lv_isub hx hb d_Mod_goOn_315 ?_
                                      refine tw_ri (e2 := nI (128 * tt + k - 1)) (pk_sub (b := 1) (by omega)) ?_
                                      refine va_iald hx hb hK hP 3 0 rfl rfl (vp_in_nI (by omega) (by decide)) d_Mod_goOn_316 ?_
                                      obtain ⟨x5, ex5⟩ : ∃ z : Int32, kd8 ((nI (128 * tt + k - 1)).toNatClampNeg) = z := ⟨_, rfl⟩
                                      refine tw_ri (e2 := x5) ex5 ?_
                                      refine lv_iconst (v := 2) hx hb d_Mod_goOn_317 (by decide) ?_
                                      refine lv_icmp_eq (tgt := 325) hx hb d_Mod_goOn_318 (by decide) (fun h318 => ?_) (fun h318 => ?_)
                                      · refine lv_iconst (v := 0) hx hb d_Mod_goOn_325 (by decide) ?_
                                        refine lv_istore hx hb d_Mod_goOn_326 hl (by decide) rfl (fun ls hl => ?_)
                                        have hl : lv_has ls 10 [(9, .int 0), (8, .int (kd8 (128 * tt + k))), (7, .int (nI k)), (6, .int c8), (4, .int (nI (128 * tt))), (0, .ref h0), (1, .int (nI tt)), (2, .ref (q 47)), (3, .int (nI dd))] := hl
                                        refine lv_iload hx hb d_Mod_goOn_328 (lv_at hl 0 rfl) ?_
                                        refine lv_if_eq (tgt := 347) hx hb d_Mod_goOn_330 (by decide) (fun h330 => ?_) (fun h330 => ?_)
                                        · refine lv_iinc (k := 2) (v := nI (k + 1)) hx hb d_Mod_goOn_347 hl rfl ((nI_succ k).symm) (by decide) rfl (fun ls hl => ?_)
                                          have hl : lv_has ls 10 [(7, .int (nI (k + 1))), (9, .int 0), (8, .int (kd8 (128 * tt + k))), (6, .int c8), (4, .int (nI (128 * tt))), (0, .ref h0), (1, .int (nI tt)), (2, .ref (q 47)), (3, .int (nI dd))] := hl
                                          refine lv_goto (tgt := 246) hx hb d_Mod_goOn_350 (by decide) ?_
                                          have hP : va_P g.1 classes [(h0, .inr (10, mob q rf n mm mb fa fp av ev wi mn tp tc sc nf fd me mp xn mt wh tq ag an ig)), ((q 41), aI g 600 dp), ((q 42), aZ g 600 iw), ((q 43), aI g 76800 kd8), ((q 47), aI g 128 nw)] H := hP.sub [0, 1, 2, 3, 4] rfl
                                          have hD : va_D A [(h0, .inr (10, mob q rf n mm mb fa fp av ev wi mn tp tc sc nf fd me mp xn mt wh tq ag an ig)), ((q 41), aI g 600 dp), ((q 42), aZ g 600 iw), ((q 43), aI g 76800 kd8), ((q 47), aI g 128 nw)] := hD.sub [0, 1, 2, 3, 4] (by decide) rfl
                                          exact ih246 _ (by omega) c8 (k + 1) kd8 ls _ _ rfl (by omega) hKD8 hCN8 (lv_sub hl [0, 3, 4, 5, 6, 7, 8] rfl) hP hD hS
                                        · first | exact absurd h330 (by decide) | exact absurd (by decide) h330
                                      · refine lv_iconst (v := 1) hx hb d_Mod_goOn_321 (by decide) ?_
                                        refine lv_goto (tgt := 326) hx hb d_Mod_goOn_322 (by decide) ?_
                                        refine lv_istore hx hb d_Mod_goOn_326 hl (by decide) rfl (fun ls hl => ?_)
                                        have hl : lv_has ls 10 [(9, .int 1), (8, .int (kd8 (128 * tt + k))), (7, .int (nI k)), (6, .int c8), (4, .int (nI (128 * tt))), (0, .ref h0), (1, .int (nI tt)), (2, .ref (q 47)), (3, .int (nI dd))] := hl
                                        refine lv_iload hx hb d_Mod_goOn_328 (lv_at hl 0 rfl) ?_
                                        refine lv_if_eq (tgt := 347) hx hb d_Mod_goOn_330 (by decide) (fun h330 => ?_) (fun h330 => ?_)
                                        · first | exact absurd h330 (by decide) | exact absurd (by decide) h330
                                        · refine lv_aload_n hx hb d_Mod_goOn_333 rfl (lv_at hl 5 rfl) ?_
                                          refine va_get (D := g.1) (ci := 10) (v := .ref (q 43)) (C := R_Mod) (T := F_Mod) (N := 61) hx hb hts in_Mod hown hK hP 0 rfl rfl 43 (by decide) (hts _ wd_1293) (fun _ h9 => h9) rfl d_Mod_goOn_334 ?_
                                          refine lv_iload hx hb d_Mod_goOn_337 (lv_at hl 4 rfl) ?_
                                          refine lv_iload hx hb d_Mod_goOn_339 (lv_at hl 2 rfl) ?_
                                          refine lv_iadd hx hb d_Mod_goOn_341 ?_
                                          refine tw_ri (e2 := nI (128 * tt + k)) (nI_add _ _) ?_
                                          refine lv_iconst (v := 0) hx hb d_Mod_goOn_342 (by decide) ?_
                                          refine va_iast hx hb hK hP hD hS 3 0 rfl rfl (vp_in_nI (by omega) (by decide)) d_Mod_goOn_343 (fun H locs hP hD hS => ?_)
                                          have hP : va_P g.1 classes [(h0, .inr (10, mob q rf n mm mb fa fp av ev wi mn tp tc sc nf fd me mp xn mt wh tq ag an ig)), ((q 41), aI g 600 dp), ((q 42), aZ g 600 iw), ((q 43), aI g 76800 (upd kd8 (nI (128 * tt + k)).toNatClampNeg 0)), ((q 47), aI g 128 nw)] H := hP
                                          have hD : va_D A [(h0, .inr (10, mob q rf n mm mb fa fp av ev wi mn tp tc sc nf fd me mp xn mt wh tq ag an ig)), ((q 41), aI g 600 dp), ((q 42), aZ g 600 iw), ((q 43), aI g 76800 (upd kd8 (nI (128 * tt + k)).toNatClampNeg 0)), ((q 47), aI g 128 nw)] := hD
                                          have e9 : upd kd8 (nI (128 * tt + k)).toNatClampNeg 0 = upd kd8 (128 * tt + k) 0 := by rw [nI_clamp (by omega)]
                                          rw [e9] at hP hD
                                          refine lv_iconst (v := 1) hx hb d_Mod_goOn_344 (by decide) ?_
                                          refine lv_istore hx hb d_Mod_goOn_345 hl (by decide) rfl (fun ls hl => ?_)
                                          have hl : lv_has ls 10 [(6, .int 1), (9, .int 1), (8, .int (kd8 (128 * tt + k))), (7, .int (nI k)), (4, .int (nI (128 * tt))), (0, .ref h0), (1, .int (nI tt)), (2, .ref (q 47)), (3, .int (nI dd))] := hl
                                          refine lv_iinc (k := 3) (v := nI (k + 1)) hx hb d_Mod_goOn_347 hl rfl ((nI_succ k).symm) (by decide) rfl (fun ls hl => ?_)
                                          have hl : lv_has ls 10 [(7, .int (nI (k + 1))), (6, .int 1), (9, .int 1), (8, .int (kd8 (128 * tt + k))), (4, .int (nI (128 * tt))), (0, .ref h0), (1, .int (nI tt)), (2, .ref (q 47)), (3, .int (nI dd))] := hl
                                          refine lv_goto (tgt := 246) hx hb d_Mod_goOn_350 (by decide) ?_
                                          have hP : va_P g.1 classes [(h0, .inr (10, mob q rf n mm mb fa fp av ev wi mn tp tc sc nf fd me mp xn mt wh tq ag an ig)), ((q 41), aI g 600 dp), ((q 42), aZ g 600 iw), ((q 43), aI g 76800 (upd kd8 (128 * tt + k) 0)), ((q 47), aI g 128 nw)] H := hP.sub [0, 1, 2, 3, 4] rfl
                                          have hD : va_D A [(h0, .inr (10, mob q rf n mm mb fa fp av ev wi mn tp tc sc nf fd me mp xn mt wh tq ag an ig)), ((q 41), aI g 600 dp), ((q 42), aZ g 600 iw), ((q 43), aI g 76800 (upd kd8 (128 * tt + k) 0)), ((q 47), aI g 128 nw)] := hD.sub [0, 1, 2, 3, 4] (by decide) rfl
                                          exact ih246 _ (by omega) 1 (k + 1) (upd kd8 (128 * tt + k) 0) ls _ _ rfl (by omega) (hKD8.put (fun _ => by decide)) (nk_dn hCN8 (by omega) (by omega) (by rw [h297]; decide)) (lv_sub hl [0, 1, 4, 5, 6, 7, 8] rfl) hP hD hS
                      exact loop246 _ c9 0 kd9 ls _ _ rfl (Nat.zero_le _) hKD hCN (lv_sub hl [0, 1, 3, 4, 5, 6, 7] rfl) hP hD hS
                    · have h190 := tn_nle (a := 64) h190 (by decide) (by omega)
                      refine lv_aload_n hx hb d_Mod_goOn_193 rfl (lv_at hl 4 rfl) ?_
                      refine va_get (D := g.1) (ci := 10) (v := .ref (q 43)) (C := R_Mod) (T := F_Mod) (N := 61) hx hb hts in_Mod hown hK hP 0 rfl rfl 43 (by decide) (hts _ wd_1293) (fun _ h9 => h9) rfl d_Mod_goOn_194 ?_
                      refine lv_iload hx hb d_Mod_goOn_197 (lv_at hl 3 rfl) ?_
                      refine lv_iload hx hb d_Mod_goOn_199 (lv_at hl 0 rfl) ?_
                      refine lv_iadd hx hb d_Mod_goOn_201 ?_
                      refine tw_ri (e2 := nI (128 * tt + k)) (nI_add _ _) ?_
                      refine va_iald hx hb hK hP 3 0 rfl rfl (vp_in_nI (by omega) (by decide)) d_Mod_goOn_202 ?_
                      refine tw_ri (e2 := kd9 (128 * tt + k)) (by rw [nI_clamp (by omega)]) ?_
                      refine lv_aload_n hx hb d_Mod_goOn_203 rfl (lv_at hl 6 rfl) ?_
                      refine lv_iload hx hb d_Mod_goOn_204 (lv_at hl 0 rfl) ?_
                      refine va_iald hx hb hK hP 4 0 rfl rfl (vp_in_nI (by omega) (by decide)) d_Mod_goOn_206 ?_
                      refine tw_ri (e2 := nw k) (by rw [nI_clamp (by omega)]) ?_
                      refine lv_icmp_eq (tgt := 237) hx hb d_Mod_goOn_207 (by decide) (fun h207 => ?_) (fun h207 => ?_)
                      · refine lv_iinc (k := 0) (v := nI (k + 1)) hx hb d_Mod_goOn_237 hl rfl ((nI_succ k).symm) (by decide) rfl (fun ls hl => ?_)
                        have hl : lv_has ls 10 [(7, .int (nI (k + 1))), (6, .int c9), (5, .int s9), (4, .int (nI (128 * tt))), (0, .ref h0), (1, .int (nI tt)), (2, .ref (q 47)), (3, .int (nI dd))] := hl
                        refine lv_goto (tgt := 186) hx hb d_Mod_goOn_240 (by decide) ?_
                        have hP : va_P g.1 classes [(h0, .inr (10, mob q rf n mm mb fa fp av ev wi mn tp tc sc nf fd me mp xn mt wh tq ag an ig)), ((q 41), aI g 600 dp), ((q 42), aZ g 600 iw), ((q 43), aI g 76800 kd9), ((q 47), aI g 128 nw)] H := hP.sub [0, 1, 2, 3, 4] rfl
                        have hD : va_D A [(h0, .inr (10, mob q rf n mm mb fa fp av ev wi mn tp tc sc nf fd me mp xn mt wh tq ag an ig)), ((q 41), aI g 600 dp), ((q 42), aZ g 600 iw), ((q 43), aI g 76800 kd9), ((q 47), aI g 128 nw)] := hD.sub [0, 1, 2, 3, 4] (by decide) rfl
                        exact ih186 _ (by omega) c9 (k + 1) kd9 ls _ _ rfl (by omega) hKD hCN (lv_sub hl [0, 1, 2, 3, 4, 5, 6, 7] rfl) hP hD hS
                      · refine lv_aload_n hx hb d_Mod_goOn_210 rfl (lv_at hl 4 rfl) ?_
                        refine va_get (D := g.1) (ci := 10) (v := .ref (q 43)) (C := R_Mod) (T := F_Mod) (N := 61) hx hb hts in_Mod hown hK hP 0 rfl rfl 43 (by decide) (hts _ wd_1293) (fun _ h9 => h9) rfl d_Mod_goOn_211 ?_
                        refine lv_iload hx hb d_Mod_goOn_214 (lv_at hl 3 rfl) ?_
                        refine lv_iload hx hb d_Mod_goOn_216 (lv_at hl 0 rfl) ?_
                        refine lv_iadd hx hb d_Mod_goOn_218 ?_
                        refine tw_ri (e2 := nI (128 * tt + k)) (nI_add _ _) ?_
                        refine va_iald hx hb hK hP 3 0 rfl rfl (vp_in_nI (by omega) (by decide)) d_Mod_goOn_219 ?_
                        refine tw_ri (e2 := kd9 (128 * tt + k)) (by rw [nI_clamp (by omega)]) ?_
                        refine lv_if_eq (tgt := 237) hx hb d_Mod_goOn_220 (by decide) (fun h220 => ?_) (fun h220 => ?_)
                        · refine lv_iinc (k := 0) (v := nI (k + 1)) hx hb d_Mod_goOn_237 hl rfl ((nI_succ k).symm) (by decide) rfl (fun ls hl => ?_)
                          have hl : lv_has ls 10 [(7, .int (nI (k + 1))), (6, .int c9), (5, .int s9), (4, .int (nI (128 * tt))), (0, .ref h0), (1, .int (nI tt)), (2, .ref (q 47)), (3, .int (nI dd))] := hl
                          refine lv_goto (tgt := 186) hx hb d_Mod_goOn_240 (by decide) ?_
                          have hP : va_P g.1 classes [(h0, .inr (10, mob q rf n mm mb fa fp av ev wi mn tp tc sc nf fd me mp xn mt wh tq ag an ig)), ((q 41), aI g 600 dp), ((q 42), aZ g 600 iw), ((q 43), aI g 76800 kd9), ((q 47), aI g 128 nw)] H := hP.sub [0, 1, 2, 3, 4] rfl
                          have hD : va_D A [(h0, .inr (10, mob q rf n mm mb fa fp av ev wi mn tp tc sc nf fd me mp xn mt wh tq ag an ig)), ((q 41), aI g 600 dp), ((q 42), aZ g 600 iw), ((q 43), aI g 76800 kd9), ((q 47), aI g 128 nw)] := hD.sub [0, 1, 2, 3, 4] (by decide) rfl
                          exact ih186 _ (by omega) c9 (k + 1) kd9 ls _ _ rfl (by omega) hKD hCN (lv_sub hl [0, 1, 2, 3, 4, 5, 6, 7] rfl) hP hD hS
                        · refine lv_aload_n hx hb d_Mod_goOn_223 rfl (lv_at hl 4 rfl) ?_
                          refine va_get (D := g.1) (ci := 10) (v := .ref (q 43)) (C := R_Mod) (T := F_Mod) (N := 61) hx hb hts in_Mod hown hK hP 0 rfl rfl 43 (by decide) (hts _ wd_1293) (fun _ h9 => h9) rfl d_Mod_goOn_224 ?_
                          refine lv_iload hx hb d_Mod_goOn_227 (lv_at hl 3 rfl) ?_
                          refine lv_iload hx hb d_Mod_goOn_229 (lv_at hl 0 rfl) ?_
                          refine lv_iadd hx hb d_Mod_goOn_231 ?_
                          refine tw_ri (e2 := nI (128 * tt + k)) (nI_add _ _) ?_
                          refine lv_iconst (v := 0) hx hb d_Mod_goOn_232 (by decide) ?_
                          refine va_iast hx hb hK hP hD hS 3 0 rfl rfl (vp_in_nI (by omega) (by decide)) d_Mod_goOn_233 (fun H locs hP hD hS => ?_)
                          have hP : va_P g.1 classes [(h0, .inr (10, mob q rf n mm mb fa fp av ev wi mn tp tc sc nf fd me mp xn mt wh tq ag an ig)), ((q 41), aI g 600 dp), ((q 42), aZ g 600 iw), ((q 43), aI g 76800 (upd kd9 (nI (128 * tt + k)).toNatClampNeg 0)), ((q 47), aI g 128 nw)] H := hP
                          have hD : va_D A [(h0, .inr (10, mob q rf n mm mb fa fp av ev wi mn tp tc sc nf fd me mp xn mt wh tq ag an ig)), ((q 41), aI g 600 dp), ((q 42), aZ g 600 iw), ((q 43), aI g 76800 (upd kd9 (nI (128 * tt + k)).toNatClampNeg 0)), ((q 47), aI g 128 nw)] := hD
                          have e9 : upd kd9 (nI (128 * tt + k)).toNatClampNeg 0 = upd kd9 (128 * tt + k) 0 := by rw [nI_clamp (by omega)]
                          rw [e9] at hP hD
                          refine lv_iconst (v := 1) hx hb d_Mod_goOn_234 (by decide) ?_
                          refine lv_istore hx hb d_Mod_goOn_235 hl (by decide) rfl (fun ls hl => ?_)
                          have hl : lv_has ls 10 [(6, .int 1), (7, .int (nI k)), (5, .int s9), (4, .int (nI (128 * tt))), (0, .ref h0), (1, .int (nI tt)), (2, .ref (q 47)), (3, .int (nI dd))] := hl
                          refine lv_iinc (k := 1) (v := nI (k + 1)) hx hb d_Mod_goOn_237 hl rfl ((nI_succ k).symm) (by decide) rfl (fun ls hl => ?_)
                          have hl : lv_has ls 10 [(7, .int (nI (k + 1))), (6, .int 1), (5, .int s9), (4, .int (nI (128 * tt))), (0, .ref h0), (1, .int (nI tt)), (2, .ref (q 47)), (3, .int (nI dd))] := hl
                          refine lv_goto (tgt := 186) hx hb d_Mod_goOn_240 (by decide) ?_
                          have hP : va_P g.1 classes [(h0, .inr (10, mob q rf n mm mb fa fp av ev wi mn tp tc sc nf fd me mp xn mt wh tq ag an ig)), ((q 41), aI g 600 dp), ((q 42), aZ g 600 iw), ((q 43), aI g 76800 (upd kd9 (128 * tt + k) 0)), ((q 47), aI g 128 nw)] H := hP.sub [0, 1, 2, 3, 4] rfl
                          have hD : va_D A [(h0, .inr (10, mob q rf n mm mb fa fp av ev wi mn tp tc sc nf fd me mp xn mt wh tq ag an ig)), ((q 41), aI g 600 dp), ((q 42), aZ g 600 iw), ((q 43), aI g 76800 (upd kd9 (128 * tt + k) 0)), ((q 47), aI g 128 nw)] := hD.sub [0, 1, 2, 3, 4] (by decide) rfl
                          exact ih186 _ (by omega) 1 (k + 1) (upd kd9 (128 * tt + k) 0) ls _ _ rfl (by omega) (hKD.put (fun _ => by decide)) (nk_dn hCN (by omega) (by omega) h220) (lv_sub hl [0, 1, 2, 3, 4, 5, 6, 7] rfl) hP hD hS
                exact loop186 _ 0 0 kd ls _ _ rfl (Nat.zero_le _) hFR.2.2 (Or.inl ⟨rfl, rfl⟩) (hl) hP hD hS
              · exact absurd h166 h116
            · have h122 := tn_nle h122 (by omega) (by omega)
              refine lv_aload_n hx hb d_Mod_goOn_125 rfl (lv_at hl 3 rfl) ?_
              refine va_get (D := g.1) (ci := 10) (v := .ref (q 43)) (C := R_Mod) (T := F_Mod) (N := 61) hx hb hts in_Mod hown hK hP 0 rfl rfl 43 (by decide) (hts _ wd_1293) (fun _ h9 => h9) rfl d_Mod_goOn_126 ?_
              refine lv_iload hx hb d_Mod_goOn_129 (lv_at hl 2 rfl) ?_
              refine lv_bipush (v := 64) hx hb d_Mod_goOn_131 (by decide) ?_
              refine lv_iadd hx hb d_Mod_goOn_133 ?_
              refine tw_ri (e2 := nI (128 * tt + 64)) (nI_add _ 64) ?_
              refine lv_iload hx hb d_Mod_goOn_134 (lv_at hl 0 rfl) ?_
              refine lv_iadd hx hb d_Mod_goOn_136 ?_
              refine tw_ri (e2 := nI (128 * tt + 64 + k)) (nI_add _ _) ?_
              refine va_iald hx hb hK hP 3 0 rfl rfl (vp_in_nI (by omega) (by decide)) d_Mod_goOn_137 ?_
              obtain ⟨x6, ex6⟩ : ∃ z : Int32, kd ((nI (128 * tt + 64 + k)).toNatClampNeg) = z := ⟨_, rfl⟩
              refine tw_ri (e2 := x6) ex6 ?_
              refine lv_aload_n hx hb d_Mod_goOn_138 rfl (lv_at hl 3 rfl) ?_
              refine va_get (D := g.1) (ci := 10) (v := .ref (q 47)) (C := R_Mod) (T := F_Mod) (N := 61) hx hb hts in_Mod hown hK hP 0 rfl rfl 47 (by decide) (hts _ wd_1297) (fun _ h9 => h9) rfl d_Mod_goOn_139 ?_
              refine lv_bipush (v := 64) hx hb d_Mod_goOn_142 (by decide) ?_
              refine lv_iload hx hb d_Mod_goOn_144 (lv_at hl 0 rfl) ?_
              refine lv_iadd hx hb d_Mod_goOn_146 ?_
              refine tw_ri (e2 := nI (64 + k)) (nI_add 64 k) ?_
              refine va_iald hx hb hK hP 4 0 rfl rfl (vp_in_nI (by omega) (by decide)) d_Mod_goOn_147 ?_
              obtain ⟨x7, ex7⟩ : ∃ z : Int32, nw ((nI (64 + k)).toNatClampNeg) = z := ⟨_, rfl⟩
              refine tw_ri (e2 := x7) ex7 ?_
              refine lv_icmp_ne (tgt := 155) hx hb d_Mod_goOn_148 (by decide) (fun h148 => ?_) (fun h148 => ?_)
              · refine lv_iconst (v := 0) hx hb d_Mod_goOn_155 (by decide) ?_
                refine lv_istore hx hb d_Mod_goOn_156 hl (by decide) rfl (fun ls hl => ?_)
                have hl : lv_has ls 10 [(5, .int 0), (6, .int (nI k)), (4, .int (nI (128 * tt))), (0, .ref h0), (1, .int (nI tt)), (2, .ref (q 47)), (3, .int (nI dd))] := hl
                refine lv_iinc (k := 1) (v := nI (k + 1)) hx hb d_Mod_goOn_158 hl rfl ((nI_succ k).symm) (by decide) rfl (fun ls hl => ?_)
                have hl : lv_has ls 10 [(6, .int (nI (k + 1))), (5, .int 0), (4, .int (nI (128 * tt))), (0, .ref h0), (1, .int (nI tt)), (2, .ref (q 47)), (3, .int (nI dd))] := hl
                refine lv_goto (tgt := 114) hx hb d_Mod_goOn_161 (by decide) ?_
                have hP : va_P g.1 classes [(h0, .inr (10, mob q rf n mm mb fa fp av ev wi mn tp tc sc nf fd me mp xn mt wh tq ag an ig)), ((q 41), aI g 600 dp), ((q 42), aZ g 600 iw), ((q 43), aI g 76800 kd), ((q 47), aI g 128 nw)] H := hP.sub [0, 1, 2, 3, 4] rfl
                have hD : va_D A [(h0, .inr (10, mob q rf n mm mb fa fp av ev wi mn tp tc sc nf fd me mp xn mt wh tq ag an ig)), ((q 41), aI g 600 dp), ((q 42), aZ g 600 iw), ((q 43), aI g 76800 kd), ((q 47), aI g 128 nw)] := hD.sub [0, 1, 2, 3, 4] (by decide) rfl
                exact ih _ (by omega) 0 (k + 1) ls _ _ rfl (by omega) (lv_sub hl [0, 1, 2, 3, 4, 5, 6] rfl) hP hD hS
              · refine lv_iconst (v := 1) hx hb d_Mod_goOn_151 (by decide) ?_
                refine lv_goto (tgt := 156) hx hb d_Mod_goOn_152 (by decide) ?_
                refine lv_istore hx hb d_Mod_goOn_156 hl (by decide) rfl (fun ls hl => ?_)
                have hl : lv_has ls 10 [(5, .int 1), (6, .int (nI k)), (4, .int (nI (128 * tt))), (0, .ref h0), (1, .int (nI tt)), (2, .ref (q 47)), (3, .int (nI dd))] := hl
                refine lv_iinc (k := 1) (v := nI (k + 1)) hx hb d_Mod_goOn_158 hl rfl ((nI_succ k).symm) (by decide) rfl (fun ls hl => ?_)
                have hl : lv_has ls 10 [(6, .int (nI (k + 1))), (5, .int 1), (4, .int (nI (128 * tt))), (0, .ref h0), (1, .int (nI tt)), (2, .ref (q 47)), (3, .int (nI dd))] := hl
                refine lv_goto (tgt := 114) hx hb d_Mod_goOn_161 (by decide) ?_
                have hP : va_P g.1 classes [(h0, .inr (10, mob q rf n mm mb fa fp av ev wi mn tp tc sc nf fd me mp xn mt wh tq ag an ig)), ((q 41), aI g 600 dp), ((q 42), aZ g 600 iw), ((q 43), aI g 76800 kd), ((q 47), aI g 128 nw)] H := hP.sub [0, 1, 2, 3, 4] rfl
                have hD : va_D A [(h0, .inr (10, mob q rf n mm mb fa fp av ev wi mn tp tc sc nf fd me mp xn mt wh tq ag an ig)), ((q 41), aI g 600 dp), ((q 42), aZ g 600 iw), ((q 43), aI g 76800 kd), ((q 47), aI g 128 nw)] := hD.sub [0, 1, 2, 3, 4] (by decide) rfl
                exact ih _ (by omega) 1 (k + 1) ls _ _ rfl (by omega) (lv_sub hl [0, 1, 2, 3, 4, 5, 6] rfl) hP hD hS
      exact loop114 _ 0 0 ls _ _ rfl (Nat.zero_le _) (hl) hP hD hS
    · refine lv_iconst (v := 1) hx hb d_Mod_goOn_104 (by decide) ?_
      refine lv_goto (tgt := 109) hx hb d_Mod_goOn_105 (by decide) ?_
      refine lv_istore hx hb d_Mod_goOn_109 hl (by decide) rfl (fun ls hl => ?_)
      have hl : lv_has ls 10 [(5, .int 1), (4, .int (nI (128 * tt))), (0, .ref h0), (1, .int (nI tt)), (2, .ref (q 47)), (3, .int (nI dd))] := hl
      refine lv_iconst (v := 0) hx hb d_Mod_goOn_111 (by decide) ?_
      refine lv_istore hx hb d_Mod_goOn_112 hl (by decide) rfl (fun ls hl => ?_)
      have hl : lv_has ls 10 [(6, .int 0), (5, .int 1), (4, .int (nI (128 * tt))), (0, .ref h0), (1, .int (nI tt)), (2, .ref (q 47)), (3, .int (nI dd))] := hl
      have loop114 : ∀ (kq : Nat) (s9 : Int32) (k : Nat) (ls : Array Slot) (H : Heap) (locs : List Loc) , dd - k = kq → (hkd : k ≤ dd) → lv_has ls 10 [(6, .int (nI k)), (5, .int s9), (4, .int (nI (128 * tt))), (0, .ref h0), (1, .int (nI tt)), (2, .ref (q 47)), (3, .int (nI dd))] → va_P g.1 classes [(h0, .inr (10, mob q rf n mm mb fa fp av ev wi mn tp tc sc nf fd me mp xn mt wh tq ag an ig)), ((q 41), aI g 600 dp), ((q 42), aZ g 600 iw), ((q 43), aI g 76800 kd), ((q 47), aI g 128 nw)] H → va_D A [(h0, .inr (10, mob q rf n mm mb fa fp av ev wi mn tp tc sc nf fd me mp xn mt wh tq ag an ig)), ((q 41), aI g 600 dp), ((q 42), aZ g 600 iw), ((q 43), aI g 76800 kd), ((q 47), aI g 128 nw)] → va_S A s.heap H locs → W p l e ({ frames := 1, cells := 0, slots := 0, locals := 22 }) s m [.ref h0, .int (nI tt), .ref (q 47), .int (nI dd)].toArray below meth c H locs 0 0 (MQ below (tw_Qv g (fun (u : Int32 × Int32 × (Nat → Int32) × (Nat → Int32) × (Nat → Int32)) => (u.1 = 0 → fa = 0) ∧ (FRG u.2.2.1 u.2.2.2.1 u.2.2.2.2) ∧ (MU u.2.2.1 u.2.2.2.1 u.2.2.2.2 ≤ MU dp iw kd)) (fun u : Int32 × Int32 × (Nat → Int32) × (Nat → Int32) × (Nat → Int32) => [(h0, .inr (10, mob q rf n mm mb u.1 u.2.1 av ev wi mn tp tc sc nf fd me mp xn mt wh tq ag an ig)), ((q 41), aI g 600 u.2.2.1), ((q 42), aZ g 600 u.2.2.2.1), ((q 43), aI g 76800 u.2.2.2.2), ((q 47), aI g 128 nw)]) A) [.ref h0, .int (nI tt), .ref (q 47), .int (nI dd)].toArray s 0 0 A) (F0 m 114 ls []) := by
        intro kq
        induction kq using Nat.strongRecOn with
        | _ kq ih =>
          intro s9 k ls H locs hk hkd hl hP hD hS
          refine lv_iload hx hb d_Mod_goOn_114 (lv_at hl 1 rfl) ?_
          refine lv_if_eq (tgt := 164) hx hb d_Mod_goOn_116 (by decide) (fun h116 => ?_) (fun h116 => ?_)
          · refine lv_iload hx hb d_Mod_goOn_164 (lv_at hl 1 rfl) ?_
            refine lv_if_ne (tgt := 180) hx hb d_Mod_goOn_166 (by decide) (fun h166 => ?_) (fun h166 => ?_)
            · exact absurd h116 h166
            · refine lv_aload_n hx hb d_Mod_goOn_169 rfl (lv_at hl 3 rfl) ?_
              refine lv_bipush (v := 25) hx hb d_Mod_goOn_170 (by decide) ?_
              refine lv_aload_n hx hb d_Mod_goOn_172 rfl (lv_at hl 3 rfl) ?_
              refine va_get (D := g.1) (ci := 10) (v := .int (nI wh)) (C := R_Mod) (T := F_Mod) (N := 61) hx hb hts in_Mod hown hK hP 0 rfl rfl 45 (by decide) (hts _ wd_1295) (fun _ h9 => h9) rfl d_Mod_goOn_173 ?_
              refine tw_wv (wr := [((q 41), aI g 600 dp), ((q 42), aZ g 600 iw), ((q 43), aI g 76800 kd), ((q 47), aI g 128 nw)]) (tw_runV (ws := [(h0, .inr (10, mob q rf n mm mb fa fp av ev wi mn tp tc sc nf fd me mp xn mt wh tq ag an ig)), ((q 41), aI g 600 dp), ((q 42), aZ g 600 iw), ((q 43), aI g 76800 kd), ((q 47), aI g 128 nw)]) (wc := [(h0, .inr (10, mob q rf n mm mb fa fp av ev wi mn tp tc sc nf fd me mp xn mt wh tq ag an ig))]) (As := [.int 25, .int (nI wh)]) (rest := []) E hB hK hZ (g_Mod_fail l g H.size h0 q rf n mm mb av ev wi mn tp tc sc nf fd me mp xn mt wh tq ag an ig fa fp 25 (nI wh) (by decide)) mc_Mod_fail mi_Mod_fail me_Mod_fail wd_1478 hP hD hS hA [0] rfl (by decide) 0 rfl rfl rfl rfl rfl (by decide) rfl hl.1 rfl (Nat.le_of_ble_eq_true rfl) (by decide) d_Mod_goOn_176) hP hD hS hA [0] [1, 2, 3, 4] rfl rfl (by decide) (by decide) (fun u9 H locs hr8 hP hD hS => ?_)
              try dsimp only at hr8
              have hP : va_P g.1 classes [((q 41), aI g 600 dp), ((q 42), aZ g 600 iw), ((q 43), aI g 76800 kd), ((q 47), aI g 128 nw), (h0, .inr (10, mob q rf n mm mb u9.1 u9.2 av ev wi mn tp tc sc nf fd me mp xn mt wh tq ag an ig))] H := hP
              have hD : va_D A [((q 41), aI g 600 dp), ((q 42), aZ g 600 iw), ((q 43), aI g 76800 kd), ((q 47), aI g 128 nw), (h0, .inr (10, mob q rf n mm mb u9.1 u9.2 av ev wi mn tp tc sc nf fd me mp xn mt wh tq ag an ig))] := hD
              have hP : va_P g.1 classes [(h0, .inr (10, mob q rf n mm mb u9.1 u9.2 av ev wi mn tp tc sc nf fd me mp xn mt wh tq ag an ig)), ((q 41), aI g 600 dp), ((q 42), aZ g 600 iw), ((q 43), aI g 76800 kd), ((q 47), aI g 128 nw)] H := hP.sub [4, 0, 1, 2, 3] rfl
              have hD : va_D A [(h0, .inr (10, mob q rf n mm mb u9.1 u9.2 av ev wi mn tp tc sc nf fd me mp xn mt wh tq ag an ig)), ((q 41), aI g 600 dp), ((q 42), aZ g 600 iw), ((q 43), aI g 76800 kd), ((q 47), aI g 128 nw)] := hD.sub [4, 0, 1, 2, 3] (by decide) rfl
              have hp9_0 := hr8
              exact tw_vret E hS (u9.1, u9.2, dp, iw, kd) (⟨(fun h => absurd h hp9_0), hFR, (Nat.le_refl _)⟩) hP hD d_Mod_goOn_179
          · refine lv_iload hx hb d_Mod_goOn_119 (lv_at hl 0 rfl) ?_
            refine lv_iload_n hx hb d_Mod_goOn_121 rfl (lv_at hl 6 rfl) ?_
            refine lv_icmp_ge (tgt := 164) hx hb d_Mod_goOn_122 (by decide) (fun h122 => ?_) (fun h122 => ?_)
            · refine lv_iload hx hb d_Mod_goOn_164 (lv_at hl 1 rfl) ?_
              refine lv_if_ne (tgt := 180) hx hb d_Mod_goOn_166 (by decide) (fun h166 => ?_) (fun h166 => ?_)
              · refine lv_iconst (v := 0) hx hb d_Mod_goOn_180 (by decide) ?_
                refine lv_istore hx hb d_Mod_goOn_181 hl (by decide) rfl (fun ls hl => ?_)
                have hl : lv_has ls 10 [(6, .int 0), (5, .int s9), (4, .int (nI (128 * tt))), (0, .ref h0), (1, .int (nI tt)), (2, .ref (q 47)), (3, .int (nI dd))] := hl
                refine lv_iconst (v := 0) hx hb d_Mod_goOn_183 (by decide) ?_
                refine lv_istore hx hb d_Mod_goOn_184 hl (by decide) rfl (fun ls hl => ?_)
                have hl : lv_has ls 10 [(7, .int 0), (6, .int 0), (5, .int s9), (4, .int (nI (128 * tt))), (0, .ref h0), (1, .int (nI tt)), (2, .ref (q 47)), (3, .int (nI dd))] := hl
                have loop186 : ∀ (kq : Nat) (c9 : Int32) (k : Nat) (kd9 : Nat → Int32) (ls : Array Slot) (H : Heap) (locs : List Loc) , 64 - k = kq → (hk4 : k ≤ 64) → (hKD : KD3 kd9) → (hCN : CHN c9 (NK kd9) (NK kd)) → lv_has ls 10 [(7, .int (nI k)), (6, .int c9), (5, .int s9), (4, .int (nI (128 * tt))), (0, .ref h0), (1, .int (nI tt)), (2, .ref (q 47)), (3, .int (nI dd))] → va_P g.1 classes [(h0, .inr (10, mob q rf n mm mb fa fp av ev wi mn tp tc sc nf fd me mp xn mt wh tq ag an ig)), ((q 41), aI g 600 dp), ((q 42), aZ g 600 iw), ((q 43), aI g 76800 kd9), ((q 47), aI g 128 nw)] H → va_D A [(h0, .inr (10, mob q rf n mm mb fa fp av ev wi mn tp tc sc nf fd me mp xn mt wh tq ag an ig)), ((q 41), aI g 600 dp), ((q 42), aZ g 600 iw), ((q 43), aI g 76800 kd9), ((q 47), aI g 128 nw)] → va_S A s.heap H locs → W p l e ({ frames := 1, cells := 0, slots := 0, locals := 22 }) s m [.ref h0, .int (nI tt), .ref (q 47), .int (nI dd)].toArray below meth c H locs 0 0 (MQ below (tw_Qv g (fun (u : Int32 × Int32 × (Nat → Int32) × (Nat → Int32) × (Nat → Int32)) => (u.1 = 0 → fa = 0) ∧ (FRG u.2.2.1 u.2.2.2.1 u.2.2.2.2) ∧ (MU u.2.2.1 u.2.2.2.1 u.2.2.2.2 ≤ MU dp iw kd)) (fun u : Int32 × Int32 × (Nat → Int32) × (Nat → Int32) × (Nat → Int32) => [(h0, .inr (10, mob q rf n mm mb u.1 u.2.1 av ev wi mn tp tc sc nf fd me mp xn mt wh tq ag an ig)), ((q 41), aI g 600 u.2.2.1), ((q 42), aZ g 600 u.2.2.2.1), ((q 43), aI g 76800 u.2.2.2.2), ((q 47), aI g 128 nw)]) A) [.ref h0, .int (nI tt), .ref (q 47), .int (nI dd)].toArray s 0 0 A) (F0 m 186 ls []) := by
                  intro kq
                  induction kq using Nat.strongRecOn with
                  | _ kq ih186 =>
                    intro c9 k kd9 ls H locs hk186 hk4 hKD hCN hl hP hD hS
                    refine lv_iload hx hb d_Mod_goOn_186 (lv_at hl 0 rfl) ?_
                    refine lv_bipush (v := 64) hx hb d_Mod_goOn_188 (by decide) ?_
                    refine lv_icmp_ge (tgt := 243) hx hb d_Mod_goOn_190 (by decide) (fun h190 => ?_) (fun h190 => ?_)
                    · have h190 := tn_le (a := 64) h190 (by decide) (by omega)
                      refine lv_iconst (v := 0) hx hb d_Mod_goOn_243 (by decide) ?_
                      refine lv_istore hx hb d_Mod_goOn_244 hl (by decide) rfl (fun ls hl => ?_)
                      have hl : lv_has ls 10 [(7, .int 0), (6, .int c9), (5, .int s9), (4, .int (nI (128 * tt))), (0, .ref h0), (1, .int (nI tt)), (2, .ref (q 47)), (3, .int (nI dd))] := hl
                      have loop246 : ∀ (kq : Nat) (c8 : Int32) (k : Nat) (kd8 : Nat → Int32) (ls : Array Slot) (H : Heap) (locs : List Loc) , 64 - k = kq → (hk48 : k ≤ 64) → (hKD8 : KD3 kd8) → (hCN8 : CHN c8 (NK kd8) (NK kd)) → lv_has ls 10 [(7, .int (nI k)), (6, .int c8), (4, .int (nI (128 * tt))), (0, .ref h0), (1, .int (nI tt)), (2, .ref (q 47)), (3, .int (nI dd))] → va_P g.1 classes [(h0, .inr (10, mob q rf n mm mb fa fp av ev wi mn tp tc sc nf fd me mp xn mt wh tq ag an ig)), ((q 41), aI g 600 dp), ((q 42), aZ g 600 iw), ((q 43), aI g 76800 kd8), ((q 47), aI g 128 nw)] H → va_D A [(h0, .inr (10, mob q rf n mm mb fa fp av ev wi mn tp tc sc nf fd me mp xn mt wh tq ag an ig)), ((q 41), aI g 600 dp), ((q 42), aZ g 600 iw), ((q 43), aI g 76800 kd8), ((q 47), aI g 128 nw)] → va_S A s.heap H locs → W p l e ({ frames := 1, cells := 0, slots := 0, locals := 22 }) s m [.ref h0, .int (nI tt), .ref (q 47), .int (nI dd)].toArray below meth c H locs 0 0 (MQ below (tw_Qv g (fun (u : Int32 × Int32 × (Nat → Int32) × (Nat → Int32) × (Nat → Int32)) => (u.1 = 0 → fa = 0) ∧ (FRG u.2.2.1 u.2.2.2.1 u.2.2.2.2) ∧ (MU u.2.2.1 u.2.2.2.1 u.2.2.2.2 ≤ MU dp iw kd)) (fun u : Int32 × Int32 × (Nat → Int32) × (Nat → Int32) × (Nat → Int32) => [(h0, .inr (10, mob q rf n mm mb u.1 u.2.1 av ev wi mn tp tc sc nf fd me mp xn mt wh tq ag an ig)), ((q 41), aI g 600 u.2.2.1), ((q 42), aZ g 600 u.2.2.2.1), ((q 43), aI g 76800 u.2.2.2.2), ((q 47), aI g 128 nw)]) A) [.ref h0, .int (nI tt), .ref (q 47), .int (nI dd)].toArray s 0 0 A) (F0 m 246 ls []) := by
                        intro kq
                        induction kq using Nat.strongRecOn with
                        | _ kq ih246 =>
                          intro c8 k kd8 ls H locs hk246 hk48 hKD8 hCN8 hl hP hD hS
                          refine lv_iload hx hb d_Mod_goOn_246 (lv_at hl 0 rfl) ?_
                          refine lv_bipush (v := 64) hx hb d_Mod_goOn_248 (by decide) ?_
                          refine lv_icmp_ge (tgt := 353) hx hb d_Mod_goOn_250 (by decide) (fun h250 => ?_) (fun h250 => ?_)
                          · have h250 := tn_le (a := 64) h250 (by decide) (by omega)
                            refine lv_aload_n hx hb d_Mod_goOn_353 rfl (lv_at hl 3 rfl) ?_
                            refine va_get (D := g.1) (ci := 10) (v := .ref (q 42)) (C := R_Mod) (T := F_Mod) (N := 61) hx hb hts in_Mod hown hK hP 0 rfl rfl 42 (by decide) (hts _ wd_1292) (fun _ h9 => h9) rfl d_Mod_goOn_354 ?_
                            refine lv_iload_n hx hb d_Mod_goOn_357 rfl (lv_at hl 4 rfl) ?_
                            refine lv_aload_n hx hb d_Mod_goOn_358 rfl (lv_at hl 3 rfl) ?_
                            refine va_get (D := g.1) (ci := 10) (v := .ref (q 42)) (C := R_Mod) (T := F_Mod) (N := 61) hx hb hts in_Mod hown hK hP 0 rfl rfl 42 (by decide) (hts _ wd_1292) (fun _ h9 => h9) rfl d_Mod_goOn_359 ?_
                            refine lv_iload_n hx hb d_Mod_goOn_362 rfl (lv_at hl 4 rfl) ?_
                            refine va_zald hx hb hK hP 2 3 rfl rfl (vp_in_nI (by omega) (by decide)) d_Mod_goOn_363 ?_
                            refine tw_ri (e2 := iw tt) (by rw [nI_clamp (by omega)]) ?_
                            refine lv_if_ne (tgt := 372) hx hb d_Mod_goOn_364 (by decide) (fun h364 => ?_) (fun h364 => ?_)
                            · refine lv_iconst (v := 1) hx hb d_Mod_goOn_372 (by decide) ?_
                              refine lv_goto (tgt := 377) hx hb d_Mod_goOn_373 (by decide) ?_
                              refine va_zast hx hb hK hP hD hS 2 3 rfl rfl (vp_in_nI (by omega) (by decide)) d_Mod_goOn_377 (fun H locs hP hD hS => ?_)
                              have hP : va_P g.1 classes [(h0, .inr (10, mob q rf n mm mb fa fp av ev wi mn tp tc sc nf fd me mp xn mt wh tq ag an ig)), ((q 41), aI g 600 dp), ((q 42), aZ g 600 (upd iw (nI tt).toNatClampNeg (vp_nar .boolean 1))), ((q 43), aI g 76800 kd8), ((q 47), aI g 128 nw)] H := hP
                              have hD : va_D A [(h0, .inr (10, mob q rf n mm mb fa fp av ev wi mn tp tc sc nf fd me mp xn mt wh tq ag an ig)), ((q 41), aI g 600 dp), ((q 42), aZ g 600 (upd iw (nI tt).toNatClampNeg (vp_nar .boolean 1))), ((q 43), aI g 76800 kd8), ((q 47), aI g 128 nw)] := hD
                              have e9 : upd iw (nI tt).toNatClampNeg (vp_nar .boolean 1) = upd iw tt 1 := by rw [nI_clamp (by omega)]; rfl
                              rw [e9] at hP hD
                              exact tw_vret E hS (fa, fp, dp, upd iw tt 1, kd8) (⟨(fun h => h), (hFR.again h13 hKD8), (mu_keep ht6 (Or.inl ⟨by rw [wC_1 h364]; exact Nat.le_refl _, chn_le hCN8⟩))⟩) hP hD d_Mod_goOn_378
                            · refine lv_iload hx hb d_Mod_goOn_367 (lv_at hl 1 rfl) ?_
                              refine lv_if_eq (tgt := 376) hx hb d_Mod_goOn_369 (by decide) (fun h369 => ?_) (fun h369 => ?_)
                              · refine lv_iconst (v := 0) hx hb d_Mod_goOn_376 (by decide) ?_
                                refine va_zast hx hb hK hP hD hS 2 3 rfl rfl (vp_in_nI (by omega) (by decide)) d_Mod_goOn_377 (fun H locs hP hD hS => ?_)
                                have hP : va_P g.1 classes [(h0, .inr (10, mob q rf n mm mb fa fp av ev wi mn tp tc sc nf fd me mp xn mt wh tq ag an ig)), ((q 41), aI g 600 dp), ((q 42), aZ g 600 (upd iw (nI tt).toNatClampNeg (vp_nar .boolean 0))), ((q 43), aI g 76800 kd8), ((q 47), aI g 128 nw)] H := hP
                                have hD : va_D A [(h0, .inr (10, mob q rf n mm mb fa fp av ev wi mn tp tc sc nf fd me mp xn mt wh tq ag an ig)), ((q 41), aI g 600 dp), ((q 42), aZ g 600 (upd iw (nI tt).toNatClampNeg (vp_nar .boolean 0))), ((q 43), aI g 76800 kd8), ((q 47), aI g 128 nw)] := hD
                                have e9 : upd iw (nI tt).toNatClampNeg (vp_nar .boolean 0) = upd iw tt 0 := by rw [nI_clamp (by omega)]; rfl
                                rw [e9] at hP hD
                                exact tw_vret E hS (fa, fp, dp, upd iw tt 0, kd8) (⟨(fun h => h), (hFR.again h13 hKD8), (mu_keep ht6 (Or.inl ⟨Nat.zero_le _, chn_le hCN8⟩))⟩) hP hD d_Mod_goOn_378
                              · refine lv_iconst (v := 1) hx hb d_Mod_goOn_372 (by decide) ?_
                                refine lv_goto (tgt := 377) hx hb d_Mod_goOn_373 (by decide) ?_
                                refine va_zast hx hb hK hP hD hS 2 3 rfl rfl (vp_in_nI (by omega) (by decide)) d_Mod_goOn_377 (fun H locs hP hD hS => ?_)
                                have hP : va_P g.1 classes [(h0, .inr (10, mob q rf n mm mb fa fp av ev wi mn tp tc sc nf fd me mp xn mt wh tq ag an ig)), ((q 41), aI g 600 dp), ((q 42), aZ g 600 (upd iw (nI tt).toNatClampNeg (vp_nar .boolean 1))), ((q 43), aI g 76800 kd8), ((q 47), aI g 128 nw)] H := hP
                                have hD : va_D A [(h0, .inr (10, mob q rf n mm mb fa fp av ev wi mn tp tc sc nf fd me mp xn mt wh tq ag an ig)), ((q 41), aI g 600 dp), ((q 42), aZ g 600 (upd iw (nI tt).toNatClampNeg (vp_nar .boolean 1))), ((q 43), aI g 76800 kd8), ((q 47), aI g 128 nw)] := hD
                                have e9 : upd iw (nI tt).toNatClampNeg (vp_nar .boolean 1) = upd iw tt 1 := by rw [nI_clamp (by omega)]; rfl
                                rw [e9] at hP hD
                                exact tw_vret E hS (fa, fp, dp, upd iw tt 1, kd8) (⟨(fun h => h), (hFR.again h13 hKD8), (mu_keep ht6 (Or.inr (chn_lt hCN8 h369)))⟩) hP hD d_Mod_goOn_378
                          · have h250 := tn_nle (a := 64) h250 (by decide) (by omega)
                            refine lv_aload_n hx hb d_Mod_goOn_253 rfl (lv_at hl 3 rfl) ?_
                            refine va_get (D := g.1) (ci := 10) (v := .ref (q 43)) (C := R_Mod) (T := F_Mod) (N := 61) hx hb hts in_Mod hown hK hP 0 rfl rfl 43 (by decide) (hts _ wd_1293) (fun _ h9 => h9) rfl d_Mod_goOn_254 ?_
                            refine lv_iload hx hb d_Mod_goOn_257 (lv_at hl 2 rfl) ?_
                            refine lv_iload hx hb d_Mod_goOn_259 (lv_at hl 0 rfl) ?_
                            refine lv_iadd hx hb d_Mod_goOn_261 ?_
                            refine tw_ri (e2 := nI (128 * tt + k)) (nI_add _ _) ?_
                            refine va_iald hx hb hK hP 3 0 rfl rfl (vp_in_nI (by omega) (by decide)) d_Mod_goOn_262 ?_
                            refine tw_ri (e2 := kd8 (128 * tt + k)) (by rw [nI_clamp (by omega)]) ?_
                            refine lv_istore hx hb d_Mod_goOn_263 hl (by decide) rfl (fun ls hl => ?_)
                            have hl : lv_has ls 10 [(8, .int (kd8 (128 * tt + k))), (7, .int (nI k)), (6, .int c8), (4, .int (nI (128 * tt))), (0, .ref h0), (1, .int (nI tt)), (2, .ref (q 47)), (3, .int (nI dd))] := hl
                            refine lv_iload hx hb d_Mod_goOn_265 (lv_at hl 0 rfl) ?_
                            refine lv_iconst (v := 2) hx hb d_Mod_goOn_267 (by decide) ?_
                            refine lv_icmp_ne (tgt := 294) hx hb d_Mod_goOn_268 (by decide) (fun h268 => ?_) (fun h268 => ?_)
                            · refine lv_iload hx hb d_Mod_goOn_294 (lv_at hl 0 rfl) ?_
                              refine lv_iconst (v := 3) hx hb d_Mod_goOn_296 (by decide) ?_
                              refine lv_icmp_ne (tgt := 325) hx hb d_Mod_goOn_297 (by decide) (fun h297 => ?_) (fun h297 => ?_)
                              · refine lv_iconst (v := 0) hx hb d_Mod_goOn_325 (by decide) ?_
                                refine lv_istore hx hb d_Mod_goOn_326 hl (by decide) rfl (fun ls hl => ?_)
                                have hl : lv_has ls 10 [(9, .int 0), (8, .int (kd8 (128 * tt + k))), (7, .int (nI k)), (6, .int c8), (4, .int (nI (128 * tt))), (0, .ref h0), (1, .int (nI tt)), (2, .ref (q 47)), (3, .int (nI dd))] := hl
                                refine lv_iload hx hb d_Mod_goOn_328 (lv_at hl 0 rfl) ?_
                                refine lv_if_eq (tgt := 347) hx hb d_Mod_goOn_330 (by decide) (fun h330 => ?_) (fun h330 => ?_)
                                · refine lv_iinc (k := 2) (v := nI (k + 1)) hx hb d_Mod_goOn_347 hl rfl ((nI_succ k).symm) (by decide) rfl (fun ls hl => ?_)
                                  have hl : lv_has ls 10 [(7, .int (nI (k + 1))), (9, .int 0), (8, .int (kd8 (128 * tt + k))), (6, .int c8), (4, .int (nI (128 * tt))), (0, .ref h0), (1, .int (nI tt)), (2, .ref (q 47)), (3, .int (nI dd))] := hl
                                  refine lv_goto (tgt := 246) hx hb d_Mod_goOn_350 (by decide) ?_
                                  have hP : va_P g.1 classes [(h0, .inr (10, mob q rf n mm mb fa fp av ev wi mn tp tc sc nf fd me mp xn mt wh tq ag an ig)), ((q 41), aI g 600 dp), ((q 42), aZ g 600 iw), ((q 43), aI g 76800 kd8), ((q 47), aI g 128 nw)] H := hP.sub [0, 1, 2, 3, 4] rfl
                                  have hD : va_D A [(h0, .inr (10, mob q rf n mm mb fa fp av ev wi mn tp tc sc nf fd me mp xn mt wh tq ag an ig)), ((q 41), aI g 600 dp), ((q 42), aZ g 600 iw), ((q 43), aI g 76800 kd8), ((q 47), aI g 128 nw)] := hD.sub [0, 1, 2, 3, 4] (by decide) rfl
                                  exact ih246 _ (by omega) c8 (k + 1) kd8 ls _ _ rfl (by omega) hKD8 hCN8 (lv_sub hl [0, 3, 4, 5, 6, 7, 8] rfl) hP hD hS
                                · first | exact absurd h330 (by decide) | exact absurd (by decide) h330
                              · refine lv_iload hx hb d_Mod_goOn_300 (lv_at hl 1 rfl) ?_
                                refine lv_if_eq (tgt := 321) hx hb d_Mod_goOn_302 (by decide) (fun h302 => ?_) (fun h302 => ?_)
                                · refine lv_iconst (v := 1) hx hb d_Mod_goOn_321 (by decide) ?_
                                  refine lv_goto (tgt := 326) hx hb d_Mod_goOn_322 (by decide) ?_
                                  refine lv_istore hx hb d_Mod_goOn_326 hl (by decide) rfl (fun ls hl => ?_)
                                  have hl : lv_has ls 10 [(9, .int 1), (8, .int (kd8 (128 * tt + k))), (7, .int (nI k)), (6, .int c8), (4, .int (nI (128 * tt))), (0, .ref h0), (1, .int (nI tt)), (2, .ref (q 47)), (3, .int (nI dd))] := hl
                                  refine lv_iload hx hb d_Mod_goOn_328 (lv_at hl 0 rfl) ?_
                                  refine lv_if_eq (tgt := 347) hx hb d_Mod_goOn_330 (by decide) (fun h330 => ?_) (fun h330 => ?_)
                                  · first | exact absurd h330 (by decide) | exact absurd (by decide) h330
                                  · refine lv_aload_n hx hb d_Mod_goOn_333 rfl (lv_at hl 5 rfl) ?_
                                    refine va_get (D := g.1) (ci := 10) (v := .ref (q 43)) (C := R_Mod) (T := F_Mod) (N := 61) hx hb hts in_Mod hown hK hP 0 rfl rfl 43 (by decide) (hts _ wd_1293) (fun _ h9 => h9) rfl d_Mod_goOn_334 ?_
                                    refine lv_iload hx hb d_Mod_goOn_337 (lv_at hl 4 rfl) ?_
                                    refine lv_iload hx hb d_Mod_goOn_339 (lv_at hl 2 rfl) ?_
                                    refine lv_iadd hx hb d_Mod_goOn_341 ?_
                                    refine tw_ri (e2 := nI (128 * tt + k)) (nI_add _ _) ?_
                                    refine lv_iconst (v := 0) hx hb d_Mod_goOn_342 (by decide) ?_
                                    refine va_iast hx hb hK hP hD hS 3 0 rfl rfl (vp_in_nI (by omega) (by decide)) d_Mod_goOn_343 (fun H locs hP hD hS => ?_)
                                    have hP : va_P g.1 classes [(h0, .inr (10, mob q rf n mm mb fa fp av ev wi mn tp tc sc nf fd me mp xn mt wh tq ag an ig)), ((q 41), aI g 600 dp), ((q 42), aZ g 600 iw), ((q 43), aI g 76800 (upd kd8 (nI (128 * tt + k)).toNatClampNeg 0)), ((q 47), aI g 128 nw)] H := hP
                                    have hD : va_D A [(h0, .inr (10, mob q rf n mm mb fa fp av ev wi mn tp tc sc nf fd me mp xn mt wh tq ag an ig)), ((q 41), aI g 600 dp), ((q 42), aZ g 600 iw), ((q 43), aI g 76800 (upd kd8 (nI (128 * tt + k)).toNatClampNeg 0)), ((q 47), aI g 128 nw)] := hD
                                    have e9 : upd kd8 (nI (128 * tt + k)).toNatClampNeg 0 = upd kd8 (128 * tt + k) 0 := by rw [nI_clamp (by omega)]
                                    rw [e9] at hP hD
                                    refine lv_iconst (v := 1) hx hb d_Mod_goOn_344 (by decide) ?_
                                    refine lv_istore hx hb d_Mod_goOn_345 hl (by decide) rfl (fun ls hl => ?_)
                                    have hl : lv_has ls 10 [(6, .int 1), (9, .int 1), (8, .int (kd8 (128 * tt + k))), (7, .int (nI k)), (4, .int (nI (128 * tt))), (0, .ref h0), (1, .int (nI tt)), (2, .ref (q 47)), (3, .int (nI dd))] := hl
                                    refine lv_iinc (k := 3) (v := nI (k + 1)) hx hb d_Mod_goOn_347 hl rfl ((nI_succ k).symm) (by decide) rfl (fun ls hl => ?_)
                                    have hl : lv_has ls 10 [(7, .int (nI (k + 1))), (6, .int 1), (9, .int 1), (8, .int (kd8 (128 * tt + k))), (4, .int (nI (128 * tt))), (0, .ref h0), (1, .int (nI tt)), (2, .ref (q 47)), (3, .int (nI dd))] := hl
                                    refine lv_goto (tgt := 246) hx hb d_Mod_goOn_350 (by decide) ?_
                                    have hP : va_P g.1 classes [(h0, .inr (10, mob q rf n mm mb fa fp av ev wi mn tp tc sc nf fd me mp xn mt wh tq ag an ig)), ((q 41), aI g 600 dp), ((q 42), aZ g 600 iw), ((q 43), aI g 76800 (upd kd8 (128 * tt + k) 0)), ((q 47), aI g 128 nw)] H := hP.sub [0, 1, 2, 3, 4] rfl
                                    have hD : va_D A [(h0, .inr (10, mob q rf n mm mb fa fp av ev wi mn tp tc sc nf fd me mp xn mt wh tq ag an ig)), ((q 41), aI g 600 dp), ((q 42), aZ g 600 iw), ((q 43), aI g 76800 (upd kd8 (128 * tt + k) 0)), ((q 47), aI g 128 nw)] := hD.sub [0, 1, 2, 3, 4] (by decide) rfl
                                    exact ih246 _ (by omega) 1 (k + 1) (upd kd8 (128 * tt + k) 0) ls _ _ rfl (by omega) (hKD8.put (fun _ => by decide)) (nk_dn hCN8 (by omega) (by omega) (by rw [h297]; decide)) (lv_sub hl [0, 1, 4, 5, 6, 7, 8] rfl) hP hD hS
                                · have h302 := tn_ne (b := 0) h302
                                  refine lv_aload_n hx hb d_Mod_goOn_305 rfl (lv_at hl 4 rfl) ?_
                                  refine va_get (D := g.1) (ci := 10) (v := .ref (q 43)) (C := R_Mod) (T := F_Mod) (N := 61) hx hb hts in_Mod hown hK hP 0 rfl rfl 43 (by decide) (hts _ wd_1293) (fun _ h9 => h9) rfl d_Mod_goOn_306 ?_
                                  refine lv_iload hx hb d_Mod_goOn_309 (lv_at hl 3 rfl) ?_
                                  refine lv_iload hx hb d_Mod_goOn_311 (lv_at hl 1 rfl) ?_
                                  refine lv_iadd hx hb d_Mod_goOn_313 ?_
                                  refine tw_ri (e2 := nI (128 * tt + k)) (nI_add _ _) ?_
                                  refine lv_iconst (v := 1) hx hb d_Mod_goOn_314 (by decide) ?_
                                  refine lv_isub hx hb d_Mod_goOn_315 ?_
                                  refine tw_ri (e2 := nI (128 * tt + k - 1)) (pk_sub (b := 1) (by omega)) ?_
                                  refine va_iald hx hb hK hP 3 0 rfl rfl (vp_in_nI (by omega) (by decide)) d_Mod_goOn_316 ?_
                                  obtain ⟨x10, ex10⟩ : ∃ z : Int32, kd8 ((nI (128 * tt + k - 1)).toNatClampNeg) = z := ⟨_, rfl⟩
                                  refine tw_ri (e2 := x10) ex10 ?_
                                  refine lv_iconst (v := 2) hx hb d_Mod_goOn_317 (by decide) ?_
                                  refine lv_icmp_eq (tgt := 325) hx hb d_Mod_goOn_318 (by decide) (fun h318 => ?_) (fun h318 => ?_)
                                  · refine lv_iconst (v := 0) hx hb d_Mod_goOn_325 (by decide) ?_
                                    refine lv_istore hx hb d_Mod_goOn_326 hl (by decide) rfl (fun ls hl => ?_)
                                    have hl : lv_has ls 10 [(9, .int 0), (8, .int (kd8 (128 * tt + k))), (7, .int (nI k)), (6, .int c8), (4, .int (nI (128 * tt))), (0, .ref h0), (1, .int (nI tt)), (2, .ref (q 47)), (3, .int (nI dd))] := hl
                                    refine lv_iload hx hb d_Mod_goOn_328 (lv_at hl 0 rfl) ?_
                                    refine lv_if_eq (tgt := 347) hx hb d_Mod_goOn_330 (by decide) (fun h330 => ?_) (fun h330 => ?_)
                                    · refine lv_iinc (k := 2) (v := nI (k + 1)) hx hb d_Mod_goOn_347 hl rfl ((nI_succ k).symm) (by decide) rfl (fun ls hl => ?_)
                                      have hl : lv_has ls 10 [(7, .int (nI (k + 1))), (9, .int 0), (8, .int (kd8 (128 * tt + k))), (6, .int c8), (4, .int (nI (128 * tt))), (0, .ref h0), (1, .int (nI tt)), (2, .ref (q 47)), (3, .int (nI dd))] := hl
                                      refine lv_goto (tgt := 246) hx hb d_Mod_goOn_350 (by decide) ?_
                                      have hP : va_P g.1 classes [(h0, .inr (10, mob q rf n mm mb fa fp av ev wi mn tp tc sc nf fd me mp xn mt wh tq ag an ig)), ((q 41), aI g 600 dp), ((q 42), aZ g 600 iw), ((q 43), aI g 76800 kd8), ((q 47), aI g 128 nw)] H := hP.sub [0, 1, 2, 3, 4] rfl
                                      have hD : va_D A [(h0, .inr (10, mob q rf n mm mb fa fp av ev wi mn tp tc sc nf fd me mp xn mt wh tq ag an ig)), ((q 41), aI g 600 dp), ((q 42), aZ g 600 iw), ((q 43), aI g 76800 kd8), ((q 47), aI g 128 nw)] := hD.sub [0, 1, 2, 3, 4] (by decide) rfl
                                      exact ih246 _ (by omega) c8 (k + 1) kd8 ls _ _ rfl (by omega) hKD8 hCN8 (lv_sub hl [0, 3, 4, 5, 6, 7, 8] rfl) hP hD hS
                                    · first | exact absurd h330 (by decide) | exact absurd (by decide) h330
                                  · refine lv_iconst (v := 1) hx hb d_Mod_goOn_321 (by decide) ?_
                                    refine lv_goto (tgt := 326) hx hb d_Mod_goOn_322 (by decide) ?_
                                    refine lv_istore hx hb d_Mod_goOn_326 hl (by decide) rfl (fun ls hl => ?_)
                                    have hl : lv_has ls 10 [(9, .int 1), (8, .int (kd8 (128 * tt + k))), (7, .int (nI k)), (6, .int c8), (4, .int (nI (128 * tt))), (0, .ref h0), (1, .int (nI tt)), (2, .ref (q 47)), (3, .int (nI dd))] := hl
                                    refine lv_iload hx hb d_Mod_goOn_328 (lv_at hl 0 rfl) ?_
                                    refine lv_if_eq (tgt := 347) hx hb d_Mod_goOn_330 (by decide) (fun h330 => ?_) (fun h330 => ?_)
                                    · first | exact absurd h330 (by decide) | exact absurd (by decide) h330
                                    · refine lv_aload_n hx hb d_Mod_goOn_333 rfl (lv_at hl 5 rfl) ?_
                                      refine va_get (D := g.1) (ci := 10) (v := .ref (q 43)) (C := R_Mod) (T := F_Mod) (N := 61) hx hb hts in_Mod hown hK hP 0 rfl rfl 43 (by decide) (hts _ wd_1293) (fun _ h9 => h9) rfl d_Mod_goOn_334 ?_
                                      refine lv_iload hx hb d_Mod_goOn_337 (lv_at hl 4 rfl) ?_
                                      refine lv_iload hx hb d_Mod_goOn_339 (lv_at hl 2 rfl) ?_
                                      refine lv_iadd hx hb d_Mod_goOn_341 ?_
                                      refine tw_ri (e2 := nI (128 * tt + k)) (nI_add _ _) ?_
                                      refine lv_iconst (v := 0) hx hb d_Mod_goOn_342 (by decide) ?_
                                      refine va_iast hx hb hK hP hD hS 3 0 rfl rfl (vp_in_nI (by omega) (by decide)) d_Mod_goOn_343 (fun H locs hP hD hS => ?_)
                                      have hP : va_P g.1 classes [(h0, .inr (10, mob q rf n mm mb fa fp av ev wi mn tp tc sc nf fd me mp xn mt wh tq ag an ig)), ((q 41), aI g 600 dp), ((q 42), aZ g 600 iw), ((q 43), aI g 76800 (upd kd8 (nI (128 * tt + k)).toNatClampNeg 0)), ((q 47), aI g 128 nw)] H := hP
                                      have hD : va_D A [(h0, .inr (10, mob q rf n mm mb fa fp av ev wi mn tp tc sc nf fd me mp xn mt wh tq ag an ig)), ((q 41), aI g 600 dp), ((q 42), aZ g 600 iw), ((q 43), aI g 76800 (upd kd8 (nI (128 * tt + k)).toNatClampNeg 0)), ((q 47), aI g 128 nw)] := hD
                                      have e9 : upd kd8 (nI (128 * tt + k)).toNatClampNeg 0 = upd kd8 (128 * tt + k) 0 := by rw [nI_clamp (by omega)]
                                      rw [e9] at hP hD
                                      refine lv_iconst (v := 1) hx hb d_Mod_goOn_344 (by decide) ?_
                                      refine lv_istore hx hb d_Mod_goOn_345 hl (by decide) rfl (fun ls hl => ?_)
                                      have hl : lv_has ls 10 [(6, .int 1), (9, .int 1), (8, .int (kd8 (128 * tt + k))), (7, .int (nI k)), (4, .int (nI (128 * tt))), (0, .ref h0), (1, .int (nI tt)), (2, .ref (q 47)), (3, .int (nI dd))] := hl
                                      refine lv_iinc (k := 3) (v := nI (k + 1)) hx hb d_Mod_goOn_347 hl rfl ((nI_succ k).symm) (by decide) rfl (fun ls hl => ?_)
                                      have hl : lv_has ls 10 [(7, .int (nI (k + 1))), (6, .int 1), (9, .int 1), (8, .int (kd8 (128 * tt + k))), (4, .int (nI (128 * tt))), (0, .ref h0), (1, .int (nI tt)), (2, .ref (q 47)), (3, .int (nI dd))] := hl
                                      refine lv_goto (tgt := 246) hx hb d_Mod_goOn_350 (by decide) ?_
                                      have hP : va_P g.1 classes [(h0, .inr (10, mob q rf n mm mb fa fp av ev wi mn tp tc sc nf fd me mp xn mt wh tq ag an ig)), ((q 41), aI g 600 dp), ((q 42), aZ g 600 iw), ((q 43), aI g 76800 (upd kd8 (128 * tt + k) 0)), ((q 47), aI g 128 nw)] H := hP.sub [0, 1, 2, 3, 4] rfl
                                      have hD : va_D A [(h0, .inr (10, mob q rf n mm mb fa fp av ev wi mn tp tc sc nf fd me mp xn mt wh tq ag an ig)), ((q 41), aI g 600 dp), ((q 42), aZ g 600 iw), ((q 43), aI g 76800 (upd kd8 (128 * tt + k) 0)), ((q 47), aI g 128 nw)] := hD.sub [0, 1, 2, 3, 4] (by decide) rfl
                                      exact ih246 _ (by omega) 1 (k + 1) (upd kd8 (128 * tt + k) 0) ls _ _ rfl (by omega) (hKD8.put (fun _ => by decide)) (nk_dn hCN8 (by omega) (by omega) (by rw [h297]; decide)) (lv_sub hl [0, 1, 4, 5, 6, 7, 8] rfl) hP hD hS
                            · refine lv_iload hx hb d_Mod_goOn_271 (lv_at hl 1 rfl) ?_
                              refine lv_bipush (v := 63) hx hb d_Mod_goOn_273 (by decide) ?_
                              refine lv_icmp_eq (tgt := 321) hx hb d_Mod_goOn_275 (by decide) (fun h275 => ?_) (fun h275 => ?_)
                              · refine lv_iconst (v := 1) hx hb d_Mod_goOn_321 (by decide) ?_
                                refine lv_goto (tgt := 326) hx hb d_Mod_goOn_322 (by decide) ?_
                                refine lv_istore hx hb d_Mod_goOn_326 hl (by decide) rfl (fun ls hl => ?_)
                                have hl : lv_has ls 10 [(9, .int 1), (8, .int (kd8 (128 * tt + k))), (7, .int (nI k)), (6, .int c8), (4, .int (nI (128 * tt))), (0, .ref h0), (1, .int (nI tt)), (2, .ref (q 47)), (3, .int (nI dd))] := hl
                                refine lv_iload hx hb d_Mod_goOn_328 (lv_at hl 0 rfl) ?_
                                refine lv_if_eq (tgt := 347) hx hb d_Mod_goOn_330 (by decide) (fun h330 => ?_) (fun h330 => ?_)
                                · first | exact absurd h330 (by decide) | exact absurd (by decide) h330
                                · refine lv_aload_n hx hb d_Mod_goOn_333 rfl (lv_at hl 5 rfl) ?_
                                  refine va_get (D := g.1) (ci := 10) (v := .ref (q 43)) (C := R_Mod) (T := F_Mod) (N := 61) hx hb hts in_Mod hown hK hP 0 rfl rfl 43 (by decide) (hts _ wd_1293) (fun _ h9 => h9) rfl d_Mod_goOn_334 ?_
                                  refine lv_iload hx hb d_Mod_goOn_337 (lv_at hl 4 rfl) ?_
                                  refine lv_iload hx hb d_Mod_goOn_339 (lv_at hl 2 rfl) ?_
                                  refine lv_iadd hx hb d_Mod_goOn_341 ?_
                                  refine tw_ri (e2 := nI (128 * tt + k)) (nI_add _ _) ?_
                                  refine lv_iconst (v := 0) hx hb d_Mod_goOn_342 (by decide) ?_
                                  refine va_iast hx hb hK hP hD hS 3 0 rfl rfl (vp_in_nI (by omega) (by decide)) d_Mod_goOn_343 (fun H locs hP hD hS => ?_)
                                  have hP : va_P g.1 classes [(h0, .inr (10, mob q rf n mm mb fa fp av ev wi mn tp tc sc nf fd me mp xn mt wh tq ag an ig)), ((q 41), aI g 600 dp), ((q 42), aZ g 600 iw), ((q 43), aI g 76800 (upd kd8 (nI (128 * tt + k)).toNatClampNeg 0)), ((q 47), aI g 128 nw)] H := hP
                                  have hD : va_D A [(h0, .inr (10, mob q rf n mm mb fa fp av ev wi mn tp tc sc nf fd me mp xn mt wh tq ag an ig)), ((q 41), aI g 600 dp), ((q 42), aZ g 600 iw), ((q 43), aI g 76800 (upd kd8 (nI (128 * tt + k)).toNatClampNeg 0)), ((q 47), aI g 128 nw)] := hD
                                  have e9 : upd kd8 (nI (128 * tt + k)).toNatClampNeg 0 = upd kd8 (128 * tt + k) 0 := by rw [nI_clamp (by omega)]
                                  rw [e9] at hP hD
                                  refine lv_iconst (v := 1) hx hb d_Mod_goOn_344 (by decide) ?_
                                  refine lv_istore hx hb d_Mod_goOn_345 hl (by decide) rfl (fun ls hl => ?_)
                                  have hl : lv_has ls 10 [(6, .int 1), (9, .int 1), (8, .int (kd8 (128 * tt + k))), (7, .int (nI k)), (4, .int (nI (128 * tt))), (0, .ref h0), (1, .int (nI tt)), (2, .ref (q 47)), (3, .int (nI dd))] := hl
                                  refine lv_iinc (k := 3) (v := nI (k + 1)) hx hb d_Mod_goOn_347 hl rfl ((nI_succ k).symm) (by decide) rfl (fun ls hl => ?_)
                                  have hl : lv_has ls 10 [(7, .int (nI (k + 1))), (6, .int 1), (9, .int 1), (8, .int (kd8 (128 * tt + k))), (4, .int (nI (128 * tt))), (0, .ref h0), (1, .int (nI tt)), (2, .ref (q 47)), (3, .int (nI dd))] := hl
                                  refine lv_goto (tgt := 246) hx hb d_Mod_goOn_350 (by decide) ?_
                                  have hP : va_P g.1 classes [(h0, .inr (10, mob q rf n mm mb fa fp av ev wi mn tp tc sc nf fd me mp xn mt wh tq ag an ig)), ((q 41), aI g 600 dp), ((q 42), aZ g 600 iw), ((q 43), aI g 76800 (upd kd8 (128 * tt + k) 0)), ((q 47), aI g 128 nw)] H := hP.sub [0, 1, 2, 3, 4] rfl
                                  have hD : va_D A [(h0, .inr (10, mob q rf n mm mb fa fp av ev wi mn tp tc sc nf fd me mp xn mt wh tq ag an ig)), ((q 41), aI g 600 dp), ((q 42), aZ g 600 iw), ((q 43), aI g 76800 (upd kd8 (128 * tt + k) 0)), ((q 47), aI g 128 nw)] := hD.sub [0, 1, 2, 3, 4] (by decide) rfl
                                  exact ih246 _ (by omega) 1 (k + 1) (upd kd8 (128 * tt + k) 0) ls _ _ rfl (by omega) (hKD8.put (fun _ => by decide)) (nk_dn hCN8 (by omega) (by omega) (by rw [h268]; decide)) (lv_sub hl [0, 1, 4, 5, 6, 7, 8] rfl) hP hD hS
                              · refine lv_aload_n hx hb d_Mod_goOn_278 rfl (lv_at hl 4 rfl) ?_
                                refine va_get (D := g.1) (ci := 10) (v := .ref (q 43)) (C := R_Mod) (T := F_Mod) (N := 61) hx hb hts in_Mod hown hK hP 0 rfl rfl 43 (by decide) (hts _ wd_1293) (fun _ h9 => h9) rfl d_Mod_goOn_279 ?_
                                refine lv_iload hx hb d_Mod_goOn_282 (lv_at hl 3 rfl) ?_
                                refine lv_iload hx hb d_Mod_goOn_284 (lv_at hl 1 rfl) ?_
                                refine lv_iadd hx hb d_Mod_goOn_286 ?_
                                refine tw_ri (e2 := nI (128 * tt + k)) (nI_add _ _) ?_
                                refine lv_iconst (v := 1) hx hb d_Mod_goOn_287 (by decide) ?_
                                refine lv_iadd hx hb d_Mod_goOn_288 ?_
                                refine tw_ri (e2 := nI (128 * tt + k + 1)) (nI_add _ 1) ?_
                                refine va_iald hx hb hK hP 3 0 rfl rfl (vp_in_nI (by omega) (by decide)) d_Mod_goOn_289 ?_
                                obtain ⟨x11, ex11⟩ : ∃ z : Int32, kd8 ((nI (128 * tt + k + 1)).toNatClampNeg) = z := ⟨_, rfl⟩
                                refine tw_ri (e2 := x11) ex11 ?_
                                refine lv_iconst (v := 3) hx hb d_Mod_goOn_290 (by decide) ?_
                                refine lv_icmp_ne (tgt := 321) hx hb d_Mod_goOn_291 (by decide) (fun h291 => ?_) (fun h291 => ?_)
                                · refine lv_iconst (v := 1) hx hb d_Mod_goOn_321 (by decide) ?_
                                  refine lv_goto (tgt := 326) hx hb d_Mod_goOn_322 (by decide) ?_
                                  refine lv_istore hx hb d_Mod_goOn_326 hl (by decide) rfl (fun ls hl => ?_)
                                  have hl : lv_has ls 10 [(9, .int 1), (8, .int (kd8 (128 * tt + k))), (7, .int (nI k)), (6, .int c8), (4, .int (nI (128 * tt))), (0, .ref h0), (1, .int (nI tt)), (2, .ref (q 47)), (3, .int (nI dd))] := hl
                                  refine lv_iload hx hb d_Mod_goOn_328 (lv_at hl 0 rfl) ?_
                                  refine lv_if_eq (tgt := 347) hx hb d_Mod_goOn_330 (by decide) (fun h330 => ?_) (fun h330 => ?_)
                                  · first | exact absurd h330 (by decide) | exact absurd (by decide) h330
                                  · refine lv_aload_n hx hb d_Mod_goOn_333 rfl (lv_at hl 5 rfl) ?_
                                    refine va_get (D := g.1) (ci := 10) (v := .ref (q 43)) (C := R_Mod) (T := F_Mod) (N := 61) hx hb hts in_Mod hown hK hP 0 rfl rfl 43 (by decide) (hts _ wd_1293) (fun _ h9 => h9) rfl d_Mod_goOn_334 ?_
                                    refine lv_iload hx hb d_Mod_goOn_337 (lv_at hl 4 rfl) ?_
                                    refine lv_iload hx hb d_Mod_goOn_339 (lv_at hl 2 rfl) ?_
                                    refine lv_iadd hx hb d_Mod_goOn_341 ?_
                                    refine tw_ri (e2 := nI (128 * tt + k)) (nI_add _ _) ?_
                                    refine lv_iconst (v := 0) hx hb d_Mod_goOn_342 (by decide) ?_
                                    refine va_iast hx hb hK hP hD hS 3 0 rfl rfl (vp_in_nI (by omega) (by decide)) d_Mod_goOn_343 (fun H locs hP hD hS => ?_)
                                    have hP : va_P g.1 classes [(h0, .inr (10, mob q rf n mm mb fa fp av ev wi mn tp tc sc nf fd me mp xn mt wh tq ag an ig)), ((q 41), aI g 600 dp), ((q 42), aZ g 600 iw), ((q 43), aI g 76800 (upd kd8 (nI (128 * tt + k)).toNatClampNeg 0)), ((q 47), aI g 128 nw)] H := hP
                                    have hD : va_D A [(h0, .inr (10, mob q rf n mm mb fa fp av ev wi mn tp tc sc nf fd me mp xn mt wh tq ag an ig)), ((q 41), aI g 600 dp), ((q 42), aZ g 600 iw), ((q 43), aI g 76800 (upd kd8 (nI (128 * tt + k)).toNatClampNeg 0)), ((q 47), aI g 128 nw)] := hD
                                    have e9 : upd kd8 (nI (128 * tt + k)).toNatClampNeg 0 = upd kd8 (128 * tt + k) 0 := by rw [nI_clamp (by omega)]
                                    rw [e9] at hP hD
                                    refine lv_iconst (v := 1) hx hb d_Mod_goOn_344 (by decide) ?_
                                    refine lv_istore hx hb d_Mod_goOn_345 hl (by decide) rfl (fun ls hl => ?_)
                                    have hl : lv_has ls 10 [(6, .int 1), (9, .int 1), (8, .int (kd8 (128 * tt + k))), (7, .int (nI k)), (4, .int (nI (128 * tt))), (0, .ref h0), (1, .int (nI tt)), (2, .ref (q 47)), (3, .int (nI dd))] := hl
                                    refine lv_iinc (k := 3) (v := nI (k + 1)) hx hb d_Mod_goOn_347 hl rfl ((nI_succ k).symm) (by decide) rfl (fun ls hl => ?_)
                                    have hl : lv_has ls 10 [(7, .int (nI (k + 1))), (6, .int 1), (9, .int 1), (8, .int (kd8 (128 * tt + k))), (4, .int (nI (128 * tt))), (0, .ref h0), (1, .int (nI tt)), (2, .ref (q 47)), (3, .int (nI dd))] := hl
                                    refine lv_goto (tgt := 246) hx hb d_Mod_goOn_350 (by decide) ?_
                                    have hP : va_P g.1 classes [(h0, .inr (10, mob q rf n mm mb fa fp av ev wi mn tp tc sc nf fd me mp xn mt wh tq ag an ig)), ((q 41), aI g 600 dp), ((q 42), aZ g 600 iw), ((q 43), aI g 76800 (upd kd8 (128 * tt + k) 0)), ((q 47), aI g 128 nw)] H := hP.sub [0, 1, 2, 3, 4] rfl
                                    have hD : va_D A [(h0, .inr (10, mob q rf n mm mb fa fp av ev wi mn tp tc sc nf fd me mp xn mt wh tq ag an ig)), ((q 41), aI g 600 dp), ((q 42), aZ g 600 iw), ((q 43), aI g 76800 (upd kd8 (128 * tt + k) 0)), ((q 47), aI g 128 nw)] := hD.sub [0, 1, 2, 3, 4] (by decide) rfl
                                    exact ih246 _ (by omega) 1 (k + 1) (upd kd8 (128 * tt + k) 0) ls _ _ rfl (by omega) (hKD8.put (fun _ => by decide)) (nk_dn hCN8 (by omega) (by omega) (by rw [h268]; decide)) (lv_sub hl [0, 1, 4, 5, 6, 7, 8] rfl) hP hD hS
                                · refine lv_iload hx hb d_Mod_goOn_294 (lv_at hl 0 rfl) ?_
                                  refine lv_iconst (v := 3) hx hb d_Mod_goOn_296 (by decide) ?_
                                  refine lv_icmp_ne (tgt := 325) hx hb d_Mod_goOn_297 (by decide) (fun h297 => ?_) (fun h297 => ?_)
                                  · refine lv_iconst (v := 0) hx hb d_Mod_goOn_325 (by decide) ?_
                                    refine lv_istore hx hb d_Mod_goOn_326 hl (by decide) rfl (fun ls hl => ?_)
                                    have hl : lv_has ls 10 [(9, .int 0), (8, .int (kd8 (128 * tt + k))), (7, .int (nI k)), (6, .int c8), (4, .int (nI (128 * tt))), (0, .ref h0), (1, .int (nI tt)), (2, .ref (q 47)), (3, .int (nI dd))] := hl
                                    refine lv_iload hx hb d_Mod_goOn_328 (lv_at hl 0 rfl) ?_
                                    refine lv_if_eq (tgt := 347) hx hb d_Mod_goOn_330 (by decide) (fun h330 => ?_) (fun h330 => ?_)
                                    · refine lv_iinc (k := 2) (v := nI (k + 1)) hx hb d_Mod_goOn_347 hl rfl ((nI_succ k).symm) (by decide) rfl (fun ls hl => ?_)
                                      have hl : lv_has ls 10 [(7, .int (nI (k + 1))), (9, .int 0), (8, .int (kd8 (128 * tt + k))), (6, .int c8), (4, .int (nI (128 * tt))), (0, .ref h0), (1, .int (nI tt)), (2, .ref (q 47)), (3, .int (nI dd))] := hl
                                      refine lv_goto (tgt := 246) hx hb d_Mod_goOn_350 (by decide) ?_
                                      have hP : va_P g.1 classes [(h0, .inr (10, mob q rf n mm mb fa fp av ev wi mn tp tc sc nf fd me mp xn mt wh tq ag an ig)), ((q 41), aI g 600 dp), ((q 42), aZ g 600 iw), ((q 43), aI g 76800 kd8), ((q 47), aI g 128 nw)] H := hP.sub [0, 1, 2, 3, 4] rfl
                                      have hD : va_D A [(h0, .inr (10, mob q rf n mm mb fa fp av ev wi mn tp tc sc nf fd me mp xn mt wh tq ag an ig)), ((q 41), aI g 600 dp), ((q 42), aZ g 600 iw), ((q 43), aI g 76800 kd8), ((q 47), aI g 128 nw)] := hD.sub [0, 1, 2, 3, 4] (by decide) rfl
                                      exact ih246 _ (by omega) c8 (k + 1) kd8 ls _ _ rfl (by omega) hKD8 hCN8 (lv_sub hl [0, 3, 4, 5, 6, 7, 8] rfl) hP hD hS
                                    · first | exact absurd h330 (by decide) | exact absurd (by decide) h330
                                  · refine lv_iload hx hb d_Mod_goOn_300 (lv_at hl 1 rfl) ?_
                                    refine lv_if_eq (tgt := 321) hx hb d_Mod_goOn_302 (by decide) (fun h302 => ?_) (fun h302 => ?_)
                                    · refine lv_iconst (v := 1) hx hb d_Mod_goOn_321 (by decide) ?_
                                      refine lv_goto (tgt := 326) hx hb d_Mod_goOn_322 (by decide) ?_
                                      refine lv_istore hx hb d_Mod_goOn_326 hl (by decide) rfl (fun ls hl => ?_)
                                      have hl : lv_has ls 10 [(9, .int 1), (8, .int (kd8 (128 * tt + k))), (7, .int (nI k)), (6, .int c8), (4, .int (nI (128 * tt))), (0, .ref h0), (1, .int (nI tt)), (2, .ref (q 47)), (3, .int (nI dd))] := hl
                                      refine lv_iload hx hb d_Mod_goOn_328 (lv_at hl 0 rfl) ?_
                                      refine lv_if_eq (tgt := 347) hx hb d_Mod_goOn_330 (by decide) (fun h330 => ?_) (fun h330 => ?_)
                                      · first | exact absurd h330 (by decide) | exact absurd (by decide) h330
                                      · refine lv_aload_n hx hb d_Mod_goOn_333 rfl (lv_at hl 5 rfl) ?_
                                        refine va_get (D := g.1) (ci := 10) (v := .ref (q 43)) (C := R_Mod) (T := F_Mod) (N := 61) hx hb hts in_Mod hown hK hP 0 rfl rfl 43 (by decide) (hts _ wd_1293) (fun _ h9 => h9) rfl d_Mod_goOn_334 ?_
                                        refine lv_iload hx hb d_Mod_goOn_337 (lv_at hl 4 rfl) ?_
                                        refine lv_iload hx hb d_Mod_goOn_339 (lv_at hl 2 rfl) ?_
                                        refine lv_iadd hx hb d_Mod_goOn_341 ?_
                                        refine tw_ri (e2 := nI (128 * tt + k)) (nI_add _ _) ?_
                                        refine lv_iconst (v := 0) hx hb d_Mod_goOn_342 (by decide) ?_
                                        refine va_iast hx hb hK hP hD hS 3 0 rfl rfl (vp_in_nI (by omega) (by decide)) d_Mod_goOn_343 (fun H locs hP hD hS => ?_)
                                        have hP : va_P g.1 classes [(h0, .inr (10, mob q rf n mm mb fa fp av ev wi mn tp tc sc nf fd me mp xn mt wh tq ag an ig)), ((q 41), aI g 600 dp), ((q 42), aZ g 600 iw), ((q 43), aI g 76800 (upd kd8 (nI (128 * tt + k)).toNatClampNeg 0)), ((q 47), aI g 128 nw)] H := hP
                                        have hD : va_D A [(h0, .inr (10, mob q rf n mm mb fa fp av ev wi mn tp tc sc nf fd me mp xn mt wh tq ag an ig)), ((q 41), aI g 600 dp), ((q 42), aZ g 600 iw), ((q 43), aI g 76800 (upd kd8 (nI (128 * tt + k)).toNatClampNeg 0)), ((q 47), aI g 128 nw)] := hD
                                        have e9 : upd kd8 (nI (128 * tt + k)).toNatClampNeg 0 = upd kd8 (128 * tt + k) 0 := by rw [nI_clamp (by omega)]
                                        rw [e9] at hP hD
                                        refine lv_iconst (v := 1) hx hb d_Mod_goOn_344 (by decide) ?_
                                        refine lv_istore hx hb d_Mod_goOn_345 hl (by decide) rfl (fun ls hl => ?_)
                                        have hl : lv_has ls 10 [(6, .int 1), (9, .int 1), (8, .int (kd8 (128 * tt + k))), (7, .int (nI k)), (4, .int (nI (128 * tt))), (0, .ref h0), (1, .int (nI tt)), (2, .ref (q 47)), (3, .int (nI dd))] := hl
                                        refine lv_iinc (k := 3) (v := nI (k + 1)) hx hb d_Mod_goOn_347 hl rfl ((nI_succ k).symm) (by decide) rfl (fun ls hl => ?_)
                                        have hl : lv_has ls 10 [(7, .int (nI (k + 1))), (6, .int 1), (9, .int 1), (8, .int (kd8 (128 * tt + k))), (4, .int (nI (128 * tt))), (0, .ref h0), (1, .int (nI tt)), (2, .ref (q 47)), (3, .int (nI dd))] := hl
                                        refine lv_goto (tgt := 246) hx hb d_Mod_goOn_350 (by decide) ?_
                                        have hP : va_P g.1 classes [(h0, .inr (10, mob q rf n mm mb fa fp av ev wi mn tp tc sc nf fd me mp xn mt wh tq ag an ig)), ((q 41), aI g 600 dp), ((q 42), aZ g 600 iw), ((q 43), aI g 76800 (upd kd8 (128 * tt + k) 0)), ((q 47), aI g 128 nw)] H := hP.sub [0, 1, 2, 3, 4] rfl
                                        have hD : va_D A [(h0, .inr (10, mob q rf n mm mb fa fp av ev wi mn tp tc sc nf fd me mp xn mt wh tq ag an ig)), ((q 41), aI g 600 dp), ((q 42), aZ g 600 iw), ((q 43), aI g 76800 (upd kd8 (128 * tt + k) 0)), ((q 47), aI g 128 nw)] := hD.sub [0, 1, 2, 3, 4] (by decide) rfl
                                        exact ih246 _ (by omega) 1 (k + 1) (upd kd8 (128 * tt + k) 0) ls _ _ rfl (by omega) (hKD8.put (fun _ => by decide)) (nk_dn hCN8 (by omega) (by omega) (by rw [h297]; decide)) (lv_sub hl [0, 1, 4, 5, 6, 7, 8] rfl) hP hD hS
                                    · have h302 := tn_ne (b := 0) h302
                                      refine lv_aload_n hx hb d_Mod_goOn_305 rfl (lv_at hl 4 rfl) ?_
                                      refine va_get (D := g.1) (ci := 10) (v := .ref (q 43)) (C := R_Mod) (T := F_Mod) (N := 61) hx hb hts in_Mod hown hK hP 0 rfl rfl 43 (by decide) (hts _ wd_1293) (fun _ h9 => h9) rfl d_Mod_goOn_306 ?_
                                      refine lv_iload hx hb d_Mod_goOn_309 (lv_at hl 3 rfl) ?_
                                      refine lv_iload hx hb d_Mod_goOn_311 (lv_at hl 1 rfl) ?_
                                      refine lv_iadd hx hb d_Mod_goOn_313 ?_
                                      refine tw_ri (e2 := nI (128 * tt + k)) (nI_add _ _) ?_
                                      refine lv_iconst (v := 1) hx hb d_Mod_goOn_314 (by decide) ?_
                                      refine lv_isub hx hb d_Mod_goOn_315 ?_
                                      refine tw_ri (e2 := nI (128 * tt + k - 1)) (pk_sub (b := 1) (by omega)) ?_
                                      refine va_iald hx hb hK hP 3 0 rfl rfl (vp_in_nI (by omega) (by decide)) d_Mod_goOn_316 ?_
                                      obtain ⟨x12, ex12⟩ : ∃ z : Int32, kd8 ((nI (128 * tt + k - 1)).toNatClampNeg) = z := ⟨_, rfl⟩
                                      refine tw_ri (e2 := x12) ex12 ?_
                                      refine lv_iconst (v := 2) hx hb d_Mod_goOn_317 (by decide) ?_
                                      refine lv_icmp_eq (tgt := 325) hx hb d_Mod_goOn_318 (by decide) (fun h318 => ?_) (fun h318 => ?_)
                                      · refine lv_iconst (v := 0) hx hb d_Mod_goOn_325 (by decide) ?_
                                        refine lv_istore hx hb d_Mod_goOn_326 hl (by decide) rfl (fun ls hl => ?_)
                                        have hl : lv_has ls 10 [(9, .int 0), (8, .int (kd8 (128 * tt + k))), (7, .int (nI k)), (6, .int c8), (4, .int (nI (128 * tt))), (0, .ref h0), (1, .int (nI tt)), (2, .ref (q 47)), (3, .int (nI dd))] := hl
                                        refine lv_iload hx hb d_Mod_goOn_328 (lv_at hl 0 rfl) ?_
                                        refine lv_if_eq (tgt := 347) hx hb d_Mod_goOn_330 (by decide) (fun h330 => ?_) (fun h330 => ?_)
                                        · refine lv_iinc (k := 2) (v := nI (k + 1)) hx hb d_Mod_goOn_347 hl rfl ((nI_succ k).symm) (by decide) rfl (fun ls hl => ?_)
                                          have hl : lv_has ls 10 [(7, .int (nI (k + 1))), (9, .int 0), (8, .int (kd8 (128 * tt + k))), (6, .int c8), (4, .int (nI (128 * tt))), (0, .ref h0), (1, .int (nI tt)), (2, .ref (q 47)), (3, .int (nI dd))] := hl
                                          refine lv_goto (tgt := 246) hx hb d_Mod_goOn_350 (by decide) ?_
                                          have hP : va_P g.1 classes [(h0, .inr (10, mob q rf n mm mb fa fp av ev wi mn tp tc sc nf fd me mp xn mt wh tq ag an ig)), ((q 41), aI g 600 dp), ((q 42), aZ g 600 iw), ((q 43), aI g 76800 kd8), ((q 47), aI g 128 nw)] H := hP.sub [0, 1, 2, 3, 4] rfl
                                          have hD : va_D A [(h0, .inr (10, mob q rf n mm mb fa fp av ev wi mn tp tc sc nf fd me mp xn mt wh tq ag an ig)), ((q 41), aI g 600 dp), ((q 42), aZ g 600 iw), ((q 43), aI g 76800 kd8), ((q 47), aI g 128 nw)] := hD.sub [0, 1, 2, 3, 4] (by decide) rfl
                                          exact ih246 _ (by omega) c8 (k + 1) kd8 ls _ _ rfl (by omega) hKD8 hCN8 (lv_sub hl [0, 3, 4, 5, 6, 7, 8] rfl) hP hD hS
                                        · first | exact absurd h330 (by decide) | exact absurd (by decide) h330
                                      · refine lv_iconst (v := 1) hx hb d_Mod_goOn_321 (by decide) ?_
                                        refine lv_goto (tgt := 326) hx hb d_Mod_goOn_322 (by decide) ?_
                                        refine lv_istore hx hb d_Mod_goOn_326 hl (by decide) rfl (fun ls hl => ?_)
                                        have hl : lv_has ls 10 [(9, .int 1), (8, .int (kd8 (128 * tt + k))), (7, .int (nI k)), (6, .int c8), (4, .int (nI (128 * tt))), (0, .ref h0), (1, .int (nI tt)), (2, .ref (q 47)), (3, .int (nI dd))] := hl
                                        refine lv_iload hx hb d_Mod_goOn_328 (lv_at hl 0 rfl) ?_
                                        refine lv_if_eq (tgt := 347) hx hb d_Mod_goOn_330 (by decide) (fun h330 => ?_) (fun h330 => ?_)
                                        · first | exact absurd h330 (by decide) | exact absurd (by decide) h330
                                        · refine lv_aload_n hx hb d_Mod_goOn_333 rfl (lv_at hl 5 rfl) ?_
                                          refine va_get (D := g.1) (ci := 10) (v := .ref (q 43)) (C := R_Mod) (T := F_Mod) (N := 61) hx hb hts in_Mod hown hK hP 0 rfl rfl 43 (by decide) (hts _ wd_1293) (fun _ h9 => h9) rfl d_Mod_goOn_334 ?_
                                          refine lv_iload hx hb d_Mod_goOn_337 (lv_at hl 4 rfl) ?_
                                          refine lv_iload hx hb d_Mod_goOn_339 (lv_at hl 2 rfl) ?_
                                          refine lv_iadd hx hb d_Mod_goOn_341 ?_
                                          refine tw_ri (e2 := nI (128 * tt + k)) (nI_add _ _) ?_
                                          refine lv_iconst (v := 0) hx hb d_Mod_goOn_342 (by decide) ?_
                                          refine va_iast hx hb hK hP hD hS 3 0 rfl rfl (vp_in_nI (by omega) (by decide)) d_Mod_goOn_343 (fun H locs hP hD hS => ?_)
                                          have hP : va_P g.1 classes [(h0, .inr (10, mob q rf n mm mb fa fp av ev wi mn tp tc sc nf fd me mp xn mt wh tq ag an ig)), ((q 41), aI g 600 dp), ((q 42), aZ g 600 iw), ((q 43), aI g 76800 (upd kd8 (nI (128 * tt + k)).toNatClampNeg 0)), ((q 47), aI g 128 nw)] H := hP
                                          have hD : va_D A [(h0, .inr (10, mob q rf n mm mb fa fp av ev wi mn tp tc sc nf fd me mp xn mt wh tq ag an ig)), ((q 41), aI g 600 dp), ((q 42), aZ g 600 iw), ((q 43), aI g 76800 (upd kd8 (nI (128 * tt + k)).toNatClampNeg 0)), ((q 47), aI g 128 nw)] := hD
                                          have e9 : upd kd8 (nI (128 * tt + k)).toNatClampNeg 0 = upd kd8 (128 * tt + k) 0 := by rw [nI_clamp (by omega)]
                                          rw [e9] at hP hD
                                          refine lv_iconst (v := 1) hx hb d_Mod_goOn_344 (by decide) ?_
                                          refine lv_istore hx hb d_Mod_goOn_345 hl (by decide) rfl (fun ls hl => ?_)
                                          have hl : lv_has ls 10 [(6, .int 1), (9, .int 1), (8, .int (kd8 (128 * tt + k))), (7, .int (nI k)), (4, .int (nI (128 * tt))), (0, .ref h0), (1, .int (nI tt)), (2, .ref (q 47)), (3, .int (nI dd))] := hl
                                          refine lv_iinc (k := 3) (v := nI (k + 1)) hx hb d_Mod_goOn_347 hl rfl ((nI_succ k).symm) (by decide) rfl (fun ls hl => ?_)
                                          have hl : lv_has ls 10 [(7, .int (nI (k + 1))), (6, .int 1), (9, .int 1), (8, .int (kd8 (128 * tt + k))), (4, .int (nI (128 * tt))), (0, .ref h0), (1, .int (nI tt)), (2, .ref (q 47)), (3, .int (nI dd))] := hl
                                          refine lv_goto (tgt := 246) hx hb d_Mod_goOn_350 (by decide) ?_
                                          have hP : va_P g.1 classes [(h0, .inr (10, mob q rf n mm mb fa fp av ev wi mn tp tc sc nf fd me mp xn mt wh tq ag an ig)), ((q 41), aI g 600 dp), ((q 42), aZ g 600 iw), ((q 43), aI g 76800 (upd kd8 (128 * tt + k) 0)), ((q 47), aI g 128 nw)] H := hP.sub [0, 1, 2, 3, 4] rfl
                                          have hD : va_D A [(h0, .inr (10, mob q rf n mm mb fa fp av ev wi mn tp tc sc nf fd me mp xn mt wh tq ag an ig)), ((q 41), aI g 600 dp), ((q 42), aZ g 600 iw), ((q 43), aI g 76800 (upd kd8 (128 * tt + k) 0)), ((q 47), aI g 128 nw)] := hD.sub [0, 1, 2, 3, 4] (by decide) rfl
                                          exact ih246 _ (by omega) 1 (k + 1) (upd kd8 (128 * tt + k) 0) ls _ _ rfl (by omega) (hKD8.put (fun _ => by decide)) (nk_dn hCN8 (by omega) (by omega) (by rw [h297]; decide)) (lv_sub hl [0, 1, 4, 5, 6, 7, 8] rfl) hP hD hS
                      exact loop246 _ c9 0 kd9 ls _ _ rfl (Nat.zero_le _) hKD hCN (lv_sub hl [0, 1, 3, 4, 5, 6, 7] rfl) hP hD hS
                    · have h190 := tn_nle (a := 64) h190 (by decide) (by omega)
                      refine lv_aload_n hx hb d_Mod_goOn_193 rfl (lv_at hl 4 rfl) ?_
                      refine va_get (D := g.1) (ci := 10) (v := .ref (q 43)) (C := R_Mod) (T := F_Mod) (N := 61) hx hb hts in_Mod hown hK hP 0 rfl rfl 43 (by decide) (hts _ wd_1293) (fun _ h9 => h9) rfl d_Mod_goOn_194 ?_
                      refine lv_iload hx hb d_Mod_goOn_197 (lv_at hl 3 rfl) ?_
                      refine lv_iload hx hb d_Mod_goOn_199 (lv_at hl 0 rfl) ?_
                      refine lv_iadd hx hb d_Mod_goOn_201 ?_
                      refine tw_ri (e2 := nI (128 * tt + k)) (nI_add _ _) ?_
                      refine va_iald hx hb hK hP 3 0 rfl rfl (vp_in_nI (by omega) (by decide)) d_Mod_goOn_202 ?_
                      refine tw_ri (e2 := kd9 (128 * tt + k)) (by rw [nI_clamp (by omega)]) ?_
                      refine lv_aload_n hx hb d_Mod_goOn_203 rfl (lv_at hl 6 rfl) ?_
                      refine lv_iload hx hb d_Mod_goOn_204 (lv_at hl 0 rfl) ?_
                      refine va_iald hx hb hK hP 4 0 rfl rfl (vp_in_nI (by omega) (by decide)) d_Mod_goOn_206 ?_
                      refine tw_ri (e2 := nw k) (by rw [nI_clamp (by omega)]) ?_
                      refine lv_icmp_eq (tgt := 237) hx hb d_Mod_goOn_207 (by decide) (fun h207 => ?_) (fun h207 => ?_)
                      · refine lv_iinc (k := 0) (v := nI (k + 1)) hx hb d_Mod_goOn_237 hl rfl ((nI_succ k).symm) (by decide) rfl (fun ls hl => ?_)
                        have hl : lv_has ls 10 [(7, .int (nI (k + 1))), (6, .int c9), (5, .int s9), (4, .int (nI (128 * tt))), (0, .ref h0), (1, .int (nI tt)), (2, .ref (q 47)), (3, .int (nI dd))] := hl
                        refine lv_goto (tgt := 186) hx hb d_Mod_goOn_240 (by decide) ?_
                        have hP : va_P g.1 classes [(h0, .inr (10, mob q rf n mm mb fa fp av ev wi mn tp tc sc nf fd me mp xn mt wh tq ag an ig)), ((q 41), aI g 600 dp), ((q 42), aZ g 600 iw), ((q 43), aI g 76800 kd9), ((q 47), aI g 128 nw)] H := hP.sub [0, 1, 2, 3, 4] rfl
                        have hD : va_D A [(h0, .inr (10, mob q rf n mm mb fa fp av ev wi mn tp tc sc nf fd me mp xn mt wh tq ag an ig)), ((q 41), aI g 600 dp), ((q 42), aZ g 600 iw), ((q 43), aI g 76800 kd9), ((q 47), aI g 128 nw)] := hD.sub [0, 1, 2, 3, 4] (by decide) rfl
                        exact ih186 _ (by omega) c9 (k + 1) kd9 ls _ _ rfl (by omega) hKD hCN (lv_sub hl [0, 1, 2, 3, 4, 5, 6, 7] rfl) hP hD hS
                      · refine lv_aload_n hx hb d_Mod_goOn_210 rfl (lv_at hl 4 rfl) ?_
                        refine va_get (D := g.1) (ci := 10) (v := .ref (q 43)) (C := R_Mod) (T := F_Mod) (N := 61) hx hb hts in_Mod hown hK hP 0 rfl rfl 43 (by decide) (hts _ wd_1293) (fun _ h9 => h9) rfl d_Mod_goOn_211 ?_
                        refine lv_iload hx hb d_Mod_goOn_214 (lv_at hl 3 rfl) ?_
                        refine lv_iload hx hb d_Mod_goOn_216 (lv_at hl 0 rfl) ?_
                        refine lv_iadd hx hb d_Mod_goOn_218 ?_
                        refine tw_ri (e2 := nI (128 * tt + k)) (nI_add _ _) ?_
                        refine va_iald hx hb hK hP 3 0 rfl rfl (vp_in_nI (by omega) (by decide)) d_Mod_goOn_219 ?_
                        refine tw_ri (e2 := kd9 (128 * tt + k)) (by rw [nI_clamp (by omega)]) ?_
                        refine lv_if_eq (tgt := 237) hx hb d_Mod_goOn_220 (by decide) (fun h220 => ?_) (fun h220 => ?_)
                        · refine lv_iinc (k := 0) (v := nI (k + 1)) hx hb d_Mod_goOn_237 hl rfl ((nI_succ k).symm) (by decide) rfl (fun ls hl => ?_)
                          have hl : lv_has ls 10 [(7, .int (nI (k + 1))), (6, .int c9), (5, .int s9), (4, .int (nI (128 * tt))), (0, .ref h0), (1, .int (nI tt)), (2, .ref (q 47)), (3, .int (nI dd))] := hl
                          refine lv_goto (tgt := 186) hx hb d_Mod_goOn_240 (by decide) ?_
                          have hP : va_P g.1 classes [(h0, .inr (10, mob q rf n mm mb fa fp av ev wi mn tp tc sc nf fd me mp xn mt wh tq ag an ig)), ((q 41), aI g 600 dp), ((q 42), aZ g 600 iw), ((q 43), aI g 76800 kd9), ((q 47), aI g 128 nw)] H := hP.sub [0, 1, 2, 3, 4] rfl
                          have hD : va_D A [(h0, .inr (10, mob q rf n mm mb fa fp av ev wi mn tp tc sc nf fd me mp xn mt wh tq ag an ig)), ((q 41), aI g 600 dp), ((q 42), aZ g 600 iw), ((q 43), aI g 76800 kd9), ((q 47), aI g 128 nw)] := hD.sub [0, 1, 2, 3, 4] (by decide) rfl
                          exact ih186 _ (by omega) c9 (k + 1) kd9 ls _ _ rfl (by omega) hKD hCN (lv_sub hl [0, 1, 2, 3, 4, 5, 6, 7] rfl) hP hD hS
                        · refine lv_aload_n hx hb d_Mod_goOn_223 rfl (lv_at hl 4 rfl) ?_
                          refine va_get (D := g.1) (ci := 10) (v := .ref (q 43)) (C := R_Mod) (T := F_Mod) (N := 61) hx hb hts in_Mod hown hK hP 0 rfl rfl 43 (by decide) (hts _ wd_1293) (fun _ h9 => h9) rfl d_Mod_goOn_224 ?_
                          refine lv_iload hx hb d_Mod_goOn_227 (lv_at hl 3 rfl) ?_
                          refine lv_iload hx hb d_Mod_goOn_229 (lv_at hl 0 rfl) ?_
                          refine lv_iadd hx hb d_Mod_goOn_231 ?_
                          refine tw_ri (e2 := nI (128 * tt + k)) (nI_add _ _) ?_
                          refine lv_iconst (v := 0) hx hb d_Mod_goOn_232 (by decide) ?_
                          refine va_iast hx hb hK hP hD hS 3 0 rfl rfl (vp_in_nI (by omega) (by decide)) d_Mod_goOn_233 (fun H locs hP hD hS => ?_)
                          have hP : va_P g.1 classes [(h0, .inr (10, mob q rf n mm mb fa fp av ev wi mn tp tc sc nf fd me mp xn mt wh tq ag an ig)), ((q 41), aI g 600 dp), ((q 42), aZ g 600 iw), ((q 43), aI g 76800 (upd kd9 (nI (128 * tt + k)).toNatClampNeg 0)), ((q 47), aI g 128 nw)] H := hP
                          have hD : va_D A [(h0, .inr (10, mob q rf n mm mb fa fp av ev wi mn tp tc sc nf fd me mp xn mt wh tq ag an ig)), ((q 41), aI g 600 dp), ((q 42), aZ g 600 iw), ((q 43), aI g 76800 (upd kd9 (nI (128 * tt + k)).toNatClampNeg 0)), ((q 47), aI g 128 nw)] := hD
                          have e9 : upd kd9 (nI (128 * tt + k)).toNatClampNeg 0 = upd kd9 (128 * tt + k) 0 := by rw [nI_clamp (by omega)]
                          rw [e9] at hP hD
                          refine lv_iconst (v := 1) hx hb d_Mod_goOn_234 (by decide) ?_
                          refine lv_istore hx hb d_Mod_goOn_235 hl (by decide) rfl (fun ls hl => ?_)
                          have hl : lv_has ls 10 [(6, .int 1), (7, .int (nI k)), (5, .int s9), (4, .int (nI (128 * tt))), (0, .ref h0), (1, .int (nI tt)), (2, .ref (q 47)), (3, .int (nI dd))] := hl
                          refine lv_iinc (k := 1) (v := nI (k + 1)) hx hb d_Mod_goOn_237 hl rfl ((nI_succ k).symm) (by decide) rfl (fun ls hl => ?_)
                          have hl : lv_has ls 10 [(7, .int (nI (k + 1))), (6, .int 1), (5, .int s9), (4, .int (nI (128 * tt))), (0, .ref h0), (1, .int (nI tt)), (2, .ref (q 47)), (3, .int (nI dd))] := hl
                          refine lv_goto (tgt := 186) hx hb d_Mod_goOn_240 (by decide) ?_
                          have hP : va_P g.1 classes [(h0, .inr (10, mob q rf n mm mb fa fp av ev wi mn tp tc sc nf fd me mp xn mt wh tq ag an ig)), ((q 41), aI g 600 dp), ((q 42), aZ g 600 iw), ((q 43), aI g 76800 (upd kd9 (128 * tt + k) 0)), ((q 47), aI g 128 nw)] H := hP.sub [0, 1, 2, 3, 4] rfl
                          have hD : va_D A [(h0, .inr (10, mob q rf n mm mb fa fp av ev wi mn tp tc sc nf fd me mp xn mt wh tq ag an ig)), ((q 41), aI g 600 dp), ((q 42), aZ g 600 iw), ((q 43), aI g 76800 (upd kd9 (128 * tt + k) 0)), ((q 47), aI g 128 nw)] := hD.sub [0, 1, 2, 3, 4] (by decide) rfl
                          exact ih186 _ (by omega) 1 (k + 1) (upd kd9 (128 * tt + k) 0) ls _ _ rfl (by omega) (hKD.put (fun _ => by decide)) (nk_dn hCN (by omega) (by omega) h220) (lv_sub hl [0, 1, 2, 3, 4, 5, 6, 7] rfl) hP hD hS
                exact loop186 _ 0 0 kd ls _ _ rfl (Nat.zero_le _) hFR.2.2 (Or.inl ⟨rfl, rfl⟩) (hl) hP hD hS
              · exact absurd h166 h116
            · have h122 := tn_nle h122 (by omega) (by omega)
              refine lv_aload_n hx hb d_Mod_goOn_125 rfl (lv_at hl 3 rfl) ?_
              refine va_get (D := g.1) (ci := 10) (v := .ref (q 43)) (C := R_Mod) (T := F_Mod) (N := 61) hx hb hts in_Mod hown hK hP 0 rfl rfl 43 (by decide) (hts _ wd_1293) (fun _ h9 => h9) rfl d_Mod_goOn_126 ?_
              refine lv_iload hx hb d_Mod_goOn_129 (lv_at hl 2 rfl) ?_
              refine lv_bipush (v := 64) hx hb d_Mod_goOn_131 (by decide) ?_
              refine lv_iadd hx hb d_Mod_goOn_133 ?_
              refine tw_ri (e2 := nI (128 * tt + 64)) (nI_add _ 64) ?_
              refine lv_iload hx hb d_Mod_goOn_134 (lv_at hl 0 rfl) ?_
              refine lv_iadd hx hb d_Mod_goOn_136 ?_
              refine tw_ri (e2 := nI (128 * tt + 64 + k)) (nI_add _ _) ?_
              refine va_iald hx hb hK hP 3 0 rfl rfl (vp_in_nI (by omega) (by decide)) d_Mod_goOn_137 ?_
              obtain ⟨x13, ex13⟩ : ∃ z : Int32, kd ((nI (128 * tt + 64 + k)).toNatClampNeg) = z := ⟨_, rfl⟩
              refine tw_ri (e2 := x13) ex13 ?_
              refine lv_aload_n hx hb d_Mod_goOn_138 rfl (lv_at hl 3 rfl) ?_
              refine va_get (D := g.1) (ci := 10) (v := .ref (q 47)) (C := R_Mod) (T := F_Mod) (N := 61) hx hb hts in_Mod hown hK hP 0 rfl rfl 47 (by decide) (hts _ wd_1297) (fun _ h9 => h9) rfl d_Mod_goOn_139 ?_
              refine lv_bipush (v := 64) hx hb d_Mod_goOn_142 (by decide) ?_
              refine lv_iload hx hb d_Mod_goOn_144 (lv_at hl 0 rfl) ?_
              refine lv_iadd hx hb d_Mod_goOn_146 ?_
              refine tw_ri (e2 := nI (64 + k)) (nI_add 64 k) ?_
              refine va_iald hx hb hK hP 4 0 rfl rfl (vp_in_nI (by omega) (by decide)) d_Mod_goOn_147 ?_
              obtain ⟨x14, ex14⟩ : ∃ z : Int32, nw ((nI (64 + k)).toNatClampNeg) = z := ⟨_, rfl⟩
              refine tw_ri (e2 := x14) ex14 ?_
              refine lv_icmp_ne (tgt := 155) hx hb d_Mod_goOn_148 (by decide) (fun h148 => ?_) (fun h148 => ?_)
              · refine lv_iconst (v := 0) hx hb d_Mod_goOn_155 (by decide) ?_
                refine lv_istore hx hb d_Mod_goOn_156 hl (by decide) rfl (fun ls hl => ?_)
                have hl : lv_has ls 10 [(5, .int 0), (6, .int (nI k)), (4, .int (nI (128 * tt))), (0, .ref h0), (1, .int (nI tt)), (2, .ref (q 47)), (3, .int (nI dd))] := hl
                refine lv_iinc (k := 1) (v := nI (k + 1)) hx hb d_Mod_goOn_158 hl rfl ((nI_succ k).symm) (by decide) rfl (fun ls hl => ?_)
                have hl : lv_has ls 10 [(6, .int (nI (k + 1))), (5, .int 0), (4, .int (nI (128 * tt))), (0, .ref h0), (1, .int (nI tt)), (2, .ref (q 47)), (3, .int (nI dd))] := hl
                refine lv_goto (tgt := 114) hx hb d_Mod_goOn_161 (by decide) ?_
                have hP : va_P g.1 classes [(h0, .inr (10, mob q rf n mm mb fa fp av ev wi mn tp tc sc nf fd me mp xn mt wh tq ag an ig)), ((q 41), aI g 600 dp), ((q 42), aZ g 600 iw), ((q 43), aI g 76800 kd), ((q 47), aI g 128 nw)] H := hP.sub [0, 1, 2, 3, 4] rfl
                have hD : va_D A [(h0, .inr (10, mob q rf n mm mb fa fp av ev wi mn tp tc sc nf fd me mp xn mt wh tq ag an ig)), ((q 41), aI g 600 dp), ((q 42), aZ g 600 iw), ((q 43), aI g 76800 kd), ((q 47), aI g 128 nw)] := hD.sub [0, 1, 2, 3, 4] (by decide) rfl
                exact ih _ (by omega) 0 (k + 1) ls _ _ rfl (by omega) (lv_sub hl [0, 1, 2, 3, 4, 5, 6] rfl) hP hD hS
              · refine lv_iconst (v := 1) hx hb d_Mod_goOn_151 (by decide) ?_
                refine lv_goto (tgt := 156) hx hb d_Mod_goOn_152 (by decide) ?_
                refine lv_istore hx hb d_Mod_goOn_156 hl (by decide) rfl (fun ls hl => ?_)
                have hl : lv_has ls 10 [(5, .int 1), (6, .int (nI k)), (4, .int (nI (128 * tt))), (0, .ref h0), (1, .int (nI tt)), (2, .ref (q 47)), (3, .int (nI dd))] := hl
                refine lv_iinc (k := 1) (v := nI (k + 1)) hx hb d_Mod_goOn_158 hl rfl ((nI_succ k).symm) (by decide) rfl (fun ls hl => ?_)
                have hl : lv_has ls 10 [(6, .int (nI (k + 1))), (5, .int 1), (4, .int (nI (128 * tt))), (0, .ref h0), (1, .int (nI tt)), (2, .ref (q 47)), (3, .int (nI dd))] := hl
                refine lv_goto (tgt := 114) hx hb d_Mod_goOn_161 (by decide) ?_
                have hP : va_P g.1 classes [(h0, .inr (10, mob q rf n mm mb fa fp av ev wi mn tp tc sc nf fd me mp xn mt wh tq ag an ig)), ((q 41), aI g 600 dp), ((q 42), aZ g 600 iw), ((q 43), aI g 76800 kd), ((q 47), aI g 128 nw)] H := hP.sub [0, 1, 2, 3, 4] rfl
                have hD : va_D A [(h0, .inr (10, mob q rf n mm mb fa fp av ev wi mn tp tc sc nf fd me mp xn mt wh tq ag an ig)), ((q 41), aI g 600 dp), ((q 42), aZ g 600 iw), ((q 43), aI g 76800 kd), ((q 47), aI g 128 nw)] := hD.sub [0, 1, 2, 3, 4] (by decide) rfl
                exact ih _ (by omega) 1 (k + 1) ls _ _ rfl (by omega) (lv_sub hl [0, 1, 2, 3, 4, 5, 6] rfl) hP hD hS
      exact loop114 _ 1 0 ls _ _ rfl (Nat.zero_le _) (hl) hP hD hS
  · have hdm := fr_none hFR ht6 h13
    refine lv_iconst (v := 0) hx hb d_Mod_goOn_16 (by decide) ?_
    refine lv_istore hx hb d_Mod_goOn_17 hl (by decide) rfl (fun ls hl => ?_)
    have hl : lv_has ls 10 [(5, .int 0), (4, .int (nI (128 * tt))), (0, .ref h0), (1, .int (nI tt)), (2, .ref (q 47)), (3, .int (nI dd))] := hl
    have loop19 : ∀ (kq : Nat) (k : Nat) (kd9 : Nat → Int32) (ls : Array Slot) (H : Heap) (locs : List Loc) , 64 - k = kq → (hk4 : k ≤ 64) → (hKD : KD3 kd9) → (hNk : NK kd9 ≤ NK kd + k) → lv_has ls 10 [(5, .int (nI k)), (4, .int (nI (128 * tt))), (0, .ref h0), (1, .int (nI tt)), (2, .ref (q 47)), (3, .int (nI dd))] → va_P g.1 classes [(h0, .inr (10, mob q rf n mm mb fa fp av ev wi mn tp tc sc nf fd me mp xn mt wh tq ag an ig)), ((q 41), aI g 600 dp), ((q 42), aZ g 600 iw), ((q 43), aI g 76800 kd9), ((q 47), aI g 128 nw)] H → va_D A [(h0, .inr (10, mob q rf n mm mb fa fp av ev wi mn tp tc sc nf fd me mp xn mt wh tq ag an ig)), ((q 41), aI g 600 dp), ((q 42), aZ g 600 iw), ((q 43), aI g 76800 kd9), ((q 47), aI g 128 nw)] → va_S A s.heap H locs → W p l e ({ frames := 1, cells := 0, slots := 0, locals := 22 }) s m [.ref h0, .int (nI tt), .ref (q 47), .int (nI dd)].toArray below meth c H locs 0 0 (MQ below (tw_Qv g (fun (u : Int32 × Int32 × (Nat → Int32) × (Nat → Int32) × (Nat → Int32)) => (u.1 = 0 → fa = 0) ∧ (FRG u.2.2.1 u.2.2.2.1 u.2.2.2.2) ∧ (MU u.2.2.1 u.2.2.2.1 u.2.2.2.2 ≤ MU dp iw kd)) (fun u : Int32 × Int32 × (Nat → Int32) × (Nat → Int32) × (Nat → Int32) => [(h0, .inr (10, mob q rf n mm mb u.1 u.2.1 av ev wi mn tp tc sc nf fd me mp xn mt wh tq ag an ig)), ((q 41), aI g 600 u.2.2.1), ((q 42), aZ g 600 u.2.2.2.1), ((q 43), aI g 76800 u.2.2.2.2), ((q 47), aI g 128 nw)]) A) [.ref h0, .int (nI tt), .ref (q 47), .int (nI dd)].toArray s 0 0 A) (F0 m 19 ls []) := by
      intro kq
      induction kq using Nat.strongRecOn with
      | _ kq ih =>
        intro k kd9 ls H locs hk hk4 hKD hNk hl hP hD hS
        refine lv_iload hx hb d_Mod_goOn_19 (lv_at hl 0 rfl) ?_
        refine lv_bipush (v := 64) hx hb d_Mod_goOn_21 (by decide) ?_
        refine lv_icmp_ge (tgt := 79) hx hb d_Mod_goOn_23 (by decide) (fun h23 => ?_) (fun h23 => ?_)
        · have h23 := tn_le (a := 64) h23 (by decide) (by omega)
          refine lv_aload_n hx hb d_Mod_goOn_79 rfl (lv_at hl 2 rfl) ?_
          refine va_get (D := g.1) (ci := 10) (v := .ref (q 41)) (C := R_Mod) (T := F_Mod) (N := 61) hx hb hts in_Mod hown hK hP 0 rfl rfl 41 (by decide) (hts _ wd_1291) (fun _ h9 => h9) rfl d_Mod_goOn_80 ?_
          refine lv_iload_n hx hb d_Mod_goOn_83 rfl (lv_at hl 3 rfl) ?_
          refine lv_iload_n hx hb d_Mod_goOn_84 rfl (lv_at hl 5 rfl) ?_
          refine va_iast hx hb hK hP hD hS 1 0 rfl rfl (vp_in_nI (by omega) (by decide)) d_Mod_goOn_85 (fun H locs hP hD hS => ?_)
          have hP : va_P g.1 classes [(h0, .inr (10, mob q rf n mm mb fa fp av ev wi mn tp tc sc nf fd me mp xn mt wh tq ag an ig)), ((q 41), aI g 600 (upd dp (nI tt).toNatClampNeg (nI dd))), ((q 42), aZ g 600 iw), ((q 43), aI g 76800 kd9), ((q 47), aI g 128 nw)] H := hP
          have hD : va_D A [(h0, .inr (10, mob q rf n mm mb fa fp av ev wi mn tp tc sc nf fd me mp xn mt wh tq ag an ig)), ((q 41), aI g 600 (upd dp (nI tt).toNatClampNeg (nI dd))), ((q 42), aZ g 600 iw), ((q 43), aI g 76800 kd9), ((q 47), aI g 128 nw)] := hD
          have e9 : upd dp (nI tt).toNatClampNeg (nI dd) = upd dp tt (nI dd) := by rw [nI_clamp (by omega)]
          rw [e9] at hP hD
          refine lv_aload_n hx hb d_Mod_goOn_86 rfl (lv_at hl 2 rfl) ?_
          refine va_get (D := g.1) (ci := 10) (v := .ref (q 42)) (C := R_Mod) (T := F_Mod) (N := 61) hx hb hts in_Mod hown hK hP 0 rfl rfl 42 (by decide) (hts _ wd_1292) (fun _ h9 => h9) rfl d_Mod_goOn_87 ?_
          refine lv_iload_n hx hb d_Mod_goOn_90 rfl (lv_at hl 3 rfl) ?_
          refine lv_iconst (v := 1) hx hb d_Mod_goOn_91 (by decide) ?_
          refine va_zast hx hb hK hP hD hS 2 3 rfl rfl (vp_in_nI (by omega) (by decide)) d_Mod_goOn_92 (fun H locs hP hD hS => ?_)
          have hP : va_P g.1 classes [(h0, .inr (10, mob q rf n mm mb fa fp av ev wi mn tp tc sc nf fd me mp xn mt wh tq ag an ig)), ((q 41), aI g 600 (upd dp tt (nI dd))), ((q 42), aZ g 600 (upd iw (nI tt).toNatClampNeg (vp_nar .boolean 1))), ((q 43), aI g 76800 kd9), ((q 47), aI g 128 nw)] H := hP
          have hD : va_D A [(h0, .inr (10, mob q rf n mm mb fa fp av ev wi mn tp tc sc nf fd me mp xn mt wh tq ag an ig)), ((q 41), aI g 600 (upd dp tt (nI dd))), ((q 42), aZ g 600 (upd iw (nI tt).toNatClampNeg (vp_nar .boolean 1))), ((q 43), aI g 76800 kd9), ((q 47), aI g 128 nw)] := hD
          have e9 : upd iw (nI tt).toNatClampNeg (vp_nar .boolean 1) = upd iw tt 1 := by rw [nI_clamp (by omega)]; rfl
          rw [e9] at hP hD
          exact tw_vret E hS (fa, fp, upd dp tt (nI dd), upd iw tt 1, kd9) (⟨(fun h => h), (hFR.new hd64 hKD), (mu_new hdm ht6 (by first | omega | (dsimp only <;> omega)) hd64)⟩) hP hD d_Mod_goOn_93
        · have h23 := tn_nle (a := 64) h23 (by decide) (by omega)
          refine lv_aload_n hx hb d_Mod_goOn_26 rfl (lv_at hl 2 rfl) ?_
          refine va_get (D := g.1) (ci := 10) (v := .ref (q 43)) (C := R_Mod) (T := F_Mod) (N := 61) hx hb hts in_Mod hown hK hP 0 rfl rfl 43 (by decide) (hts _ wd_1293) (fun _ h9 => h9) rfl d_Mod_goOn_27 ?_
          refine lv_iload hx hb d_Mod_goOn_30 (lv_at hl 1 rfl) ?_
          refine lv_iload hx hb d_Mod_goOn_32 (lv_at hl 0 rfl) ?_
          refine lv_iadd hx hb d_Mod_goOn_34 ?_
          refine tw_ri (e2 := nI (128 * tt + k)) (nI_add _ _) ?_
          refine lv_aload_n hx hb d_Mod_goOn_35 rfl (lv_at hl 4 rfl) ?_
          refine lv_iload hx hb d_Mod_goOn_36 (lv_at hl 0 rfl) ?_
          refine va_iald hx hb hK hP 4 0 rfl rfl (vp_in_nI (by omega) (by decide)) d_Mod_goOn_38 ?_
          refine tw_ri (e2 := nw k) (by rw [nI_clamp (by omega)]) ?_
          refine va_iast hx hb hK hP hD hS 3 0 rfl rfl (vp_in_nI (by omega) (by decide)) d_Mod_goOn_39 (fun H locs hP hD hS => ?_)
          have hP : va_P g.1 classes [(h0, .inr (10, mob q rf n mm mb fa fp av ev wi mn tp tc sc nf fd me mp xn mt wh tq ag an ig)), ((q 41), aI g 600 dp), ((q 42), aZ g 600 iw), ((q 43), aI g 76800 (upd kd9 (nI (128 * tt + k)).toNatClampNeg (nw k))), ((q 47), aI g 128 nw)] H := hP
          have hD : va_D A [(h0, .inr (10, mob q rf n mm mb fa fp av ev wi mn tp tc sc nf fd me mp xn mt wh tq ag an ig)), ((q 41), aI g 600 dp), ((q 42), aZ g 600 iw), ((q 43), aI g 76800 (upd kd9 (nI (128 * tt + k)).toNatClampNeg (nw k))), ((q 47), aI g 128 nw)] := hD
          have e9 : upd kd9 (nI (128 * tt + k)).toNatClampNeg (nw k) = upd kd9 (128 * tt + k) (nw k) := by rw [nI_clamp (by omega)]
          rw [e9] at hP hD
          refine lv_aload_n hx hb d_Mod_goOn_40 rfl (lv_at hl 2 rfl) ?_
          refine va_get (D := g.1) (ci := 10) (v := .ref (q 43)) (C := R_Mod) (T := F_Mod) (N := 61) hx hb hts in_Mod hown hK hP 0 rfl rfl 43 (by decide) (hts _ wd_1293) (fun _ h9 => h9) rfl d_Mod_goOn_41 ?_
          refine lv_iload hx hb d_Mod_goOn_44 (lv_at hl 1 rfl) ?_
          refine lv_bipush (v := 64) hx hb d_Mod_goOn_46 (by decide) ?_
          refine lv_iadd hx hb d_Mod_goOn_48 ?_
          refine tw_ri (e2 := nI (128 * tt + 64)) (nI_add _ 64) ?_
          refine lv_iload hx hb d_Mod_goOn_49 (lv_at hl 0 rfl) ?_
          refine lv_iadd hx hb d_Mod_goOn_51 ?_
          refine tw_ri (e2 := nI (128 * tt + 64 + k)) (nI_add _ _) ?_
          refine lv_iload hx hb d_Mod_goOn_52 (lv_at hl 0 rfl) ?_
          refine lv_iload_n hx hb d_Mod_goOn_54 rfl (lv_at hl 5 rfl) ?_
          refine lv_icmp_ge (tgt := 71) hx hb d_Mod_goOn_55 (by decide) (fun h55 => ?_) (fun h55 => ?_)
          · refine lv_iconst (v := 0) hx hb d_Mod_goOn_71 (by decide) ?_
            refine va_iast hx hb hK hP hD hS 3 0 rfl rfl (vp_in_nI (by omega) (by decide)) d_Mod_goOn_72 (fun H locs hP hD hS => ?_)
            have hP : va_P g.1 classes [(h0, .inr (10, mob q rf n mm mb fa fp av ev wi mn tp tc sc nf fd me mp xn mt wh tq ag an ig)), ((q 41), aI g 600 dp), ((q 42), aZ g 600 iw), ((q 43), aI g 76800 (upd (upd kd9 (128 * tt + k) (nw k)) (nI (128 * tt + 64 + k)).toNatClampNeg 0)), ((q 47), aI g 128 nw)] H := hP
            have hD : va_D A [(h0, .inr (10, mob q rf n mm mb fa fp av ev wi mn tp tc sc nf fd me mp xn mt wh tq ag an ig)), ((q 41), aI g 600 dp), ((q 42), aZ g 600 iw), ((q 43), aI g 76800 (upd (upd kd9 (128 * tt + k) (nw k)) (nI (128 * tt + 64 + k)).toNatClampNeg 0)), ((q 47), aI g 128 nw)] := hD
            have e9 : upd (upd kd9 (128 * tt + k) (nw k)) (nI (128 * tt + 64 + k)).toNatClampNeg 0 = upd (upd kd9 (128 * tt + k) (nw k)) (128 * tt + 64 + k) 0 := by rw [nI_clamp (by omega)]
            rw [e9] at hP hD
            refine lv_iinc (k := 0) (v := nI (k + 1)) hx hb d_Mod_goOn_73 hl rfl ((nI_succ k).symm) (by decide) rfl (fun ls hl => ?_)
            have hl : lv_has ls 10 [(5, .int (nI (k + 1))), (4, .int (nI (128 * tt))), (0, .ref h0), (1, .int (nI tt)), (2, .ref (q 47)), (3, .int (nI dd))] := hl
            refine lv_goto (tgt := 19) hx hb d_Mod_goOn_76 (by decide) ?_
            have hP : va_P g.1 classes [(h0, .inr (10, mob q rf n mm mb fa fp av ev wi mn tp tc sc nf fd me mp xn mt wh tq ag an ig)), ((q 41), aI g 600 dp), ((q 42), aZ g 600 iw), ((q 43), aI g 76800 (upd (upd kd9 (128 * tt + k) (nw k)) (128 * tt + 64 + k) 0)), ((q 47), aI g 128 nw)] H := hP.sub [0, 1, 2, 3, 4] rfl
            have hD : va_D A [(h0, .inr (10, mob q rf n mm mb fa fp av ev wi mn tp tc sc nf fd me mp xn mt wh tq ag an ig)), ((q 41), aI g 600 dp), ((q 42), aZ g 600 iw), ((q 43), aI g 76800 (upd (upd kd9 (128 * tt + k) (nw k)) (128 * tt + 64 + k) 0)), ((q 47), aI g 128 nw)] := hD.sub [0, 1, 2, 3, 4] (by decide) rfl
            exact ih _ (by omega) (k + 1) (upd (upd kd9 (128 * tt + k) (nw k)) (128 * tt + 64 + k) 0) ls _ _ rfl (by omega) ((hKD.put (fun h9 => by have e0 : k = 0 := (by omega); rw [e0]; exact hr3)).put (fun _ => by decide)) (nk_two hNk (by omega) (by omega) (by omega)) (lv_sub hl [0, 1, 2, 3, 4, 5] rfl) hP hD hS
          · have h55 := tn_nle h55 (by omega) (by omega)
            refine lv_aload_n hx hb d_Mod_goOn_58 rfl (lv_at hl 2 rfl) ?_
            refine va_get (D := g.1) (ci := 10) (v := .ref (q 47)) (C := R_Mod) (T := F_Mod) (N := 61) hx hb hts in_Mod hown hK hP 0 rfl rfl 47 (by decide) (hts _ wd_1297) (fun _ h9 => h9) rfl d_Mod_goOn_59 ?_
            refine lv_bipush (v := 64) hx hb d_Mod_goOn_62 (by decide) ?_
            refine lv_iload hx hb d_Mod_goOn_64 (lv_at hl 0 rfl) ?_
            refine lv_iadd hx hb d_Mod_goOn_66 ?_
            refine tw_ri (e2 := nI (64 + k)) (nI_add 64 k) ?_
            refine va_iald hx hb hK hP 4 0 rfl rfl (vp_in_nI (by omega) (by decide)) d_Mod_goOn_67 ?_
            refine tw_ri (e2 := nw (64 + k)) (by rw [nI_clamp (by omega)]) ?_
            refine lv_goto (tgt := 72) hx hb d_Mod_goOn_68 (by decide) ?_
            refine va_iast hx hb hK hP hD hS 3 0 rfl rfl (vp_in_nI (by omega) (by decide)) d_Mod_goOn_72 (fun H locs hP hD hS => ?_)
            have hP : va_P g.1 classes [(h0, .inr (10, mob q rf n mm mb fa fp av ev wi mn tp tc sc nf fd me mp xn mt wh tq ag an ig)), ((q 41), aI g 600 dp), ((q 42), aZ g 600 iw), ((q 43), aI g 76800 (upd (upd kd9 (128 * tt + k) (nw k)) (nI (128 * tt + 64 + k)).toNatClampNeg (nw (64 + k)))), ((q 47), aI g 128 nw)] H := hP
            have hD : va_D A [(h0, .inr (10, mob q rf n mm mb fa fp av ev wi mn tp tc sc nf fd me mp xn mt wh tq ag an ig)), ((q 41), aI g 600 dp), ((q 42), aZ g 600 iw), ((q 43), aI g 76800 (upd (upd kd9 (128 * tt + k) (nw k)) (nI (128 * tt + 64 + k)).toNatClampNeg (nw (64 + k)))), ((q 47), aI g 128 nw)] := hD
            have e9 : upd (upd kd9 (128 * tt + k) (nw k)) (nI (128 * tt + 64 + k)).toNatClampNeg (nw (64 + k)) = upd (upd kd9 (128 * tt + k) (nw k)) (128 * tt + 64 + k) (nw (64 + k)) := by rw [nI_clamp (by omega)]
            rw [e9] at hP hD
            refine lv_iinc (k := 0) (v := nI (k + 1)) hx hb d_Mod_goOn_73 hl rfl ((nI_succ k).symm) (by decide) rfl (fun ls hl => ?_)
            have hl : lv_has ls 10 [(5, .int (nI (k + 1))), (4, .int (nI (128 * tt))), (0, .ref h0), (1, .int (nI tt)), (2, .ref (q 47)), (3, .int (nI dd))] := hl
            refine lv_goto (tgt := 19) hx hb d_Mod_goOn_76 (by decide) ?_
            have hP : va_P g.1 classes [(h0, .inr (10, mob q rf n mm mb fa fp av ev wi mn tp tc sc nf fd me mp xn mt wh tq ag an ig)), ((q 41), aI g 600 dp), ((q 42), aZ g 600 iw), ((q 43), aI g 76800 (upd (upd kd9 (128 * tt + k) (nw k)) (128 * tt + 64 + k) (nw (64 + k)))), ((q 47), aI g 128 nw)] H := hP.sub [0, 1, 2, 3, 4] rfl
            have hD : va_D A [(h0, .inr (10, mob q rf n mm mb fa fp av ev wi mn tp tc sc nf fd me mp xn mt wh tq ag an ig)), ((q 41), aI g 600 dp), ((q 42), aZ g 600 iw), ((q 43), aI g 76800 (upd (upd kd9 (128 * tt + k) (nw k)) (128 * tt + 64 + k) (nw (64 + k)))), ((q 47), aI g 128 nw)] := hD.sub [0, 1, 2, 3, 4] (by decide) rfl
            exact ih _ (by omega) (k + 1) (upd (upd kd9 (128 * tt + k) (nw k)) (128 * tt + 64 + k) (nw (64 + k))) ls _ _ rfl (by omega) ((hKD.put (fun h9 => by have e0 : k = 0 := (by omega); rw [e0]; exact hr3)).put (fun h9 => by have e0 : k = 0 := (by omega); rw [e0]; exact hn3)) (nk_two hNk (by omega) (by omega) (by omega)) (lv_sub hl [0, 1, 2, 3, 4, 5] rfl) hP hD hS
    exact loop19 _ 0 kd ls _ _ rfl (Nat.zero_le _) hFR.2.2 (by omega) (hl) hP hD hS
set_option maxHeartbeats 4000000 in
set_option maxRecDepth 100000 in
theorem g_Mod_goOnB (l : Launch) (g : tw_G) (sz : Nat) (h0 : Nat) (q : Nat → Nat) (rf : Int32) (n : Nat) (mm : Int32) (mb : Int32) (av : Nat) (ev : Nat) (wi : Int32) (mn : Nat) (tp : Int32) (tc : Int32) (sc : Int32) (nf : Nat) (fd : Nat) (me : Nat) (mp : Int32) (xn : Nat) (mt : Nat) (wh : Nat) (tq : Nat) (ag : Nat) (an : Int32) (ig : Int32) (nw : Nat → Int32) (bf : Nat → Int32) (fa : Int32) (fp : Int32) (dp : Nat → Int32) (iw : Nat → Int32) (kd : Nat → Int32) (tt : Nat) (dd : Nat) (ht6 : tt < 600) (hd64 : dd ≤ 64) (hFR : FRG dp iw kd) (hr3 : ¬ bf 0 = 3) (hn3 : ¬ nw 64 = 3) : Met l y_Mod_goOn [.code y_Mod_goOn b_Mod_goOn 10 none] ({ frames := 1, cells := 0, slots := 0, locals := 22 }) (tw_P g [.ref h0, .int (nI tt), .ref (q 48), .int (nI dd)] [(h0, .inr (10, mob q rf n mm mb fa fp av ev wi mn tp tc sc nf fd me mp xn mt wh tq ag an ig)), ((q 41), aI g 600 dp), ((q 42), aZ g 600 iw), ((q 43), aI g 76800 kd), ((q 47), aI g 128 nw), ((q 48), aI g 64 bf)] sz) (tw_Qv g (fun (u : Int32 × Int32 × (Nat → Int32) × (Nat → Int32) × (Nat → Int32)) => (u.1 = 0 → fa = 0) ∧ (FRG u.2.2.1 u.2.2.2.1 u.2.2.2.2) ∧ (MU u.2.2.1 u.2.2.2.1 u.2.2.2.2 ≤ MU dp iw kd)) (fun u : Int32 × Int32 × (Nat → Int32) × (Nat → Int32) × (Nat → Int32) => [(h0, .inr (10, mob q rf n mm mb u.1 u.2.1 av ev wi mn tp tc sc nf fd me mp xn mt wh tq ag an ig)), ((q 41), aI g 600 u.2.2.1), ((q 42), aZ g 600 u.2.2.2.1), ((q 43), aI g 76800 u.2.2.2.2), ((q 47), aI g 128 nw), ((q 48), aI g 64 bf)]) (va_A [(h0, .inr (10, mob q rf n mm mb fa fp av ev wi mn tp tc sc nf fd me mp xn mt wh tq ag an ig)), ((q 41), aI g 600 dp), ((q 42), aZ g 600 iw), ((q 43), aI g 76800 kd), ((q 47), aI g 128 nw), ((q 48), aI g 64 bf)] sz)) 0 0 (va_A [(h0, .inr (10, mob q rf n mm mb fa fp av ev wi mn tp tc sc nf fd me mp xn mt wh tq ag an ig)), ((q 41), aI g 600 dp), ((q 42), aZ g 600 iw), ((q 43), aI g 76800 kd), ((q 47), aI g 128 nw), ((q 48), aI g 64 bf)] sz) := by
  refine tw_metW (l := l) (g := g) (y := y_Mod_goOn) (cc := b_Mod_goOn) (maxL := 10) (ret := none) (rm := { frames := 1, cells := 0, slots := 0, locals := 22 }) (mc := 0) (ms := 0) (av := [.ref h0, .int (nI tt), .ref (q 48), .int (nI dd)]) (ws := [(h0, .inr (10, mob q rf n mm mb fa fp av ev wi mn tp tc sc nf fd me mp xn mt wh tq ag an ig)), ((q 41), aI g 600 dp), ((q 42), aZ g 600 iw), ((q 43), aI g 76800 kd), ((q 47), aI g 128 nw), ((q 48), aI g 64 bf)]) (sz := sz) (Qc := fun A => (tw_Qv g (fun (u : Int32 × Int32 × (Nat → Int32) × (Nat → Int32) × (Nat → Int32)) => (u.1 = 0 → fa = 0) ∧ (FRG u.2.2.1 u.2.2.2.1 u.2.2.2.2) ∧ (MU u.2.2.1 u.2.2.2.1 u.2.2.2.2 ≤ MU dp iw kd)) (fun u : Int32 × Int32 × (Nat → Int32) × (Nat → Int32) × (Nat → Int32) => [(h0, .inr (10, mob q rf n mm mb u.1 u.2.1 av ev wi mn tp tc sc nf fd me mp xn mt wh tq ag an ig)), ((q 41), aI g 600 u.2.2.1), ((q 42), aZ g 600 u.2.2.2.1), ((q 43), aI g 76800 u.2.2.2.2), ((q 47), aI g 128 nw), ((q 48), aI g 64 bf)]) A)) (by decide) (Nat.le_of_ble_eq_true rfl) ?_
  intro p e s m below meth c ls H A E hB hK hZ hP hD hS hA hl
  obtain ⟨hx, hb, hml, hr, hown, hts, hlocks, hin⟩ := id E
  have hl : lv_has ls 10 [(0, .ref h0), (1, .int (nI tt)), (2, .ref (q 48)), (3, .int (nI dd))] := hl
  refine lv_sipush (v := 128) hx hb d_Mod_goOn_0 (by decide) ?_
  refine lv_iload_n hx hb d_Mod_goOn_3 rfl (lv_at hl 1 rfl) ?_
  refine lv_imul hx hb d_Mod_goOn_4 ?_
  refine tw_ri (e2 := nI (128 * tt)) (pk_mul 128 tt) ?_
  refine lv_istore hx hb d_Mod_goOn_5 hl (by decide) rfl (fun ls hl => ?_)
  have hl : lv_has ls 10 [(4, .int (nI (128 * tt))), (0, .ref h0), (1, .int (nI tt)), (2, .ref (q 48)), (3, .int (nI dd))] := hl
  refine lv_aload_n hx hb d_Mod_goOn_7 rfl (lv_at hl 1 rfl) ?_
  refine va_get (D := g.1) (ci := 10) (v := .ref (q 41)) (C := R_Mod) (T := F_Mod) (N := 61) hx hb hts in_Mod hown hK hP 0 rfl rfl 41 (by decide) (hts _ wd_1291) (fun _ h9 => h9) rfl d_Mod_goOn_8 ?_
  refine lv_iload_n hx hb d_Mod_goOn_11 rfl (lv_at hl 2 rfl) ?_
  refine va_iald hx hb hK hP 1 0 rfl rfl (vp_in_nI (by omega) (by decide)) d_Mod_goOn_12 ?_
  refine tw_ri (e2 := dp tt) (by rw [nI_clamp (by omega)]) ?_
  refine lv_if_ge (tgt := 94) hx hb d_Mod_goOn_13 (by decide) (fun h13 => ?_) (fun h13 => ?_)
  · refine lv_aload_n hx hb d_Mod_goOn_94 rfl (lv_at hl 1 rfl) ?_
    refine va_get (D := g.1) (ci := 10) (v := .ref (q 41)) (C := R_Mod) (T := F_Mod) (N := 61) hx hb hts in_Mod hown hK hP 0 rfl rfl 41 (by decide) (hts _ wd_1291) (fun _ h9 => h9) rfl d_Mod_goOn_95 ?_
    refine lv_iload_n hx hb d_Mod_goOn_98 rfl (lv_at hl 2 rfl) ?_
    refine va_iald hx hb hK hP 1 0 rfl rfl (vp_in_nI (by omega) (by decide)) d_Mod_goOn_99 ?_
    refine tw_ri (e2 := dp tt) (by rw [nI_clamp (by omega)]) ?_
    refine lv_iload_n hx hb d_Mod_goOn_100 rfl (lv_at hl 4 rfl) ?_
    refine lv_icmp_ne (tgt := 108) hx hb d_Mod_goOn_101 (by decide) (fun h101 => ?_) (fun h101 => ?_)
    · refine lv_iconst (v := 0) hx hb d_Mod_goOn_108 (by decide) ?_
      refine lv_istore hx hb d_Mod_goOn_109 hl (by decide) rfl (fun ls hl => ?_)
      have hl : lv_has ls 10 [(5, .int 0), (4, .int (nI (128 * tt))), (0, .ref h0), (1, .int (nI tt)), (2, .ref (q 48)), (3, .int (nI dd))] := hl
      refine lv_iconst (v := 0) hx hb d_Mod_goOn_111 (by decide) ?_
      refine lv_istore hx hb d_Mod_goOn_112 hl (by decide) rfl (fun ls hl => ?_)
      have hl : lv_has ls 10 [(6, .int 0), (5, .int 0), (4, .int (nI (128 * tt))), (0, .ref h0), (1, .int (nI tt)), (2, .ref (q 48)), (3, .int (nI dd))] := hl
      have loop114 : ∀ (kq : Nat) (s9 : Int32) (k : Nat) (ls : Array Slot) (H : Heap) (locs : List Loc) , dd - k = kq → (hkd : k ≤ dd) → lv_has ls 10 [(6, .int (nI k)), (5, .int s9), (4, .int (nI (128 * tt))), (0, .ref h0), (1, .int (nI tt)), (2, .ref (q 48)), (3, .int (nI dd))] → va_P g.1 classes [(h0, .inr (10, mob q rf n mm mb fa fp av ev wi mn tp tc sc nf fd me mp xn mt wh tq ag an ig)), ((q 41), aI g 600 dp), ((q 42), aZ g 600 iw), ((q 43), aI g 76800 kd), ((q 47), aI g 128 nw), ((q 48), aI g 64 bf)] H → va_D A [(h0, .inr (10, mob q rf n mm mb fa fp av ev wi mn tp tc sc nf fd me mp xn mt wh tq ag an ig)), ((q 41), aI g 600 dp), ((q 42), aZ g 600 iw), ((q 43), aI g 76800 kd), ((q 47), aI g 128 nw), ((q 48), aI g 64 bf)] → va_S A s.heap H locs → W p l e ({ frames := 1, cells := 0, slots := 0, locals := 22 }) s m [.ref h0, .int (nI tt), .ref (q 48), .int (nI dd)].toArray below meth c H locs 0 0 (MQ below (tw_Qv g (fun (u : Int32 × Int32 × (Nat → Int32) × (Nat → Int32) × (Nat → Int32)) => (u.1 = 0 → fa = 0) ∧ (FRG u.2.2.1 u.2.2.2.1 u.2.2.2.2) ∧ (MU u.2.2.1 u.2.2.2.1 u.2.2.2.2 ≤ MU dp iw kd)) (fun u : Int32 × Int32 × (Nat → Int32) × (Nat → Int32) × (Nat → Int32) => [(h0, .inr (10, mob q rf n mm mb u.1 u.2.1 av ev wi mn tp tc sc nf fd me mp xn mt wh tq ag an ig)), ((q 41), aI g 600 u.2.2.1), ((q 42), aZ g 600 u.2.2.2.1), ((q 43), aI g 76800 u.2.2.2.2), ((q 47), aI g 128 nw), ((q 48), aI g 64 bf)]) A) [.ref h0, .int (nI tt), .ref (q 48), .int (nI dd)].toArray s 0 0 A) (F0 m 114 ls []) := by
        intro kq
        induction kq using Nat.strongRecOn with
        | _ kq ih =>
          intro s9 k ls H locs hk hkd hl hP hD hS
          refine lv_iload hx hb d_Mod_goOn_114 (lv_at hl 1 rfl) ?_
          refine lv_if_eq (tgt := 164) hx hb d_Mod_goOn_116 (by decide) (fun h116 => ?_) (fun h116 => ?_)
          · refine lv_iload hx hb d_Mod_goOn_164 (lv_at hl 1 rfl) ?_
            refine lv_if_ne (tgt := 180) hx hb d_Mod_goOn_166 (by decide) (fun h166 => ?_) (fun h166 => ?_)
            · exact absurd h116 h166
            · refine lv_aload_n hx hb d_Mod_goOn_169 rfl (lv_at hl 3 rfl) ?_
              refine lv_bipush (v := 25) hx hb d_Mod_goOn_170 (by decide) ?_
              refine lv_aload_n hx hb d_Mod_goOn_172 rfl (lv_at hl 3 rfl) ?_
              refine va_get (D := g.1) (ci := 10) (v := .int (nI wh)) (C := R_Mod) (T := F_Mod) (N := 61) hx hb hts in_Mod hown hK hP 0 rfl rfl 45 (by decide) (hts _ wd_1295) (fun _ h9 => h9) rfl d_Mod_goOn_173 ?_
              refine tw_wv (wr := [((q 41), aI g 600 dp), ((q 42), aZ g 600 iw), ((q 43), aI g 76800 kd), ((q 47), aI g 128 nw), ((q 48), aI g 64 bf)]) (tw_runV (ws := [(h0, .inr (10, mob q rf n mm mb fa fp av ev wi mn tp tc sc nf fd me mp xn mt wh tq ag an ig)), ((q 41), aI g 600 dp), ((q 42), aZ g 600 iw), ((q 43), aI g 76800 kd), ((q 47), aI g 128 nw), ((q 48), aI g 64 bf)]) (wc := [(h0, .inr (10, mob q rf n mm mb fa fp av ev wi mn tp tc sc nf fd me mp xn mt wh tq ag an ig))]) (As := [.int 25, .int (nI wh)]) (rest := []) E hB hK hZ (g_Mod_fail l g H.size h0 q rf n mm mb av ev wi mn tp tc sc nf fd me mp xn mt wh tq ag an ig fa fp 25 (nI wh) (by decide)) mc_Mod_fail mi_Mod_fail me_Mod_fail wd_1478 hP hD hS hA [0] rfl (by decide) 0 rfl rfl rfl rfl rfl (by decide) rfl hl.1 rfl (Nat.le_of_ble_eq_true rfl) (by decide) d_Mod_goOn_176) hP hD hS hA [0] [1, 2, 3, 4, 5] rfl rfl (by decide) (by decide) (fun u2 H locs hr1 hP hD hS => ?_)
              try dsimp only at hr1
              have hP : va_P g.1 classes [((q 41), aI g 600 dp), ((q 42), aZ g 600 iw), ((q 43), aI g 76800 kd), ((q 47), aI g 128 nw), ((q 48), aI g 64 bf), (h0, .inr (10, mob q rf n mm mb u2.1 u2.2 av ev wi mn tp tc sc nf fd me mp xn mt wh tq ag an ig))] H := hP
              have hD : va_D A [((q 41), aI g 600 dp), ((q 42), aZ g 600 iw), ((q 43), aI g 76800 kd), ((q 47), aI g 128 nw), ((q 48), aI g 64 bf), (h0, .inr (10, mob q rf n mm mb u2.1 u2.2 av ev wi mn tp tc sc nf fd me mp xn mt wh tq ag an ig))] := hD
              have hP : va_P g.1 classes [(h0, .inr (10, mob q rf n mm mb u2.1 u2.2 av ev wi mn tp tc sc nf fd me mp xn mt wh tq ag an ig)), ((q 41), aI g 600 dp), ((q 42), aZ g 600 iw), ((q 43), aI g 76800 kd), ((q 47), aI g 128 nw), ((q 48), aI g 64 bf)] H := hP.sub [5, 0, 1, 2, 3, 4] rfl
              have hD : va_D A [(h0, .inr (10, mob q rf n mm mb u2.1 u2.2 av ev wi mn tp tc sc nf fd me mp xn mt wh tq ag an ig)), ((q 41), aI g 600 dp), ((q 42), aZ g 600 iw), ((q 43), aI g 76800 kd), ((q 47), aI g 128 nw), ((q 48), aI g 64 bf)] := hD.sub [5, 0, 1, 2, 3, 4] (by decide) rfl
              have hp2_0 := hr1
              exact tw_vret E hS (u2.1, u2.2, dp, iw, kd) (⟨(fun h => absurd h hp2_0), hFR, (Nat.le_refl _)⟩) hP hD d_Mod_goOn_179
          · refine lv_iload hx hb d_Mod_goOn_119 (lv_at hl 0 rfl) ?_
            refine lv_iload_n hx hb d_Mod_goOn_121 rfl (lv_at hl 6 rfl) ?_
            refine lv_icmp_ge (tgt := 164) hx hb d_Mod_goOn_122 (by decide) (fun h122 => ?_) (fun h122 => ?_)
            · refine lv_iload hx hb d_Mod_goOn_164 (lv_at hl 1 rfl) ?_
              refine lv_if_ne (tgt := 180) hx hb d_Mod_goOn_166 (by decide) (fun h166 => ?_) (fun h166 => ?_)
              · refine lv_iconst (v := 0) hx hb d_Mod_goOn_180 (by decide) ?_
                refine lv_istore hx hb d_Mod_goOn_181 hl (by decide) rfl (fun ls hl => ?_)
                have hl : lv_has ls 10 [(6, .int 0), (5, .int s9), (4, .int (nI (128 * tt))), (0, .ref h0), (1, .int (nI tt)), (2, .ref (q 48)), (3, .int (nI dd))] := hl
                refine lv_iconst (v := 0) hx hb d_Mod_goOn_183 (by decide) ?_
                refine lv_istore hx hb d_Mod_goOn_184 hl (by decide) rfl (fun ls hl => ?_)
                have hl : lv_has ls 10 [(7, .int 0), (6, .int 0), (5, .int s9), (4, .int (nI (128 * tt))), (0, .ref h0), (1, .int (nI tt)), (2, .ref (q 48)), (3, .int (nI dd))] := hl
                have loop186 : ∀ (kq : Nat) (c9 : Int32) (k : Nat) (kd9 : Nat → Int32) (ls : Array Slot) (H : Heap) (locs : List Loc) , 64 - k = kq → (hk4 : k ≤ 64) → (hKD : KD3 kd9) → (hCN : CHN c9 (NK kd9) (NK kd)) → lv_has ls 10 [(7, .int (nI k)), (6, .int c9), (5, .int s9), (4, .int (nI (128 * tt))), (0, .ref h0), (1, .int (nI tt)), (2, .ref (q 48)), (3, .int (nI dd))] → va_P g.1 classes [(h0, .inr (10, mob q rf n mm mb fa fp av ev wi mn tp tc sc nf fd me mp xn mt wh tq ag an ig)), ((q 41), aI g 600 dp), ((q 42), aZ g 600 iw), ((q 43), aI g 76800 kd9), ((q 47), aI g 128 nw), ((q 48), aI g 64 bf)] H → va_D A [(h0, .inr (10, mob q rf n mm mb fa fp av ev wi mn tp tc sc nf fd me mp xn mt wh tq ag an ig)), ((q 41), aI g 600 dp), ((q 42), aZ g 600 iw), ((q 43), aI g 76800 kd9), ((q 47), aI g 128 nw), ((q 48), aI g 64 bf)] → va_S A s.heap H locs → W p l e ({ frames := 1, cells := 0, slots := 0, locals := 22 }) s m [.ref h0, .int (nI tt), .ref (q 48), .int (nI dd)].toArray below meth c H locs 0 0 (MQ below (tw_Qv g (fun (u : Int32 × Int32 × (Nat → Int32) × (Nat → Int32) × (Nat → Int32)) => (u.1 = 0 → fa = 0) ∧ (FRG u.2.2.1 u.2.2.2.1 u.2.2.2.2) ∧ (MU u.2.2.1 u.2.2.2.1 u.2.2.2.2 ≤ MU dp iw kd)) (fun u : Int32 × Int32 × (Nat → Int32) × (Nat → Int32) × (Nat → Int32) => [(h0, .inr (10, mob q rf n mm mb u.1 u.2.1 av ev wi mn tp tc sc nf fd me mp xn mt wh tq ag an ig)), ((q 41), aI g 600 u.2.2.1), ((q 42), aZ g 600 u.2.2.2.1), ((q 43), aI g 76800 u.2.2.2.2), ((q 47), aI g 128 nw), ((q 48), aI g 64 bf)]) A) [.ref h0, .int (nI tt), .ref (q 48), .int (nI dd)].toArray s 0 0 A) (F0 m 186 ls []) := by
                  intro kq
                  induction kq using Nat.strongRecOn with
                  | _ kq ih186 =>
                    intro c9 k kd9 ls H locs hk186 hk4 hKD hCN hl hP hD hS
                    refine lv_iload hx hb d_Mod_goOn_186 (lv_at hl 0 rfl) ?_
                    refine lv_bipush (v := 64) hx hb d_Mod_goOn_188 (by decide) ?_
                    refine lv_icmp_ge (tgt := 243) hx hb d_Mod_goOn_190 (by decide) (fun h190 => ?_) (fun h190 => ?_)
                    · have h190 := tn_le (a := 64) h190 (by decide) (by omega)
                      refine lv_iconst (v := 0) hx hb d_Mod_goOn_243 (by decide) ?_
                      refine lv_istore hx hb d_Mod_goOn_244 hl (by decide) rfl (fun ls hl => ?_)
                      have hl : lv_has ls 10 [(7, .int 0), (6, .int c9), (5, .int s9), (4, .int (nI (128 * tt))), (0, .ref h0), (1, .int (nI tt)), (2, .ref (q 48)), (3, .int (nI dd))] := hl
                      have loop246 : ∀ (kq : Nat) (c8 : Int32) (k : Nat) (kd8 : Nat → Int32) (ls : Array Slot) (H : Heap) (locs : List Loc) , 64 - k = kq → (hk48 : k ≤ 64) → (hKD8 : KD3 kd8) → (hCN8 : CHN c8 (NK kd8) (NK kd)) → lv_has ls 10 [(7, .int (nI k)), (6, .int c8), (4, .int (nI (128 * tt))), (0, .ref h0), (1, .int (nI tt)), (2, .ref (q 48)), (3, .int (nI dd))] → va_P g.1 classes [(h0, .inr (10, mob q rf n mm mb fa fp av ev wi mn tp tc sc nf fd me mp xn mt wh tq ag an ig)), ((q 41), aI g 600 dp), ((q 42), aZ g 600 iw), ((q 43), aI g 76800 kd8), ((q 47), aI g 128 nw), ((q 48), aI g 64 bf)] H → va_D A [(h0, .inr (10, mob q rf n mm mb fa fp av ev wi mn tp tc sc nf fd me mp xn mt wh tq ag an ig)), ((q 41), aI g 600 dp), ((q 42), aZ g 600 iw), ((q 43), aI g 76800 kd8), ((q 47), aI g 128 nw), ((q 48), aI g 64 bf)] → va_S A s.heap H locs → W p l e ({ frames := 1, cells := 0, slots := 0, locals := 22 }) s m [.ref h0, .int (nI tt), .ref (q 48), .int (nI dd)].toArray below meth c H locs 0 0 (MQ below (tw_Qv g (fun (u : Int32 × Int32 × (Nat → Int32) × (Nat → Int32) × (Nat → Int32)) => (u.1 = 0 → fa = 0) ∧ (FRG u.2.2.1 u.2.2.2.1 u.2.2.2.2) ∧ (MU u.2.2.1 u.2.2.2.1 u.2.2.2.2 ≤ MU dp iw kd)) (fun u : Int32 × Int32 × (Nat → Int32) × (Nat → Int32) × (Nat → Int32) => [(h0, .inr (10, mob q rf n mm mb u.1 u.2.1 av ev wi mn tp tc sc nf fd me mp xn mt wh tq ag an ig)), ((q 41), aI g 600 u.2.2.1), ((q 42), aZ g 600 u.2.2.2.1), ((q 43), aI g 76800 u.2.2.2.2), ((q 47), aI g 128 nw), ((q 48), aI g 64 bf)]) A) [.ref h0, .int (nI tt), .ref (q 48), .int (nI dd)].toArray s 0 0 A) (F0 m 246 ls []) := by
                        intro kq
                        induction kq using Nat.strongRecOn with
                        | _ kq ih246 =>
                          intro c8 k kd8 ls H locs hk246 hk48 hKD8 hCN8 hl hP hD hS
                          refine lv_iload hx hb d_Mod_goOn_246 (lv_at hl 0 rfl) ?_
                          refine lv_bipush (v := 64) hx hb d_Mod_goOn_248 (by decide) ?_
                          refine lv_icmp_ge (tgt := 353) hx hb d_Mod_goOn_250 (by decide) (fun h250 => ?_) (fun h250 => ?_)
                          · have h250 := tn_le (a := 64) h250 (by decide) (by omega)
                            refine lv_aload_n hx hb d_Mod_goOn_353 rfl (lv_at hl 3 rfl) ?_
                            refine va_get (D := g.1) (ci := 10) (v := .ref (q 42)) (C := R_Mod) (T := F_Mod) (N := 61) hx hb hts in_Mod hown hK hP 0 rfl rfl 42 (by decide) (hts _ wd_1292) (fun _ h9 => h9) rfl d_Mod_goOn_354 ?_
                            refine lv_iload_n hx hb d_Mod_goOn_357 rfl (lv_at hl 4 rfl) ?_
                            refine lv_aload_n hx hb d_Mod_goOn_358 rfl (lv_at hl 3 rfl) ?_
                            refine va_get (D := g.1) (ci := 10) (v := .ref (q 42)) (C := R_Mod) (T := F_Mod) (N := 61) hx hb hts in_Mod hown hK hP 0 rfl rfl 42 (by decide) (hts _ wd_1292) (fun _ h9 => h9) rfl d_Mod_goOn_359 ?_
                            refine lv_iload_n hx hb d_Mod_goOn_362 rfl (lv_at hl 4 rfl) ?_
                            refine va_zald hx hb hK hP 2 3 rfl rfl (vp_in_nI (by omega) (by decide)) d_Mod_goOn_363 ?_
                            refine tw_ri (e2 := iw tt) (by rw [nI_clamp (by omega)]) ?_
                            refine lv_if_ne (tgt := 372) hx hb d_Mod_goOn_364 (by decide) (fun h364 => ?_) (fun h364 => ?_)
                            · refine lv_iconst (v := 1) hx hb d_Mod_goOn_372 (by decide) ?_
                              refine lv_goto (tgt := 377) hx hb d_Mod_goOn_373 (by decide) ?_
                              refine va_zast hx hb hK hP hD hS 2 3 rfl rfl (vp_in_nI (by omega) (by decide)) d_Mod_goOn_377 (fun H locs hP hD hS => ?_)
                              have hP : va_P g.1 classes [(h0, .inr (10, mob q rf n mm mb fa fp av ev wi mn tp tc sc nf fd me mp xn mt wh tq ag an ig)), ((q 41), aI g 600 dp), ((q 42), aZ g 600 (upd iw (nI tt).toNatClampNeg (vp_nar .boolean 1))), ((q 43), aI g 76800 kd8), ((q 47), aI g 128 nw), ((q 48), aI g 64 bf)] H := hP
                              have hD : va_D A [(h0, .inr (10, mob q rf n mm mb fa fp av ev wi mn tp tc sc nf fd me mp xn mt wh tq ag an ig)), ((q 41), aI g 600 dp), ((q 42), aZ g 600 (upd iw (nI tt).toNatClampNeg (vp_nar .boolean 1))), ((q 43), aI g 76800 kd8), ((q 47), aI g 128 nw), ((q 48), aI g 64 bf)] := hD
                              have e9 : upd iw (nI tt).toNatClampNeg (vp_nar .boolean 1) = upd iw tt 1 := by rw [nI_clamp (by omega)]; rfl
                              rw [e9] at hP hD
                              exact tw_vret E hS (fa, fp, dp, upd iw tt 1, kd8) (⟨(fun h => h), (hFR.again h13 hKD8), (mu_keep ht6 (Or.inl ⟨by rw [wC_1 h364]; exact Nat.le_refl _, chn_le hCN8⟩))⟩) hP hD d_Mod_goOn_378
                            · refine lv_iload hx hb d_Mod_goOn_367 (lv_at hl 1 rfl) ?_
                              refine lv_if_eq (tgt := 376) hx hb d_Mod_goOn_369 (by decide) (fun h369 => ?_) (fun h369 => ?_)
                              · refine lv_iconst (v := 0) hx hb d_Mod_goOn_376 (by decide) ?_
                                refine va_zast hx hb hK hP hD hS 2 3 rfl rfl (vp_in_nI (by omega) (by decide)) d_Mod_goOn_377 (fun H locs hP hD hS => ?_)
                                have hP : va_P g.1 classes [(h0, .inr (10, mob q rf n mm mb fa fp av ev wi mn tp tc sc nf fd me mp xn mt wh tq ag an ig)), ((q 41), aI g 600 dp), ((q 42), aZ g 600 (upd iw (nI tt).toNatClampNeg (vp_nar .boolean 0))), ((q 43), aI g 76800 kd8), ((q 47), aI g 128 nw), ((q 48), aI g 64 bf)] H := hP
                                have hD : va_D A [(h0, .inr (10, mob q rf n mm mb fa fp av ev wi mn tp tc sc nf fd me mp xn mt wh tq ag an ig)), ((q 41), aI g 600 dp), ((q 42), aZ g 600 (upd iw (nI tt).toNatClampNeg (vp_nar .boolean 0))), ((q 43), aI g 76800 kd8), ((q 47), aI g 128 nw), ((q 48), aI g 64 bf)] := hD
                                have e9 : upd iw (nI tt).toNatClampNeg (vp_nar .boolean 0) = upd iw tt 0 := by rw [nI_clamp (by omega)]; rfl
                                rw [e9] at hP hD
                                exact tw_vret E hS (fa, fp, dp, upd iw tt 0, kd8) (⟨(fun h => h), (hFR.again h13 hKD8), (mu_keep ht6 (Or.inl ⟨Nat.zero_le _, chn_le hCN8⟩))⟩) hP hD d_Mod_goOn_378
                              · refine lv_iconst (v := 1) hx hb d_Mod_goOn_372 (by decide) ?_
                                refine lv_goto (tgt := 377) hx hb d_Mod_goOn_373 (by decide) ?_
                                refine va_zast hx hb hK hP hD hS 2 3 rfl rfl (vp_in_nI (by omega) (by decide)) d_Mod_goOn_377 (fun H locs hP hD hS => ?_)
                                have hP : va_P g.1 classes [(h0, .inr (10, mob q rf n mm mb fa fp av ev wi mn tp tc sc nf fd me mp xn mt wh tq ag an ig)), ((q 41), aI g 600 dp), ((q 42), aZ g 600 (upd iw (nI tt).toNatClampNeg (vp_nar .boolean 1))), ((q 43), aI g 76800 kd8), ((q 47), aI g 128 nw), ((q 48), aI g 64 bf)] H := hP
                                have hD : va_D A [(h0, .inr (10, mob q rf n mm mb fa fp av ev wi mn tp tc sc nf fd me mp xn mt wh tq ag an ig)), ((q 41), aI g 600 dp), ((q 42), aZ g 600 (upd iw (nI tt).toNatClampNeg (vp_nar .boolean 1))), ((q 43), aI g 76800 kd8), ((q 47), aI g 128 nw), ((q 48), aI g 64 bf)] := hD
                                have e9 : upd iw (nI tt).toNatClampNeg (vp_nar .boolean 1) = upd iw tt 1 := by rw [nI_clamp (by omega)]; rfl
                                rw [e9] at hP hD
                                exact tw_vret E hS (fa, fp, dp, upd iw tt 1, kd8) (⟨(fun h => h), (hFR.again h13 hKD8), (mu_keep ht6 (Or.inr (chn_lt hCN8 h369)))⟩) hP hD d_Mod_goOn_378
                          · have h250 := tn_nle (a := 64) h250 (by decide) (by omega)
                            refine lv_aload_n hx hb d_Mod_goOn_253 rfl (lv_at hl 3 rfl) ?_
                            refine va_get (D := g.1) (ci := 10) (v := .ref (q 43)) (C := R_Mod) (T := F_Mod) (N := 61) hx hb hts in_Mod hown hK hP 0 rfl rfl 43 (by decide) (hts _ wd_1293) (fun _ h9 => h9) rfl d_Mod_goOn_254 ?_
                            refine lv_iload hx hb d_Mod_goOn_257 (lv_at hl 2 rfl) ?_
                            refine lv_iload hx hb d_Mod_goOn_259 (lv_at hl 0 rfl) ?_
                            refine lv_iadd hx hb d_Mod_goOn_261 ?_
                            refine tw_ri (e2 := nI (128 * tt + k)) (nI_add _ _) ?_
                            refine va_iald hx hb hK hP 3 0 rfl rfl (vp_in_nI (by omega) (by decide)) d_Mod_goOn_262 ?_
                            refine tw_ri (e2 := kd8 (128 * tt + k)) (by rw [nI_clamp (by omega)]) ?_
                            refine lv_istore hx hb d_Mod_goOn_263 hl (by decide) rfl (fun ls hl => ?_)
                            have hl : lv_has ls 10 [(8, .int (kd8 (128 * tt + k))), (7, .int (nI k)), (6, .int c8), (4, .int (nI (128 * tt))), (0, .ref h0), (1, .int (nI tt)), (2, .ref (q 48)), (3, .int (nI dd))] := hl
                            refine lv_iload hx hb d_Mod_goOn_265 (lv_at hl 0 rfl) ?_
                            refine lv_iconst (v := 2) hx hb d_Mod_goOn_267 (by decide) ?_
                            refine lv_icmp_ne (tgt := 294) hx hb d_Mod_goOn_268 (by decide) (fun h268 => ?_) (fun h268 => ?_)
                            · refine lv_iload hx hb d_Mod_goOn_294 (lv_at hl 0 rfl) ?_
                              refine lv_iconst (v := 3) hx hb d_Mod_goOn_296 (by decide) ?_
                              refine lv_icmp_ne (tgt := 325) hx hb d_Mod_goOn_297 (by decide) (fun h297 => ?_) (fun h297 => ?_)
                              · refine lv_iconst (v := 0) hx hb d_Mod_goOn_325 (by decide) ?_
                                refine lv_istore hx hb d_Mod_goOn_326 hl (by decide) rfl (fun ls hl => ?_)
                                have hl : lv_has ls 10 [(9, .int 0), (8, .int (kd8 (128 * tt + k))), (7, .int (nI k)), (6, .int c8), (4, .int (nI (128 * tt))), (0, .ref h0), (1, .int (nI tt)), (2, .ref (q 48)), (3, .int (nI dd))] := hl
                                refine lv_iload hx hb d_Mod_goOn_328 (lv_at hl 0 rfl) ?_
                                refine lv_if_eq (tgt := 347) hx hb d_Mod_goOn_330 (by decide) (fun h330 => ?_) (fun h330 => ?_)
                                · refine lv_iinc (k := 2) (v := nI (k + 1)) hx hb d_Mod_goOn_347 hl rfl ((nI_succ k).symm) (by decide) rfl (fun ls hl => ?_)
                                  have hl : lv_has ls 10 [(7, .int (nI (k + 1))), (9, .int 0), (8, .int (kd8 (128 * tt + k))), (6, .int c8), (4, .int (nI (128 * tt))), (0, .ref h0), (1, .int (nI tt)), (2, .ref (q 48)), (3, .int (nI dd))] := hl
                                  refine lv_goto (tgt := 246) hx hb d_Mod_goOn_350 (by decide) ?_
                                  have hP : va_P g.1 classes [(h0, .inr (10, mob q rf n mm mb fa fp av ev wi mn tp tc sc nf fd me mp xn mt wh tq ag an ig)), ((q 41), aI g 600 dp), ((q 42), aZ g 600 iw), ((q 43), aI g 76800 kd8), ((q 47), aI g 128 nw), ((q 48), aI g 64 bf)] H := hP.sub [0, 1, 2, 3, 4, 5] rfl
                                  have hD : va_D A [(h0, .inr (10, mob q rf n mm mb fa fp av ev wi mn tp tc sc nf fd me mp xn mt wh tq ag an ig)), ((q 41), aI g 600 dp), ((q 42), aZ g 600 iw), ((q 43), aI g 76800 kd8), ((q 47), aI g 128 nw), ((q 48), aI g 64 bf)] := hD.sub [0, 1, 2, 3, 4, 5] (by decide) rfl
                                  exact ih246 _ (by omega) c8 (k + 1) kd8 ls _ _ rfl (by omega) hKD8 hCN8 (lv_sub hl [0, 3, 4, 5, 6, 7, 8] rfl) hP hD hS
                                · first | exact absurd h330 (by decide) | exact absurd (by decide) h330
                              · refine lv_iload hx hb d_Mod_goOn_300 (lv_at hl 1 rfl) ?_
                                refine lv_if_eq (tgt := 321) hx hb d_Mod_goOn_302 (by decide) (fun h302 => ?_) (fun h302 => ?_)
                                · refine lv_iconst (v := 1) hx hb d_Mod_goOn_321 (by decide) ?_
                                  refine lv_goto (tgt := 326) hx hb d_Mod_goOn_322 (by decide) ?_
                                  refine lv_istore hx hb d_Mod_goOn_326 hl (by decide) rfl (fun ls hl => ?_)
                                  have hl : lv_has ls 10 [(9, .int 1), (8, .int (kd8 (128 * tt + k))), (7, .int (nI k)), (6, .int c8), (4, .int (nI (128 * tt))), (0, .ref h0), (1, .int (nI tt)), (2, .ref (q 48)), (3, .int (nI dd))] := hl
                                  refine lv_iload hx hb d_Mod_goOn_328 (lv_at hl 0 rfl) ?_
                                  refine lv_if_eq (tgt := 347) hx hb d_Mod_goOn_330 (by decide) (fun h330 => ?_) (fun h330 => ?_)
                                  · first | exact absurd h330 (by decide) | exact absurd (by decide) h330
                                  · refine lv_aload_n hx hb d_Mod_goOn_333 rfl (lv_at hl 5 rfl) ?_
                                    refine va_get (D := g.1) (ci := 10) (v := .ref (q 43)) (C := R_Mod) (T := F_Mod) (N := 61) hx hb hts in_Mod hown hK hP 0 rfl rfl 43 (by decide) (hts _ wd_1293) (fun _ h9 => h9) rfl d_Mod_goOn_334 ?_
                                    refine lv_iload hx hb d_Mod_goOn_337 (lv_at hl 4 rfl) ?_
                                    refine lv_iload hx hb d_Mod_goOn_339 (lv_at hl 2 rfl) ?_
                                    refine lv_iadd hx hb d_Mod_goOn_341 ?_
                                    refine tw_ri (e2 := nI (128 * tt + k)) (nI_add _ _) ?_
                                    refine lv_iconst (v := 0) hx hb d_Mod_goOn_342 (by decide) ?_
                                    refine va_iast hx hb hK hP hD hS 3 0 rfl rfl (vp_in_nI (by omega) (by decide)) d_Mod_goOn_343 (fun H locs hP hD hS => ?_)
                                    have hP : va_P g.1 classes [(h0, .inr (10, mob q rf n mm mb fa fp av ev wi mn tp tc sc nf fd me mp xn mt wh tq ag an ig)), ((q 41), aI g 600 dp), ((q 42), aZ g 600 iw), ((q 43), aI g 76800 (upd kd8 (nI (128 * tt + k)).toNatClampNeg 0)), ((q 47), aI g 128 nw), ((q 48), aI g 64 bf)] H := hP
                                    have hD : va_D A [(h0, .inr (10, mob q rf n mm mb fa fp av ev wi mn tp tc sc nf fd me mp xn mt wh tq ag an ig)), ((q 41), aI g 600 dp), ((q 42), aZ g 600 iw), ((q 43), aI g 76800 (upd kd8 (nI (128 * tt + k)).toNatClampNeg 0)), ((q 47), aI g 128 nw), ((q 48), aI g 64 bf)] := hD
                                    have e9 : upd kd8 (nI (128 * tt + k)).toNatClampNeg 0 = upd kd8 (128 * tt + k) 0 := by rw [nI_clamp (by omega)]
                                    rw [e9] at hP hD
                                    refine lv_iconst (v := 1) hx hb d_Mod_goOn_344 (by decide) ?_
                                    refine lv_istore hx hb d_Mod_goOn_345 hl (by decide) rfl (fun ls hl => ?_)
                                    have hl : lv_has ls 10 [(6, .int 1), (9, .int 1), (8, .int (kd8 (128 * tt + k))), (7, .int (nI k)), (4, .int (nI (128 * tt))), (0, .ref h0), (1, .int (nI tt)), (2, .ref (q 48)), (3, .int (nI dd))] := hl
                                    refine lv_iinc (k := 3) (v := nI (k + 1)) hx hb d_Mod_goOn_347 hl rfl ((nI_succ k).symm) (by decide) rfl (fun ls hl => ?_)
                                    have hl : lv_has ls 10 [(7, .int (nI (k + 1))), (6, .int 1), (9, .int 1), (8, .int (kd8 (128 * tt + k))), (4, .int (nI (128 * tt))), (0, .ref h0), (1, .int (nI tt)), (2, .ref (q 48)), (3, .int (nI dd))] := hl
                                    refine lv_goto (tgt := 246) hx hb d_Mod_goOn_350 (by decide) ?_
                                    have hP : va_P g.1 classes [(h0, .inr (10, mob q rf n mm mb fa fp av ev wi mn tp tc sc nf fd me mp xn mt wh tq ag an ig)), ((q 41), aI g 600 dp), ((q 42), aZ g 600 iw), ((q 43), aI g 76800 (upd kd8 (128 * tt + k) 0)), ((q 47), aI g 128 nw), ((q 48), aI g 64 bf)] H := hP.sub [0, 1, 2, 3, 4, 5] rfl
                                    have hD : va_D A [(h0, .inr (10, mob q rf n mm mb fa fp av ev wi mn tp tc sc nf fd me mp xn mt wh tq ag an ig)), ((q 41), aI g 600 dp), ((q 42), aZ g 600 iw), ((q 43), aI g 76800 (upd kd8 (128 * tt + k) 0)), ((q 47), aI g 128 nw), ((q 48), aI g 64 bf)] := hD.sub [0, 1, 2, 3, 4, 5] (by decide) rfl
                                    exact ih246 _ (by omega) 1 (k + 1) (upd kd8 (128 * tt + k) 0) ls _ _ rfl (by omega) (hKD8.put (fun _ => by decide)) (nk_dn hCN8 (by omega) (by omega) (by rw [h297]; decide)) (lv_sub hl [0, 1, 4, 5, 6, 7, 8] rfl) hP hD hS
                                · have h302 := tn_ne (b := 0) h302
                                  refine lv_aload_n hx hb d_Mod_goOn_305 rfl (lv_at hl 4 rfl) ?_
                                  refine va_get (D := g.1) (ci := 10) (v := .ref (q 43)) (C := R_Mod) (T := F_Mod) (N := 61) hx hb hts in_Mod hown hK hP 0 rfl rfl 43 (by decide) (hts _ wd_1293) (fun _ h9 => h9) rfl d_Mod_goOn_306 ?_
                                  refine lv_iload hx hb d_Mod_goOn_309 (lv_at hl 3 rfl) ?_
                                  refine lv_iload hx hb d_Mod_goOn_311 (lv_at hl 1 rfl) ?_
                                  refine lv_iadd hx hb d_Mod_goOn_313 ?_
                                  refine tw_ri (e2 := nI (128 * tt + k)) (nI_add _ _) ?_
                                  refine lv_iconst (v := 1) hx hb d_Mod_goOn_314 (by decide) ?_
                                  refine lv_isub hx hb d_Mod_goOn_315 ?_
                                  refine tw_ri (e2 := nI (128 * tt + k - 1)) (pk_sub (b := 1) (by omega)) ?_
                                  refine va_iald hx hb hK hP 3 0 rfl rfl (vp_in_nI (by omega) (by decide)) d_Mod_goOn_316 ?_
                                  obtain ⟨x3, ex3⟩ : ∃ z : Int32, kd8 ((nI (128 * tt + k - 1)).toNatClampNeg) = z := ⟨_, rfl⟩
                                  refine tw_ri (e2 := x3) ex3 ?_
                                  refine lv_iconst (v := 2) hx hb d_Mod_goOn_317 (by decide) ?_
                                  refine lv_icmp_eq (tgt := 325) hx hb d_Mod_goOn_318 (by decide) (fun h318 => ?_) (fun h318 => ?_)
                                  · refine lv_iconst (v := 0) hx hb d_Mod_goOn_325 (by decide) ?_
                                    refine lv_istore hx hb d_Mod_goOn_326 hl (by decide) rfl (fun ls hl => ?_)
                                    have hl : lv_has ls 10 [(9, .int 0), (8, .int (kd8 (128 * tt + k))), (7, .int (nI k)), (6, .int c8), (4, .int (nI (128 * tt))), (0, .ref h0), (1, .int (nI tt)), (2, .ref (q 48)), (3, .int (nI dd))] := hl
                                    refine lv_iload hx hb d_Mod_goOn_328 (lv_at hl 0 rfl) ?_
                                    refine lv_if_eq (tgt := 347) hx hb d_Mod_goOn_330 (by decide) (fun h330 => ?_) (fun h330 => ?_)
                                    · refine lv_iinc (k := 2) (v := nI (k + 1)) hx hb d_Mod_goOn_347 hl rfl ((nI_succ k).symm) (by decide) rfl (fun ls hl => ?_)
                                      have hl : lv_has ls 10 [(7, .int (nI (k + 1))), (9, .int 0), (8, .int (kd8 (128 * tt + k))), (6, .int c8), (4, .int (nI (128 * tt))), (0, .ref h0), (1, .int (nI tt)), (2, .ref (q 48)), (3, .int (nI dd))] := hl
                                      refine lv_goto (tgt := 246) hx hb d_Mod_goOn_350 (by decide) ?_
                                      have hP : va_P g.1 classes [(h0, .inr (10, mob q rf n mm mb fa fp av ev wi mn tp tc sc nf fd me mp xn mt wh tq ag an ig)), ((q 41), aI g 600 dp), ((q 42), aZ g 600 iw), ((q 43), aI g 76800 kd8), ((q 47), aI g 128 nw), ((q 48), aI g 64 bf)] H := hP.sub [0, 1, 2, 3, 4, 5] rfl
                                      have hD : va_D A [(h0, .inr (10, mob q rf n mm mb fa fp av ev wi mn tp tc sc nf fd me mp xn mt wh tq ag an ig)), ((q 41), aI g 600 dp), ((q 42), aZ g 600 iw), ((q 43), aI g 76800 kd8), ((q 47), aI g 128 nw), ((q 48), aI g 64 bf)] := hD.sub [0, 1, 2, 3, 4, 5] (by decide) rfl
                                      exact ih246 _ (by omega) c8 (k + 1) kd8 ls _ _ rfl (by omega) hKD8 hCN8 (lv_sub hl [0, 3, 4, 5, 6, 7, 8] rfl) hP hD hS
                                    · first | exact absurd h330 (by decide) | exact absurd (by decide) h330
                                  · refine lv_iconst (v := 1) hx hb d_Mod_goOn_321 (by decide) ?_
                                    refine lv_goto (tgt := 326) hx hb d_Mod_goOn_322 (by decide) ?_
                                    refine lv_istore hx hb d_Mod_goOn_326 hl (by decide) rfl (fun ls hl => ?_)
                                    have hl : lv_has ls 10 [(9, .int 1), (8, .int (kd8 (128 * tt + k))), (7, .int (nI k)), (6, .int c8), (4, .int (nI (128 * tt))), (0, .ref h0), (1, .int (nI tt)), (2, .ref (q 48)), (3, .int (nI dd))] := hl
                                    refine lv_iload hx hb d_Mod_goOn_328 (lv_at hl 0 rfl) ?_
                                    refine lv_if_eq (tgt := 347) hx hb d_Mod_goOn_330 (by decide) (fun h330 => ?_) (fun h330 => ?_)
                                    · first | exact absurd h330 (by decide) | exact absurd (by decide) h330
                                    · refine lv_aload_n hx hb d_Mod_goOn_333 rfl (lv_at hl 5 rfl) ?_
                                      refine va_get (D := g.1) (ci := 10) (v := .ref (q 43)) (C := R_Mod) (T := F_Mod) (N := 61) hx hb hts in_Mod hown hK hP 0 rfl rfl 43 (by decide) (hts _ wd_1293) (fun _ h9 => h9) rfl d_Mod_goOn_334 ?_
                                      refine lv_iload hx hb d_Mod_goOn_337 (lv_at hl 4 rfl) ?_
                                      refine lv_iload hx hb d_Mod_goOn_339 (lv_at hl 2 rfl) ?_
                                      refine lv_iadd hx hb d_Mod_goOn_341 ?_
                                      refine tw_ri (e2 := nI (128 * tt + k)) (nI_add _ _) ?_
                                      refine lv_iconst (v := 0) hx hb d_Mod_goOn_342 (by decide) ?_
                                      refine va_iast hx hb hK hP hD hS 3 0 rfl rfl (vp_in_nI (by omega) (by decide)) d_Mod_goOn_343 (fun H locs hP hD hS => ?_)
                                      have hP : va_P g.1 classes [(h0, .inr (10, mob q rf n mm mb fa fp av ev wi mn tp tc sc nf fd me mp xn mt wh tq ag an ig)), ((q 41), aI g 600 dp), ((q 42), aZ g 600 iw), ((q 43), aI g 76800 (upd kd8 (nI (128 * tt + k)).toNatClampNeg 0)), ((q 47), aI g 128 nw), ((q 48), aI g 64 bf)] H := hP
                                      have hD : va_D A [(h0, .inr (10, mob q rf n mm mb fa fp av ev wi mn tp tc sc nf fd me mp xn mt wh tq ag an ig)), ((q 41), aI g 600 dp), ((q 42), aZ g 600 iw), ((q 43), aI g 76800 (upd kd8 (nI (128 * tt + k)).toNatClampNeg 0)), ((q 47), aI g 128 nw), ((q 48), aI g 64 bf)] := hD
                                      have e9 : upd kd8 (nI (128 * tt + k)).toNatClampNeg 0 = upd kd8 (128 * tt + k) 0 := by rw [nI_clamp (by omega)]
                                      rw [e9] at hP hD
                                      refine lv_iconst (v := 1) hx hb d_Mod_goOn_344 (by decide) ?_
                                      refine lv_istore hx hb d_Mod_goOn_345 hl (by decide) rfl (fun ls hl => ?_)
                                      have hl : lv_has ls 10 [(6, .int 1), (9, .int 1), (8, .int (kd8 (128 * tt + k))), (7, .int (nI k)), (4, .int (nI (128 * tt))), (0, .ref h0), (1, .int (nI tt)), (2, .ref (q 48)), (3, .int (nI dd))] := hl
                                      refine lv_iinc (k := 3) (v := nI (k + 1)) hx hb d_Mod_goOn_347 hl rfl ((nI_succ k).symm) (by decide) rfl (fun ls hl => ?_)
                                      have hl : lv_has ls 10 [(7, .int (nI (k + 1))), (6, .int 1), (9, .int 1), (8, .int (kd8 (128 * tt + k))), (4, .int (nI (128 * tt))), (0, .ref h0), (1, .int (nI tt)), (2, .ref (q 48)), (3, .int (nI dd))] := hl
                                      refine lv_goto (tgt := 246) hx hb d_Mod_goOn_350 (by decide) ?_
                                      have hP : va_P g.1 classes [(h0, .inr (10, mob q rf n mm mb fa fp av ev wi mn tp tc sc nf fd me mp xn mt wh tq ag an ig)), ((q 41), aI g 600 dp), ((q 42), aZ g 600 iw), ((q 43), aI g 76800 (upd kd8 (128 * tt + k) 0)), ((q 47), aI g 128 nw), ((q 48), aI g 64 bf)] H := hP.sub [0, 1, 2, 3, 4, 5] rfl
                                      have hD : va_D A [(h0, .inr (10, mob q rf n mm mb fa fp av ev wi mn tp tc sc nf fd me mp xn mt wh tq ag an ig)), ((q 41), aI g 600 dp), ((q 42), aZ g 600 iw), ((q 43), aI g 76800 (upd kd8 (128 * tt + k) 0)), ((q 47), aI g 128 nw), ((q 48), aI g 64 bf)] := hD.sub [0, 1, 2, 3, 4, 5] (by decide) rfl
                                      exact ih246 _ (by omega) 1 (k + 1) (upd kd8 (128 * tt + k) 0) ls _ _ rfl (by omega) (hKD8.put (fun _ => by decide)) (nk_dn hCN8 (by omega) (by omega) (by rw [h297]; decide)) (lv_sub hl [0, 1, 4, 5, 6, 7, 8] rfl) hP hD hS
                            · refine lv_iload hx hb d_Mod_goOn_271 (lv_at hl 1 rfl) ?_
                              refine lv_bipush (v := 63) hx hb d_Mod_goOn_273 (by decide) ?_
                              refine lv_icmp_eq (tgt := 321) hx hb d_Mod_goOn_275 (by decide) (fun h275 => ?_) (fun h275 => ?_)
                              · refine lv_iconst (v := 1) hx hb d_Mod_goOn_321 (by decide) ?_
                                refine lv_goto (tgt := 326) hx hb d_Mod_goOn_322 (by decide) ?_
                                refine lv_istore hx hb d_Mod_goOn_326 hl (by decide) rfl (fun ls hl => ?_)
                                have hl : lv_has ls 10 [(9, .int 1), (8, .int (kd8 (128 * tt + k))), (7, .int (nI k)), (6, .int c8), (4, .int (nI (128 * tt))), (0, .ref h0), (1, .int (nI tt)), (2, .ref (q 48)), (3, .int (nI dd))] := hl
                                refine lv_iload hx hb d_Mod_goOn_328 (lv_at hl 0 rfl) ?_
                                refine lv_if_eq (tgt := 347) hx hb d_Mod_goOn_330 (by decide) (fun h330 => ?_) (fun h330 => ?_)
                                · first | exact absurd h330 (by decide) | exact absurd (by decide) h330
                                · refine lv_aload_n hx hb d_Mod_goOn_333 rfl (lv_at hl 5 rfl) ?_
                                  refine va_get (D := g.1) (ci := 10) (v := .ref (q 43)) (C := R_Mod) (T := F_Mod) (N := 61) hx hb hts in_Mod hown hK hP 0 rfl rfl 43 (by decide) (hts _ wd_1293) (fun _ h9 => h9) rfl d_Mod_goOn_334 ?_
                                  refine lv_iload hx hb d_Mod_goOn_337 (lv_at hl 4 rfl) ?_
                                  refine lv_iload hx hb d_Mod_goOn_339 (lv_at hl 2 rfl) ?_
                                  refine lv_iadd hx hb d_Mod_goOn_341 ?_
                                  refine tw_ri (e2 := nI (128 * tt + k)) (nI_add _ _) ?_
                                  refine lv_iconst (v := 0) hx hb d_Mod_goOn_342 (by decide) ?_
                                  refine va_iast hx hb hK hP hD hS 3 0 rfl rfl (vp_in_nI (by omega) (by decide)) d_Mod_goOn_343 (fun H locs hP hD hS => ?_)
                                  have hP : va_P g.1 classes [(h0, .inr (10, mob q rf n mm mb fa fp av ev wi mn tp tc sc nf fd me mp xn mt wh tq ag an ig)), ((q 41), aI g 600 dp), ((q 42), aZ g 600 iw), ((q 43), aI g 76800 (upd kd8 (nI (128 * tt + k)).toNatClampNeg 0)), ((q 47), aI g 128 nw), ((q 48), aI g 64 bf)] H := hP
                                  have hD : va_D A [(h0, .inr (10, mob q rf n mm mb fa fp av ev wi mn tp tc sc nf fd me mp xn mt wh tq ag an ig)), ((q 41), aI g 600 dp), ((q 42), aZ g 600 iw), ((q 43), aI g 76800 (upd kd8 (nI (128 * tt + k)).toNatClampNeg 0)), ((q 47), aI g 128 nw), ((q 48), aI g 64 bf)] := hD
                                  have e9 : upd kd8 (nI (128 * tt + k)).toNatClampNeg 0 = upd kd8 (128 * tt + k) 0 := by rw [nI_clamp (by omega)]
                                  rw [e9] at hP hD
                                  refine lv_iconst (v := 1) hx hb d_Mod_goOn_344 (by decide) ?_
                                  refine lv_istore hx hb d_Mod_goOn_345 hl (by decide) rfl (fun ls hl => ?_)
                                  have hl : lv_has ls 10 [(6, .int 1), (9, .int 1), (8, .int (kd8 (128 * tt + k))), (7, .int (nI k)), (4, .int (nI (128 * tt))), (0, .ref h0), (1, .int (nI tt)), (2, .ref (q 48)), (3, .int (nI dd))] := hl
                                  refine lv_iinc (k := 3) (v := nI (k + 1)) hx hb d_Mod_goOn_347 hl rfl ((nI_succ k).symm) (by decide) rfl (fun ls hl => ?_)
                                  have hl : lv_has ls 10 [(7, .int (nI (k + 1))), (6, .int 1), (9, .int 1), (8, .int (kd8 (128 * tt + k))), (4, .int (nI (128 * tt))), (0, .ref h0), (1, .int (nI tt)), (2, .ref (q 48)), (3, .int (nI dd))] := hl
                                  refine lv_goto (tgt := 246) hx hb d_Mod_goOn_350 (by decide) ?_
                                  have hP : va_P g.1 classes [(h0, .inr (10, mob q rf n mm mb fa fp av ev wi mn tp tc sc nf fd me mp xn mt wh tq ag an ig)), ((q 41), aI g 600 dp), ((q 42), aZ g 600 iw), ((q 43), aI g 76800 (upd kd8 (128 * tt + k) 0)), ((q 47), aI g 128 nw), ((q 48), aI g 64 bf)] H := hP.sub [0, 1, 2, 3, 4, 5] rfl
                                  have hD : va_D A [(h0, .inr (10, mob q rf n mm mb fa fp av ev wi mn tp tc sc nf fd me mp xn mt wh tq ag an ig)), ((q 41), aI g 600 dp), ((q 42), aZ g 600 iw), ((q 43), aI g 76800 (upd kd8 (128 * tt + k) 0)), ((q 47), aI g 128 nw), ((q 48), aI g 64 bf)] := hD.sub [0, 1, 2, 3, 4, 5] (by decide) rfl
                                  exact ih246 _ (by omega) 1 (k + 1) (upd kd8 (128 * tt + k) 0) ls _ _ rfl (by omega) (hKD8.put (fun _ => by decide)) (nk_dn hCN8 (by omega) (by omega) (by rw [h268]; decide)) (lv_sub hl [0, 1, 4, 5, 6, 7, 8] rfl) hP hD hS
                              · refine lv_aload_n hx hb d_Mod_goOn_278 rfl (lv_at hl 4 rfl) ?_
                                refine va_get (D := g.1) (ci := 10) (v := .ref (q 43)) (C := R_Mod) (T := F_Mod) (N := 61) hx hb hts in_Mod hown hK hP 0 rfl rfl 43 (by decide) (hts _ wd_1293) (fun _ h9 => h9) rfl d_Mod_goOn_279 ?_
                                refine lv_iload hx hb d_Mod_goOn_282 (lv_at hl 3 rfl) ?_
                                refine lv_iload hx hb d_Mod_goOn_284 (lv_at hl 1 rfl) ?_
                                refine lv_iadd hx hb d_Mod_goOn_286 ?_
                                refine tw_ri (e2 := nI (128 * tt + k)) (nI_add _ _) ?_
                                refine lv_iconst (v := 1) hx hb d_Mod_goOn_287 (by decide) ?_
                                refine lv_iadd hx hb d_Mod_goOn_288 ?_
                                refine tw_ri (e2 := nI (128 * tt + k + 1)) (nI_add _ 1) ?_
                                refine va_iald hx hb hK hP 3 0 rfl rfl (vp_in_nI (by omega) (by decide)) d_Mod_goOn_289 ?_
                                obtain ⟨x4, ex4⟩ : ∃ z : Int32, kd8 ((nI (128 * tt + k + 1)).toNatClampNeg) = z := ⟨_, rfl⟩
                                refine tw_ri (e2 := x4) ex4 ?_
                                refine lv_iconst (v := 3) hx hb d_Mod_goOn_290 (by decide) ?_
                                refine lv_icmp_ne (tgt := 321) hx hb d_Mod_goOn_291 (by decide) (fun h291 => ?_) (fun h291 => ?_)
                                · refine lv_iconst (v := 1) hx hb d_Mod_goOn_321 (by decide) ?_
                                  refine lv_goto (tgt := 326) hx hb d_Mod_goOn_322 (by decide) ?_
                                  refine lv_istore hx hb d_Mod_goOn_326 hl (by decide) rfl (fun ls hl => ?_)
                                  have hl : lv_has ls 10 [(9, .int 1), (8, .int (kd8 (128 * tt + k))), (7, .int (nI k)), (6, .int c8), (4, .int (nI (128 * tt))), (0, .ref h0), (1, .int (nI tt)), (2, .ref (q 48)), (3, .int (nI dd))] := hl
                                  refine lv_iload hx hb d_Mod_goOn_328 (lv_at hl 0 rfl) ?_
                                  refine lv_if_eq (tgt := 347) hx hb d_Mod_goOn_330 (by decide) (fun h330 => ?_) (fun h330 => ?_)
                                  · first | exact absurd h330 (by decide) | exact absurd (by decide) h330
                                  · refine lv_aload_n hx hb d_Mod_goOn_333 rfl (lv_at hl 5 rfl) ?_
                                    refine va_get (D := g.1) (ci := 10) (v := .ref (q 43)) (C := R_Mod) (T := F_Mod) (N := 61) hx hb hts in_Mod hown hK hP 0 rfl rfl 43 (by decide) (hts _ wd_1293) (fun _ h9 => h9) rfl d_Mod_goOn_334 ?_
                                    refine lv_iload hx hb d_Mod_goOn_337 (lv_at hl 4 rfl) ?_
                                    refine lv_iload hx hb d_Mod_goOn_339 (lv_at hl 2 rfl) ?_
                                    refine lv_iadd hx hb d_Mod_goOn_341 ?_
                                    refine tw_ri (e2 := nI (128 * tt + k)) (nI_add _ _) ?_
                                    refine lv_iconst (v := 0) hx hb d_Mod_goOn_342 (by decide) ?_
                                    refine va_iast hx hb hK hP hD hS 3 0 rfl rfl (vp_in_nI (by omega) (by decide)) d_Mod_goOn_343 (fun H locs hP hD hS => ?_)
                                    have hP : va_P g.1 classes [(h0, .inr (10, mob q rf n mm mb fa fp av ev wi mn tp tc sc nf fd me mp xn mt wh tq ag an ig)), ((q 41), aI g 600 dp), ((q 42), aZ g 600 iw), ((q 43), aI g 76800 (upd kd8 (nI (128 * tt + k)).toNatClampNeg 0)), ((q 47), aI g 128 nw), ((q 48), aI g 64 bf)] H := hP
                                    have hD : va_D A [(h0, .inr (10, mob q rf n mm mb fa fp av ev wi mn tp tc sc nf fd me mp xn mt wh tq ag an ig)), ((q 41), aI g 600 dp), ((q 42), aZ g 600 iw), ((q 43), aI g 76800 (upd kd8 (nI (128 * tt + k)).toNatClampNeg 0)), ((q 47), aI g 128 nw), ((q 48), aI g 64 bf)] := hD
                                    have e9 : upd kd8 (nI (128 * tt + k)).toNatClampNeg 0 = upd kd8 (128 * tt + k) 0 := by rw [nI_clamp (by omega)]
                                    rw [e9] at hP hD
                                    refine lv_iconst (v := 1) hx hb d_Mod_goOn_344 (by decide) ?_
                                    refine lv_istore hx hb d_Mod_goOn_345 hl (by decide) rfl (fun ls hl => ?_)
                                    have hl : lv_has ls 10 [(6, .int 1), (9, .int 1), (8, .int (kd8 (128 * tt + k))), (7, .int (nI k)), (4, .int (nI (128 * tt))), (0, .ref h0), (1, .int (nI tt)), (2, .ref (q 48)), (3, .int (nI dd))] := hl
                                    refine lv_iinc (k := 3) (v := nI (k + 1)) hx hb d_Mod_goOn_347 hl rfl ((nI_succ k).symm) (by decide) rfl (fun ls hl => ?_)
                                    have hl : lv_has ls 10 [(7, .int (nI (k + 1))), (6, .int 1), (9, .int 1), (8, .int (kd8 (128 * tt + k))), (4, .int (nI (128 * tt))), (0, .ref h0), (1, .int (nI tt)), (2, .ref (q 48)), (3, .int (nI dd))] := hl
                                    refine lv_goto (tgt := 246) hx hb d_Mod_goOn_350 (by decide) ?_
                                    have hP : va_P g.1 classes [(h0, .inr (10, mob q rf n mm mb fa fp av ev wi mn tp tc sc nf fd me mp xn mt wh tq ag an ig)), ((q 41), aI g 600 dp), ((q 42), aZ g 600 iw), ((q 43), aI g 76800 (upd kd8 (128 * tt + k) 0)), ((q 47), aI g 128 nw), ((q 48), aI g 64 bf)] H := hP.sub [0, 1, 2, 3, 4, 5] rfl
                                    have hD : va_D A [(h0, .inr (10, mob q rf n mm mb fa fp av ev wi mn tp tc sc nf fd me mp xn mt wh tq ag an ig)), ((q 41), aI g 600 dp), ((q 42), aZ g 600 iw), ((q 43), aI g 76800 (upd kd8 (128 * tt + k) 0)), ((q 47), aI g 128 nw), ((q 48), aI g 64 bf)] := hD.sub [0, 1, 2, 3, 4, 5] (by decide) rfl
                                    exact ih246 _ (by omega) 1 (k + 1) (upd kd8 (128 * tt + k) 0) ls _ _ rfl (by omega) (hKD8.put (fun _ => by decide)) (nk_dn hCN8 (by omega) (by omega) (by rw [h268]; decide)) (lv_sub hl [0, 1, 4, 5, 6, 7, 8] rfl) hP hD hS
                                · refine lv_iload hx hb d_Mod_goOn_294 (lv_at hl 0 rfl) ?_
                                  refine lv_iconst (v := 3) hx hb d_Mod_goOn_296 (by decide) ?_
                                  refine lv_icmp_ne (tgt := 325) hx hb d_Mod_goOn_297 (by decide) (fun h297 => ?_) (fun h297 => ?_)
                                  · refine lv_iconst (v := 0) hx hb d_Mod_goOn_325 (by decide) ?_
                                    refine lv_istore hx hb d_Mod_goOn_326 hl (by decide) rfl (fun ls hl => ?_)
                                    have hl : lv_has ls 10 [(9, .int 0), (8, .int (kd8 (128 * tt + k))), (7, .int (nI k)), (6, .int c8), (4, .int (nI (128 * tt))), (0, .ref h0), (1, .int (nI tt)), (2, .ref (q 48)), (3, .int (nI dd))] := hl
                                    refine lv_iload hx hb d_Mod_goOn_328 (lv_at hl 0 rfl) ?_
                                    refine lv_if_eq (tgt := 347) hx hb d_Mod_goOn_330 (by decide) (fun h330 => ?_) (fun h330 => ?_)
                                    · refine lv_iinc (k := 2) (v := nI (k + 1)) hx hb d_Mod_goOn_347 hl rfl ((nI_succ k).symm) (by decide) rfl (fun ls hl => ?_)
                                      have hl : lv_has ls 10 [(7, .int (nI (k + 1))), (9, .int 0), (8, .int (kd8 (128 * tt + k))), (6, .int c8), (4, .int (nI (128 * tt))), (0, .ref h0), (1, .int (nI tt)), (2, .ref (q 48)), (3, .int (nI dd))] := hl
                                      refine lv_goto (tgt := 246) hx hb d_Mod_goOn_350 (by decide) ?_
                                      have hP : va_P g.1 classes [(h0, .inr (10, mob q rf n mm mb fa fp av ev wi mn tp tc sc nf fd me mp xn mt wh tq ag an ig)), ((q 41), aI g 600 dp), ((q 42), aZ g 600 iw), ((q 43), aI g 76800 kd8), ((q 47), aI g 128 nw), ((q 48), aI g 64 bf)] H := hP.sub [0, 1, 2, 3, 4, 5] rfl
                                      have hD : va_D A [(h0, .inr (10, mob q rf n mm mb fa fp av ev wi mn tp tc sc nf fd me mp xn mt wh tq ag an ig)), ((q 41), aI g 600 dp), ((q 42), aZ g 600 iw), ((q 43), aI g 76800 kd8), ((q 47), aI g 128 nw), ((q 48), aI g 64 bf)] := hD.sub [0, 1, 2, 3, 4, 5] (by decide) rfl
                                      exact ih246 _ (by omega) c8 (k + 1) kd8 ls _ _ rfl (by omega) hKD8 hCN8 (lv_sub hl [0, 3, 4, 5, 6, 7, 8] rfl) hP hD hS
                                    · first | exact absurd h330 (by decide) | exact absurd (by decide) h330
                                  · refine lv_iload hx hb d_Mod_goOn_300 (lv_at hl 1 rfl) ?_
                                    refine lv_if_eq (tgt := 321) hx hb d_Mod_goOn_302 (by decide) (fun h302 => ?_) (fun h302 => ?_)
                                    · refine lv_iconst (v := 1) hx hb d_Mod_goOn_321 (by decide) ?_
                                      refine lv_goto (tgt := 326) hx hb d_Mod_goOn_322 (by decide) ?_
                                      refine lv_istore hx hb d_Mod_goOn_326 hl (by decide) rfl (fun ls hl => ?_)
                                      have hl : lv_has ls 10 [(9, .int 1), (8, .int (kd8 (128 * tt + k))), (7, .int (nI k)), (6, .int c8), (4, .int (nI (128 * tt))), (0, .ref h0), (1, .int (nI tt)), (2, .ref (q 48)), (3, .int (nI dd))] := hl
                                      refine lv_iload hx hb d_Mod_goOn_328 (lv_at hl 0 rfl) ?_
                                      refine lv_if_eq (tgt := 347) hx hb d_Mod_goOn_330 (by decide) (fun h330 => ?_) (fun h330 => ?_)
                                      · first | exact absurd h330 (by decide) | exact absurd (by decide) h330
                                      · refine lv_aload_n hx hb d_Mod_goOn_333 rfl (lv_at hl 5 rfl) ?_
                                        refine va_get (D := g.1) (ci := 10) (v := .ref (q 43)) (C := R_Mod) (T := F_Mod) (N := 61) hx hb hts in_Mod hown hK hP 0 rfl rfl 43 (by decide) (hts _ wd_1293) (fun _ h9 => h9) rfl d_Mod_goOn_334 ?_
                                        refine lv_iload hx hb d_Mod_goOn_337 (lv_at hl 4 rfl) ?_
                                        refine lv_iload hx hb d_Mod_goOn_339 (lv_at hl 2 rfl) ?_
                                        refine lv_iadd hx hb d_Mod_goOn_341 ?_
                                        refine tw_ri (e2 := nI (128 * tt + k)) (nI_add _ _) ?_
                                        refine lv_iconst (v := 0) hx hb d_Mod_goOn_342 (by decide) ?_
                                        refine va_iast hx hb hK hP hD hS 3 0 rfl rfl (vp_in_nI (by omega) (by decide)) d_Mod_goOn_343 (fun H locs hP hD hS => ?_)
                                        have hP : va_P g.1 classes [(h0, .inr (10, mob q rf n mm mb fa fp av ev wi mn tp tc sc nf fd me mp xn mt wh tq ag an ig)), ((q 41), aI g 600 dp), ((q 42), aZ g 600 iw), ((q 43), aI g 76800 (upd kd8 (nI (128 * tt + k)).toNatClampNeg 0)), ((q 47), aI g 128 nw), ((q 48), aI g 64 bf)] H := hP
                                        have hD : va_D A [(h0, .inr (10, mob q rf n mm mb fa fp av ev wi mn tp tc sc nf fd me mp xn mt wh tq ag an ig)), ((q 41), aI g 600 dp), ((q 42), aZ g 600 iw), ((q 43), aI g 76800 (upd kd8 (nI (128 * tt + k)).toNatClampNeg 0)), ((q 47), aI g 128 nw), ((q 48), aI g 64 bf)] := hD
                                        have e9 : upd kd8 (nI (128 * tt + k)).toNatClampNeg 0 = upd kd8 (128 * tt + k) 0 := by rw [nI_clamp (by omega)]
                                        rw [e9] at hP hD
                                        refine lv_iconst (v := 1) hx hb d_Mod_goOn_344 (by decide) ?_
                                        refine lv_istore hx hb d_Mod_goOn_345 hl (by decide) rfl (fun ls hl => ?_)
                                        have hl : lv_has ls 10 [(6, .int 1), (9, .int 1), (8, .int (kd8 (128 * tt + k))), (7, .int (nI k)), (4, .int (nI (128 * tt))), (0, .ref h0), (1, .int (nI tt)), (2, .ref (q 48)), (3, .int (nI dd))] := hl
                                        refine lv_iinc (k := 3) (v := nI (k + 1)) hx hb d_Mod_goOn_347 hl rfl ((nI_succ k).symm) (by decide) rfl (fun ls hl => ?_)
                                        have hl : lv_has ls 10 [(7, .int (nI (k + 1))), (6, .int 1), (9, .int 1), (8, .int (kd8 (128 * tt + k))), (4, .int (nI (128 * tt))), (0, .ref h0), (1, .int (nI tt)), (2, .ref (q 48)), (3, .int (nI dd))] := hl
                                        refine lv_goto (tgt := 246) hx hb d_Mod_goOn_350 (by decide) ?_
                                        have hP : va_P g.1 classes [(h0, .inr (10, mob q rf n mm mb fa fp av ev wi mn tp tc sc nf fd me mp xn mt wh tq ag an ig)), ((q 41), aI g 600 dp), ((q 42), aZ g 600 iw), ((q 43), aI g 76800 (upd kd8 (128 * tt + k) 0)), ((q 47), aI g 128 nw), ((q 48), aI g 64 bf)] H := hP.sub [0, 1, 2, 3, 4, 5] rfl
                                        have hD : va_D A [(h0, .inr (10, mob q rf n mm mb fa fp av ev wi mn tp tc sc nf fd me mp xn mt wh tq ag an ig)), ((q 41), aI g 600 dp), ((q 42), aZ g 600 iw), ((q 43), aI g 76800 (upd kd8 (128 * tt + k) 0)), ((q 47), aI g 128 nw), ((q 48), aI g 64 bf)] := hD.sub [0, 1, 2, 3, 4, 5] (by decide) rfl
                                        exact ih246 _ (by omega) 1 (k + 1) (upd kd8 (128 * tt + k) 0) ls _ _ rfl (by omega) (hKD8.put (fun _ => by decide)) (nk_dn hCN8 (by omega) (by omega) (by rw [h297]; decide)) (lv_sub hl [0, 1, 4, 5, 6, 7, 8] rfl) hP hD hS
                                    · have h302 := tn_ne (b := 0) h302
                                      refine lv_aload_n hx hb d_Mod_goOn_305 rfl (lv_at hl 4 rfl) ?_
                                      refine va_get (D := g.1) (ci := 10) (v := .ref (q 43)) (C := R_Mod) (T := F_Mod) (N := 61) hx hb hts in_Mod hown hK hP 0 rfl rfl 43 (by decide) (hts _ wd_1293) (fun _ h9 => h9) rfl d_Mod_goOn_306 ?_
                                      refine lv_iload hx hb d_Mod_goOn_309 (lv_at hl 3 rfl) ?_
                                      refine lv_iload hx hb d_Mod_goOn_311 (lv_at hl 1 rfl) ?_
                                      refine lv_iadd hx hb d_Mod_goOn_313 ?_
                                      refine tw_ri (e2 := nI (128 * tt + k)) (nI_add _ _) ?_
                                      refine lv_iconst (v := 1) hx hb d_Mod_goOn_314 (by decide) ?_
                                      refine lv_isub hx hb d_Mod_goOn_315 ?_
                                      refine tw_ri (e2 := nI (128 * tt + k - 1)) (pk_sub (b := 1) (by omega)) ?_
                                      refine va_iald hx hb hK hP 3 0 rfl rfl (vp_in_nI (by omega) (by decide)) d_Mod_goOn_316 ?_
                                      obtain ⟨x5, ex5⟩ : ∃ z : Int32, kd8 ((nI (128 * tt + k - 1)).toNatClampNeg) = z := ⟨_, rfl⟩
                                      refine tw_ri (e2 := x5) ex5 ?_
                                      refine lv_iconst (v := 2) hx hb d_Mod_goOn_317 (by decide) ?_
                                      refine lv_icmp_eq (tgt := 325) hx hb d_Mod_goOn_318 (by decide) (fun h318 => ?_) (fun h318 => ?_)
                                      · refine lv_iconst (v := 0) hx hb d_Mod_goOn_325 (by decide) ?_
                                        refine lv_istore hx hb d_Mod_goOn_326 hl (by decide) rfl (fun ls hl => ?_)
                                        have hl : lv_has ls 10 [(9, .int 0), (8, .int (kd8 (128 * tt + k))), (7, .int (nI k)), (6, .int c8), (4, .int (nI (128 * tt))), (0, .ref h0), (1, .int (nI tt)), (2, .ref (q 48)), (3, .int (nI dd))] := hl
                                        refine lv_iload hx hb d_Mod_goOn_328 (lv_at hl 0 rfl) ?_
                                        refine lv_if_eq (tgt := 347) hx hb d_Mod_goOn_330 (by decide) (fun h330 => ?_) (fun h330 => ?_)
                                        · refine lv_iinc (k := 2) (v := nI (k + 1)) hx hb d_Mod_goOn_347 hl rfl ((nI_succ k).symm) (by decide) rfl (fun ls hl => ?_)
                                          have hl : lv_has ls 10 [(7, .int (nI (k + 1))), (9, .int 0), (8, .int (kd8 (128 * tt + k))), (6, .int c8), (4, .int (nI (128 * tt))), (0, .ref h0), (1, .int (nI tt)), (2, .ref (q 48)), (3, .int (nI dd))] := hl
                                          refine lv_goto (tgt := 246) hx hb d_Mod_goOn_350 (by decide) ?_
                                          have hP : va_P g.1 classes [(h0, .inr (10, mob q rf n mm mb fa fp av ev wi mn tp tc sc nf fd me mp xn mt wh tq ag an ig)), ((q 41), aI g 600 dp), ((q 42), aZ g 600 iw), ((q 43), aI g 76800 kd8), ((q 47), aI g 128 nw), ((q 48), aI g 64 bf)] H := hP.sub [0, 1, 2, 3, 4, 5] rfl
                                          have hD : va_D A [(h0, .inr (10, mob q rf n mm mb fa fp av ev wi mn tp tc sc nf fd me mp xn mt wh tq ag an ig)), ((q 41), aI g 600 dp), ((q 42), aZ g 600 iw), ((q 43), aI g 76800 kd8), ((q 47), aI g 128 nw), ((q 48), aI g 64 bf)] := hD.sub [0, 1, 2, 3, 4, 5] (by decide) rfl
                                          exact ih246 _ (by omega) c8 (k + 1) kd8 ls _ _ rfl (by omega) hKD8 hCN8 (lv_sub hl [0, 3, 4, 5, 6, 7, 8] rfl) hP hD hS
                                        · first | exact absurd h330 (by decide) | exact absurd (by decide) h330
                                      · refine lv_iconst (v := 1) hx hb d_Mod_goOn_321 (by decide) ?_
                                        refine lv_goto (tgt := 326) hx hb d_Mod_goOn_322 (by decide) ?_
                                        refine lv_istore hx hb d_Mod_goOn_326 hl (by decide) rfl (fun ls hl => ?_)
                                        have hl : lv_has ls 10 [(9, .int 1), (8, .int (kd8 (128 * tt + k))), (7, .int (nI k)), (6, .int c8), (4, .int (nI (128 * tt))), (0, .ref h0), (1, .int (nI tt)), (2, .ref (q 48)), (3, .int (nI dd))] := hl
                                        refine lv_iload hx hb d_Mod_goOn_328 (lv_at hl 0 rfl) ?_
                                        refine lv_if_eq (tgt := 347) hx hb d_Mod_goOn_330 (by decide) (fun h330 => ?_) (fun h330 => ?_)
                                        · first | exact absurd h330 (by decide) | exact absurd (by decide) h330
                                        · refine lv_aload_n hx hb d_Mod_goOn_333 rfl (lv_at hl 5 rfl) ?_
                                          refine va_get (D := g.1) (ci := 10) (v := .ref (q 43)) (C := R_Mod) (T := F_Mod) (N := 61) hx hb hts in_Mod hown hK hP 0 rfl rfl 43 (by decide) (hts _ wd_1293) (fun _ h9 => h9) rfl d_Mod_goOn_334 ?_
                                          refine lv_iload hx hb d_Mod_goOn_337 (lv_at hl 4 rfl) ?_
                                          refine lv_iload hx hb d_Mod_goOn_339 (lv_at hl 2 rfl) ?_
                                          refine lv_iadd hx hb d_Mod_goOn_341 ?_
                                          refine tw_ri (e2 := nI (128 * tt + k)) (nI_add _ _) ?_
                                          refine lv_iconst (v := 0) hx hb d_Mod_goOn_342 (by decide) ?_
                                          refine va_iast hx hb hK hP hD hS 3 0 rfl rfl (vp_in_nI (by omega) (by decide)) d_Mod_goOn_343 (fun H locs hP hD hS => ?_)
                                          have hP : va_P g.1 classes [(h0, .inr (10, mob q rf n mm mb fa fp av ev wi mn tp tc sc nf fd me mp xn mt wh tq ag an ig)), ((q 41), aI g 600 dp), ((q 42), aZ g 600 iw), ((q 43), aI g 76800 (upd kd8 (nI (128 * tt + k)).toNatClampNeg 0)), ((q 47), aI g 128 nw), ((q 48), aI g 64 bf)] H := hP
                                          have hD : va_D A [(h0, .inr (10, mob q rf n mm mb fa fp av ev wi mn tp tc sc nf fd me mp xn mt wh tq ag an ig)), ((q 41), aI g 600 dp), ((q 42), aZ g 600 iw), ((q 43), aI g 76800 (upd kd8 (nI (128 * tt + k)).toNatClampNeg 0)), ((q 47), aI g 128 nw), ((q 48), aI g 64 bf)] := hD
                                          have e9 : upd kd8 (nI (128 * tt + k)).toNatClampNeg 0 = upd kd8 (128 * tt + k) 0 := by rw [nI_clamp (by omega)]
                                          rw [e9] at hP hD
                                          refine lv_iconst (v := 1) hx hb d_Mod_goOn_344 (by decide) ?_
                                          refine lv_istore hx hb d_Mod_goOn_345 hl (by decide) rfl (fun ls hl => ?_)
                                          have hl : lv_has ls 10 [(6, .int 1), (9, .int 1), (8, .int (kd8 (128 * tt + k))), (7, .int (nI k)), (4, .int (nI (128 * tt))), (0, .ref h0), (1, .int (nI tt)), (2, .ref (q 48)), (3, .int (nI dd))] := hl
                                          refine lv_iinc (k := 3) (v := nI (k + 1)) hx hb d_Mod_goOn_347 hl rfl ((nI_succ k).symm) (by decide) rfl (fun ls hl => ?_)
                                          have hl : lv_has ls 10 [(7, .int (nI (k + 1))), (6, .int 1), (9, .int 1), (8, .int (kd8 (128 * tt + k))), (4, .int (nI (128 * tt))), (0, .ref h0), (1, .int (nI tt)), (2, .ref (q 48)), (3, .int (nI dd))] := hl
                                          refine lv_goto (tgt := 246) hx hb d_Mod_goOn_350 (by decide) ?_
                                          have hP : va_P g.1 classes [(h0, .inr (10, mob q rf n mm mb fa fp av ev wi mn tp tc sc nf fd me mp xn mt wh tq ag an ig)), ((q 41), aI g 600 dp), ((q 42), aZ g 600 iw), ((q 43), aI g 76800 (upd kd8 (128 * tt + k) 0)), ((q 47), aI g 128 nw), ((q 48), aI g 64 bf)] H := hP.sub [0, 1, 2, 3, 4, 5] rfl
                                          have hD : va_D A [(h0, .inr (10, mob q rf n mm mb fa fp av ev wi mn tp tc sc nf fd me mp xn mt wh tq ag an ig)), ((q 41), aI g 600 dp), ((q 42), aZ g 600 iw), ((q 43), aI g 76800 (upd kd8 (128 * tt + k) 0)), ((q 47), aI g 128 nw), ((q 48), aI g 64 bf)] := hD.sub [0, 1, 2, 3, 4, 5] (by decide) rfl
                                          exact ih246 _ (by omega) 1 (k + 1) (upd kd8 (128 * tt + k) 0) ls _ _ rfl (by omega) (hKD8.put (fun _ => by decide)) (nk_dn hCN8 (by omega) (by omega) (by rw [h297]; decide)) (lv_sub hl [0, 1, 4, 5, 6, 7, 8] rfl) hP hD hS
                      exact loop246 _ c9 0 kd9 ls _ _ rfl (Nat.zero_le _) hKD hCN (lv_sub hl [0, 1, 3, 4, 5, 6, 7] rfl) hP hD hS
                    · have h190 := tn_nle (a := 64) h190 (by decide) (by omega)
                      refine lv_aload_n hx hb d_Mod_goOn_193 rfl (lv_at hl 4 rfl) ?_
                      refine va_get (D := g.1) (ci := 10) (v := .ref (q 43)) (C := R_Mod) (T := F_Mod) (N := 61) hx hb hts in_Mod hown hK hP 0 rfl rfl 43 (by decide) (hts _ wd_1293) (fun _ h9 => h9) rfl d_Mod_goOn_194 ?_
                      refine lv_iload hx hb d_Mod_goOn_197 (lv_at hl 3 rfl) ?_
                      refine lv_iload hx hb d_Mod_goOn_199 (lv_at hl 0 rfl) ?_
                      refine lv_iadd hx hb d_Mod_goOn_201 ?_
                      refine tw_ri (e2 := nI (128 * tt + k)) (nI_add _ _) ?_
                      refine va_iald hx hb hK hP 3 0 rfl rfl (vp_in_nI (by omega) (by decide)) d_Mod_goOn_202 ?_
                      refine tw_ri (e2 := kd9 (128 * tt + k)) (by rw [nI_clamp (by omega)]) ?_
                      refine lv_aload_n hx hb d_Mod_goOn_203 rfl (lv_at hl 6 rfl) ?_
                      refine lv_iload hx hb d_Mod_goOn_204 (lv_at hl 0 rfl) ?_
                      refine va_iald hx hb hK hP 5 0 rfl rfl (vp_in_nI (by omega) (by decide)) d_Mod_goOn_206 ?_
                      refine tw_ri (e2 := bf k) (by rw [nI_clamp (by omega)]) ?_
                      refine lv_icmp_eq (tgt := 237) hx hb d_Mod_goOn_207 (by decide) (fun h207 => ?_) (fun h207 => ?_)
                      · refine lv_iinc (k := 0) (v := nI (k + 1)) hx hb d_Mod_goOn_237 hl rfl ((nI_succ k).symm) (by decide) rfl (fun ls hl => ?_)
                        have hl : lv_has ls 10 [(7, .int (nI (k + 1))), (6, .int c9), (5, .int s9), (4, .int (nI (128 * tt))), (0, .ref h0), (1, .int (nI tt)), (2, .ref (q 48)), (3, .int (nI dd))] := hl
                        refine lv_goto (tgt := 186) hx hb d_Mod_goOn_240 (by decide) ?_
                        have hP : va_P g.1 classes [(h0, .inr (10, mob q rf n mm mb fa fp av ev wi mn tp tc sc nf fd me mp xn mt wh tq ag an ig)), ((q 41), aI g 600 dp), ((q 42), aZ g 600 iw), ((q 43), aI g 76800 kd9), ((q 47), aI g 128 nw), ((q 48), aI g 64 bf)] H := hP.sub [0, 1, 2, 3, 4, 5] rfl
                        have hD : va_D A [(h0, .inr (10, mob q rf n mm mb fa fp av ev wi mn tp tc sc nf fd me mp xn mt wh tq ag an ig)), ((q 41), aI g 600 dp), ((q 42), aZ g 600 iw), ((q 43), aI g 76800 kd9), ((q 47), aI g 128 nw), ((q 48), aI g 64 bf)] := hD.sub [0, 1, 2, 3, 4, 5] (by decide) rfl
                        exact ih186 _ (by omega) c9 (k + 1) kd9 ls _ _ rfl (by omega) hKD hCN (lv_sub hl [0, 1, 2, 3, 4, 5, 6, 7] rfl) hP hD hS
                      · refine lv_aload_n hx hb d_Mod_goOn_210 rfl (lv_at hl 4 rfl) ?_
                        refine va_get (D := g.1) (ci := 10) (v := .ref (q 43)) (C := R_Mod) (T := F_Mod) (N := 61) hx hb hts in_Mod hown hK hP 0 rfl rfl 43 (by decide) (hts _ wd_1293) (fun _ h9 => h9) rfl d_Mod_goOn_211 ?_
                        refine lv_iload hx hb d_Mod_goOn_214 (lv_at hl 3 rfl) ?_
                        refine lv_iload hx hb d_Mod_goOn_216 (lv_at hl 0 rfl) ?_
                        refine lv_iadd hx hb d_Mod_goOn_218 ?_
                        refine tw_ri (e2 := nI (128 * tt + k)) (nI_add _ _) ?_
                        refine va_iald hx hb hK hP 3 0 rfl rfl (vp_in_nI (by omega) (by decide)) d_Mod_goOn_219 ?_
                        refine tw_ri (e2 := kd9 (128 * tt + k)) (by rw [nI_clamp (by omega)]) ?_
                        refine lv_if_eq (tgt := 237) hx hb d_Mod_goOn_220 (by decide) (fun h220 => ?_) (fun h220 => ?_)
                        · refine lv_iinc (k := 0) (v := nI (k + 1)) hx hb d_Mod_goOn_237 hl rfl ((nI_succ k).symm) (by decide) rfl (fun ls hl => ?_)
                          have hl : lv_has ls 10 [(7, .int (nI (k + 1))), (6, .int c9), (5, .int s9), (4, .int (nI (128 * tt))), (0, .ref h0), (1, .int (nI tt)), (2, .ref (q 48)), (3, .int (nI dd))] := hl
                          refine lv_goto (tgt := 186) hx hb d_Mod_goOn_240 (by decide) ?_
                          have hP : va_P g.1 classes [(h0, .inr (10, mob q rf n mm mb fa fp av ev wi mn tp tc sc nf fd me mp xn mt wh tq ag an ig)), ((q 41), aI g 600 dp), ((q 42), aZ g 600 iw), ((q 43), aI g 76800 kd9), ((q 47), aI g 128 nw), ((q 48), aI g 64 bf)] H := hP.sub [0, 1, 2, 3, 4, 5] rfl
                          have hD : va_D A [(h0, .inr (10, mob q rf n mm mb fa fp av ev wi mn tp tc sc nf fd me mp xn mt wh tq ag an ig)), ((q 41), aI g 600 dp), ((q 42), aZ g 600 iw), ((q 43), aI g 76800 kd9), ((q 47), aI g 128 nw), ((q 48), aI g 64 bf)] := hD.sub [0, 1, 2, 3, 4, 5] (by decide) rfl
                          exact ih186 _ (by omega) c9 (k + 1) kd9 ls _ _ rfl (by omega) hKD hCN (lv_sub hl [0, 1, 2, 3, 4, 5, 6, 7] rfl) hP hD hS
                        · refine lv_aload_n hx hb d_Mod_goOn_223 rfl (lv_at hl 4 rfl) ?_
                          refine va_get (D := g.1) (ci := 10) (v := .ref (q 43)) (C := R_Mod) (T := F_Mod) (N := 61) hx hb hts in_Mod hown hK hP 0 rfl rfl 43 (by decide) (hts _ wd_1293) (fun _ h9 => h9) rfl d_Mod_goOn_224 ?_
                          refine lv_iload hx hb d_Mod_goOn_227 (lv_at hl 3 rfl) ?_
                          refine lv_iload hx hb d_Mod_goOn_229 (lv_at hl 0 rfl) ?_
                          refine lv_iadd hx hb d_Mod_goOn_231 ?_
                          refine tw_ri (e2 := nI (128 * tt + k)) (nI_add _ _) ?_
                          refine lv_iconst (v := 0) hx hb d_Mod_goOn_232 (by decide) ?_
                          refine va_iast hx hb hK hP hD hS 3 0 rfl rfl (vp_in_nI (by omega) (by decide)) d_Mod_goOn_233 (fun H locs hP hD hS => ?_)
                          have hP : va_P g.1 classes [(h0, .inr (10, mob q rf n mm mb fa fp av ev wi mn tp tc sc nf fd me mp xn mt wh tq ag an ig)), ((q 41), aI g 600 dp), ((q 42), aZ g 600 iw), ((q 43), aI g 76800 (upd kd9 (nI (128 * tt + k)).toNatClampNeg 0)), ((q 47), aI g 128 nw), ((q 48), aI g 64 bf)] H := hP
                          have hD : va_D A [(h0, .inr (10, mob q rf n mm mb fa fp av ev wi mn tp tc sc nf fd me mp xn mt wh tq ag an ig)), ((q 41), aI g 600 dp), ((q 42), aZ g 600 iw), ((q 43), aI g 76800 (upd kd9 (nI (128 * tt + k)).toNatClampNeg 0)), ((q 47), aI g 128 nw), ((q 48), aI g 64 bf)] := hD
                          have e9 : upd kd9 (nI (128 * tt + k)).toNatClampNeg 0 = upd kd9 (128 * tt + k) 0 := by rw [nI_clamp (by omega)]
                          rw [e9] at hP hD
                          refine lv_iconst (v := 1) hx hb d_Mod_goOn_234 (by decide) ?_
                          refine lv_istore hx hb d_Mod_goOn_235 hl (by decide) rfl (fun ls hl => ?_)
                          have hl : lv_has ls 10 [(6, .int 1), (7, .int (nI k)), (5, .int s9), (4, .int (nI (128 * tt))), (0, .ref h0), (1, .int (nI tt)), (2, .ref (q 48)), (3, .int (nI dd))] := hl
                          refine lv_iinc (k := 1) (v := nI (k + 1)) hx hb d_Mod_goOn_237 hl rfl ((nI_succ k).symm) (by decide) rfl (fun ls hl => ?_)
                          have hl : lv_has ls 10 [(7, .int (nI (k + 1))), (6, .int 1), (5, .int s9), (4, .int (nI (128 * tt))), (0, .ref h0), (1, .int (nI tt)), (2, .ref (q 48)), (3, .int (nI dd))] := hl
                          refine lv_goto (tgt := 186) hx hb d_Mod_goOn_240 (by decide) ?_
                          have hP : va_P g.1 classes [(h0, .inr (10, mob q rf n mm mb fa fp av ev wi mn tp tc sc nf fd me mp xn mt wh tq ag an ig)), ((q 41), aI g 600 dp), ((q 42), aZ g 600 iw), ((q 43), aI g 76800 (upd kd9 (128 * tt + k) 0)), ((q 47), aI g 128 nw), ((q 48), aI g 64 bf)] H := hP.sub [0, 1, 2, 3, 4, 5] rfl
                          have hD : va_D A [(h0, .inr (10, mob q rf n mm mb fa fp av ev wi mn tp tc sc nf fd me mp xn mt wh tq ag an ig)), ((q 41), aI g 600 dp), ((q 42), aZ g 600 iw), ((q 43), aI g 76800 (upd kd9 (128 * tt + k) 0)), ((q 47), aI g 128 nw), ((q 48), aI g 64 bf)] := hD.sub [0, 1, 2, 3, 4, 5] (by decide) rfl
                          exact ih186 _ (by omega) 1 (k + 1) (upd kd9 (128 * tt + k) 0) ls _ _ rfl (by omega) (hKD.put (fun _ => by decide)) (nk_dn hCN (by omega) (by omega) h220) (lv_sub hl [0, 1, 2, 3, 4, 5, 6, 7] rfl) hP hD hS
                exact loop186 _ 0 0 kd ls _ _ rfl (Nat.zero_le _) hFR.2.2 (Or.inl ⟨rfl, rfl⟩) (hl) hP hD hS
              · exact absurd h166 h116
            · have h122 := tn_nle h122 (by omega) (by omega)
              refine lv_aload_n hx hb d_Mod_goOn_125 rfl (lv_at hl 3 rfl) ?_
              refine va_get (D := g.1) (ci := 10) (v := .ref (q 43)) (C := R_Mod) (T := F_Mod) (N := 61) hx hb hts in_Mod hown hK hP 0 rfl rfl 43 (by decide) (hts _ wd_1293) (fun _ h9 => h9) rfl d_Mod_goOn_126 ?_
              refine lv_iload hx hb d_Mod_goOn_129 (lv_at hl 2 rfl) ?_
              refine lv_bipush (v := 64) hx hb d_Mod_goOn_131 (by decide) ?_
              refine lv_iadd hx hb d_Mod_goOn_133 ?_
              refine tw_ri (e2 := nI (128 * tt + 64)) (nI_add _ 64) ?_
              refine lv_iload hx hb d_Mod_goOn_134 (lv_at hl 0 rfl) ?_
              refine lv_iadd hx hb d_Mod_goOn_136 ?_
              refine tw_ri (e2 := nI (128 * tt + 64 + k)) (nI_add _ _) ?_
              refine va_iald hx hb hK hP 3 0 rfl rfl (vp_in_nI (by omega) (by decide)) d_Mod_goOn_137 ?_
              obtain ⟨x6, ex6⟩ : ∃ z : Int32, kd ((nI (128 * tt + 64 + k)).toNatClampNeg) = z := ⟨_, rfl⟩
              refine tw_ri (e2 := x6) ex6 ?_
              refine lv_aload_n hx hb d_Mod_goOn_138 rfl (lv_at hl 3 rfl) ?_
              refine va_get (D := g.1) (ci := 10) (v := .ref (q 47)) (C := R_Mod) (T := F_Mod) (N := 61) hx hb hts in_Mod hown hK hP 0 rfl rfl 47 (by decide) (hts _ wd_1297) (fun _ h9 => h9) rfl d_Mod_goOn_139 ?_
              refine lv_bipush (v := 64) hx hb d_Mod_goOn_142 (by decide) ?_
              refine lv_iload hx hb d_Mod_goOn_144 (lv_at hl 0 rfl) ?_
              refine lv_iadd hx hb d_Mod_goOn_146 ?_
              refine tw_ri (e2 := nI (64 + k)) (nI_add 64 k) ?_
              refine va_iald hx hb hK hP 4 0 rfl rfl (vp_in_nI (by omega) (by decide)) d_Mod_goOn_147 ?_
              obtain ⟨x7, ex7⟩ : ∃ z : Int32, nw ((nI (64 + k)).toNatClampNeg) = z := ⟨_, rfl⟩
              refine tw_ri (e2 := x7) ex7 ?_
              refine lv_icmp_ne (tgt := 155) hx hb d_Mod_goOn_148 (by decide) (fun h148 => ?_) (fun h148 => ?_)
              · refine lv_iconst (v := 0) hx hb d_Mod_goOn_155 (by decide) ?_
                refine lv_istore hx hb d_Mod_goOn_156 hl (by decide) rfl (fun ls hl => ?_)
                have hl : lv_has ls 10 [(5, .int 0), (6, .int (nI k)), (4, .int (nI (128 * tt))), (0, .ref h0), (1, .int (nI tt)), (2, .ref (q 48)), (3, .int (nI dd))] := hl
                refine lv_iinc (k := 1) (v := nI (k + 1)) hx hb d_Mod_goOn_158 hl rfl ((nI_succ k).symm) (by decide) rfl (fun ls hl => ?_)
                have hl : lv_has ls 10 [(6, .int (nI (k + 1))), (5, .int 0), (4, .int (nI (128 * tt))), (0, .ref h0), (1, .int (nI tt)), (2, .ref (q 48)), (3, .int (nI dd))] := hl
                refine lv_goto (tgt := 114) hx hb d_Mod_goOn_161 (by decide) ?_
                have hP : va_P g.1 classes [(h0, .inr (10, mob q rf n mm mb fa fp av ev wi mn tp tc sc nf fd me mp xn mt wh tq ag an ig)), ((q 41), aI g 600 dp), ((q 42), aZ g 600 iw), ((q 43), aI g 76800 kd), ((q 47), aI g 128 nw), ((q 48), aI g 64 bf)] H := hP.sub [0, 1, 2, 3, 4, 5] rfl
                have hD : va_D A [(h0, .inr (10, mob q rf n mm mb fa fp av ev wi mn tp tc sc nf fd me mp xn mt wh tq ag an ig)), ((q 41), aI g 600 dp), ((q 42), aZ g 600 iw), ((q 43), aI g 76800 kd), ((q 47), aI g 128 nw), ((q 48), aI g 64 bf)] := hD.sub [0, 1, 2, 3, 4, 5] (by decide) rfl
                exact ih _ (by omega) 0 (k + 1) ls _ _ rfl (by omega) (lv_sub hl [0, 1, 2, 3, 4, 5, 6] rfl) hP hD hS
              · refine lv_iconst (v := 1) hx hb d_Mod_goOn_151 (by decide) ?_
                refine lv_goto (tgt := 156) hx hb d_Mod_goOn_152 (by decide) ?_
                refine lv_istore hx hb d_Mod_goOn_156 hl (by decide) rfl (fun ls hl => ?_)
                have hl : lv_has ls 10 [(5, .int 1), (6, .int (nI k)), (4, .int (nI (128 * tt))), (0, .ref h0), (1, .int (nI tt)), (2, .ref (q 48)), (3, .int (nI dd))] := hl
                refine lv_iinc (k := 1) (v := nI (k + 1)) hx hb d_Mod_goOn_158 hl rfl ((nI_succ k).symm) (by decide) rfl (fun ls hl => ?_)
                have hl : lv_has ls 10 [(6, .int (nI (k + 1))), (5, .int 1), (4, .int (nI (128 * tt))), (0, .ref h0), (1, .int (nI tt)), (2, .ref (q 48)), (3, .int (nI dd))] := hl
                refine lv_goto (tgt := 114) hx hb d_Mod_goOn_161 (by decide) ?_
                have hP : va_P g.1 classes [(h0, .inr (10, mob q rf n mm mb fa fp av ev wi mn tp tc sc nf fd me mp xn mt wh tq ag an ig)), ((q 41), aI g 600 dp), ((q 42), aZ g 600 iw), ((q 43), aI g 76800 kd), ((q 47), aI g 128 nw), ((q 48), aI g 64 bf)] H := hP.sub [0, 1, 2, 3, 4, 5] rfl
                have hD : va_D A [(h0, .inr (10, mob q rf n mm mb fa fp av ev wi mn tp tc sc nf fd me mp xn mt wh tq ag an ig)), ((q 41), aI g 600 dp), ((q 42), aZ g 600 iw), ((q 43), aI g 76800 kd), ((q 47), aI g 128 nw), ((q 48), aI g 64 bf)] := hD.sub [0, 1, 2, 3, 4, 5] (by decide) rfl
                exact ih _ (by omega) 1 (k + 1) ls _ _ rfl (by omega) (lv_sub hl [0, 1, 2, 3, 4, 5, 6] rfl) hP hD hS
      exact loop114 _ 0 0 ls _ _ rfl (Nat.zero_le _) (hl) hP hD hS
    · refine lv_iconst (v := 1) hx hb d_Mod_goOn_104 (by decide) ?_
      refine lv_goto (tgt := 109) hx hb d_Mod_goOn_105 (by decide) ?_
      refine lv_istore hx hb d_Mod_goOn_109 hl (by decide) rfl (fun ls hl => ?_)
      have hl : lv_has ls 10 [(5, .int 1), (4, .int (nI (128 * tt))), (0, .ref h0), (1, .int (nI tt)), (2, .ref (q 48)), (3, .int (nI dd))] := hl
      refine lv_iconst (v := 0) hx hb d_Mod_goOn_111 (by decide) ?_
      refine lv_istore hx hb d_Mod_goOn_112 hl (by decide) rfl (fun ls hl => ?_)
      have hl : lv_has ls 10 [(6, .int 0), (5, .int 1), (4, .int (nI (128 * tt))), (0, .ref h0), (1, .int (nI tt)), (2, .ref (q 48)), (3, .int (nI dd))] := hl
      have loop114 : ∀ (kq : Nat) (s9 : Int32) (k : Nat) (ls : Array Slot) (H : Heap) (locs : List Loc) , dd - k = kq → (hkd : k ≤ dd) → lv_has ls 10 [(6, .int (nI k)), (5, .int s9), (4, .int (nI (128 * tt))), (0, .ref h0), (1, .int (nI tt)), (2, .ref (q 48)), (3, .int (nI dd))] → va_P g.1 classes [(h0, .inr (10, mob q rf n mm mb fa fp av ev wi mn tp tc sc nf fd me mp xn mt wh tq ag an ig)), ((q 41), aI g 600 dp), ((q 42), aZ g 600 iw), ((q 43), aI g 76800 kd), ((q 47), aI g 128 nw), ((q 48), aI g 64 bf)] H → va_D A [(h0, .inr (10, mob q rf n mm mb fa fp av ev wi mn tp tc sc nf fd me mp xn mt wh tq ag an ig)), ((q 41), aI g 600 dp), ((q 42), aZ g 600 iw), ((q 43), aI g 76800 kd), ((q 47), aI g 128 nw), ((q 48), aI g 64 bf)] → va_S A s.heap H locs → W p l e ({ frames := 1, cells := 0, slots := 0, locals := 22 }) s m [.ref h0, .int (nI tt), .ref (q 48), .int (nI dd)].toArray below meth c H locs 0 0 (MQ below (tw_Qv g (fun (u : Int32 × Int32 × (Nat → Int32) × (Nat → Int32) × (Nat → Int32)) => (u.1 = 0 → fa = 0) ∧ (FRG u.2.2.1 u.2.2.2.1 u.2.2.2.2) ∧ (MU u.2.2.1 u.2.2.2.1 u.2.2.2.2 ≤ MU dp iw kd)) (fun u : Int32 × Int32 × (Nat → Int32) × (Nat → Int32) × (Nat → Int32) => [(h0, .inr (10, mob q rf n mm mb u.1 u.2.1 av ev wi mn tp tc sc nf fd me mp xn mt wh tq ag an ig)), ((q 41), aI g 600 u.2.2.1), ((q 42), aZ g 600 u.2.2.2.1), ((q 43), aI g 76800 u.2.2.2.2), ((q 47), aI g 128 nw), ((q 48), aI g 64 bf)]) A) [.ref h0, .int (nI tt), .ref (q 48), .int (nI dd)].toArray s 0 0 A) (F0 m 114 ls []) := by
        intro kq
        induction kq using Nat.strongRecOn with
        | _ kq ih =>
          intro s9 k ls H locs hk hkd hl hP hD hS
          refine lv_iload hx hb d_Mod_goOn_114 (lv_at hl 1 rfl) ?_
          refine lv_if_eq (tgt := 164) hx hb d_Mod_goOn_116 (by decide) (fun h116 => ?_) (fun h116 => ?_)
          · refine lv_iload hx hb d_Mod_goOn_164 (lv_at hl 1 rfl) ?_
            refine lv_if_ne (tgt := 180) hx hb d_Mod_goOn_166 (by decide) (fun h166 => ?_) (fun h166 => ?_)
            · exact absurd h116 h166
            · refine lv_aload_n hx hb d_Mod_goOn_169 rfl (lv_at hl 3 rfl) ?_
              refine lv_bipush (v := 25) hx hb d_Mod_goOn_170 (by decide) ?_
              refine lv_aload_n hx hb d_Mod_goOn_172 rfl (lv_at hl 3 rfl) ?_
              refine va_get (D := g.1) (ci := 10) (v := .int (nI wh)) (C := R_Mod) (T := F_Mod) (N := 61) hx hb hts in_Mod hown hK hP 0 rfl rfl 45 (by decide) (hts _ wd_1295) (fun _ h9 => h9) rfl d_Mod_goOn_173 ?_
              refine tw_wv (wr := [((q 41), aI g 600 dp), ((q 42), aZ g 600 iw), ((q 43), aI g 76800 kd), ((q 47), aI g 128 nw), ((q 48), aI g 64 bf)]) (tw_runV (ws := [(h0, .inr (10, mob q rf n mm mb fa fp av ev wi mn tp tc sc nf fd me mp xn mt wh tq ag an ig)), ((q 41), aI g 600 dp), ((q 42), aZ g 600 iw), ((q 43), aI g 76800 kd), ((q 47), aI g 128 nw), ((q 48), aI g 64 bf)]) (wc := [(h0, .inr (10, mob q rf n mm mb fa fp av ev wi mn tp tc sc nf fd me mp xn mt wh tq ag an ig))]) (As := [.int 25, .int (nI wh)]) (rest := []) E hB hK hZ (g_Mod_fail l g H.size h0 q rf n mm mb av ev wi mn tp tc sc nf fd me mp xn mt wh tq ag an ig fa fp 25 (nI wh) (by decide)) mc_Mod_fail mi_Mod_fail me_Mod_fail wd_1478 hP hD hS hA [0] rfl (by decide) 0 rfl rfl rfl rfl rfl (by decide) rfl hl.1 rfl (Nat.le_of_ble_eq_true rfl) (by decide) d_Mod_goOn_176) hP hD hS hA [0] [1, 2, 3, 4, 5] rfl rfl (by decide) (by decide) (fun u9 H locs hr8 hP hD hS => ?_)
              try dsimp only at hr8
              have hP : va_P g.1 classes [((q 41), aI g 600 dp), ((q 42), aZ g 600 iw), ((q 43), aI g 76800 kd), ((q 47), aI g 128 nw), ((q 48), aI g 64 bf), (h0, .inr (10, mob q rf n mm mb u9.1 u9.2 av ev wi mn tp tc sc nf fd me mp xn mt wh tq ag an ig))] H := hP
              have hD : va_D A [((q 41), aI g 600 dp), ((q 42), aZ g 600 iw), ((q 43), aI g 76800 kd), ((q 47), aI g 128 nw), ((q 48), aI g 64 bf), (h0, .inr (10, mob q rf n mm mb u9.1 u9.2 av ev wi mn tp tc sc nf fd me mp xn mt wh tq ag an ig))] := hD
              have hP : va_P g.1 classes [(h0, .inr (10, mob q rf n mm mb u9.1 u9.2 av ev wi mn tp tc sc nf fd me mp xn mt wh tq ag an ig)), ((q 41), aI g 600 dp), ((q 42), aZ g 600 iw), ((q 43), aI g 76800 kd), ((q 47), aI g 128 nw), ((q 48), aI g 64 bf)] H := hP.sub [5, 0, 1, 2, 3, 4] rfl
              have hD : va_D A [(h0, .inr (10, mob q rf n mm mb u9.1 u9.2 av ev wi mn tp tc sc nf fd me mp xn mt wh tq ag an ig)), ((q 41), aI g 600 dp), ((q 42), aZ g 600 iw), ((q 43), aI g 76800 kd), ((q 47), aI g 128 nw), ((q 48), aI g 64 bf)] := hD.sub [5, 0, 1, 2, 3, 4] (by decide) rfl
              have hp9_0 := hr8
              exact tw_vret E hS (u9.1, u9.2, dp, iw, kd) (⟨(fun h => absurd h hp9_0), hFR, (Nat.le_refl _)⟩) hP hD d_Mod_goOn_179
          · refine lv_iload hx hb d_Mod_goOn_119 (lv_at hl 0 rfl) ?_
            refine lv_iload_n hx hb d_Mod_goOn_121 rfl (lv_at hl 6 rfl) ?_
            refine lv_icmp_ge (tgt := 164) hx hb d_Mod_goOn_122 (by decide) (fun h122 => ?_) (fun h122 => ?_)
            · refine lv_iload hx hb d_Mod_goOn_164 (lv_at hl 1 rfl) ?_
              refine lv_if_ne (tgt := 180) hx hb d_Mod_goOn_166 (by decide) (fun h166 => ?_) (fun h166 => ?_)
              · refine lv_iconst (v := 0) hx hb d_Mod_goOn_180 (by decide) ?_
                refine lv_istore hx hb d_Mod_goOn_181 hl (by decide) rfl (fun ls hl => ?_)
                have hl : lv_has ls 10 [(6, .int 0), (5, .int s9), (4, .int (nI (128 * tt))), (0, .ref h0), (1, .int (nI tt)), (2, .ref (q 48)), (3, .int (nI dd))] := hl
                refine lv_iconst (v := 0) hx hb d_Mod_goOn_183 (by decide) ?_
                refine lv_istore hx hb d_Mod_goOn_184 hl (by decide) rfl (fun ls hl => ?_)
                have hl : lv_has ls 10 [(7, .int 0), (6, .int 0), (5, .int s9), (4, .int (nI (128 * tt))), (0, .ref h0), (1, .int (nI tt)), (2, .ref (q 48)), (3, .int (nI dd))] := hl
                have loop186 : ∀ (kq : Nat) (c9 : Int32) (k : Nat) (kd9 : Nat → Int32) (ls : Array Slot) (H : Heap) (locs : List Loc) , 64 - k = kq → (hk4 : k ≤ 64) → (hKD : KD3 kd9) → (hCN : CHN c9 (NK kd9) (NK kd)) → lv_has ls 10 [(7, .int (nI k)), (6, .int c9), (5, .int s9), (4, .int (nI (128 * tt))), (0, .ref h0), (1, .int (nI tt)), (2, .ref (q 48)), (3, .int (nI dd))] → va_P g.1 classes [(h0, .inr (10, mob q rf n mm mb fa fp av ev wi mn tp tc sc nf fd me mp xn mt wh tq ag an ig)), ((q 41), aI g 600 dp), ((q 42), aZ g 600 iw), ((q 43), aI g 76800 kd9), ((q 47), aI g 128 nw), ((q 48), aI g 64 bf)] H → va_D A [(h0, .inr (10, mob q rf n mm mb fa fp av ev wi mn tp tc sc nf fd me mp xn mt wh tq ag an ig)), ((q 41), aI g 600 dp), ((q 42), aZ g 600 iw), ((q 43), aI g 76800 kd9), ((q 47), aI g 128 nw), ((q 48), aI g 64 bf)] → va_S A s.heap H locs → W p l e ({ frames := 1, cells := 0, slots := 0, locals := 22 }) s m [.ref h0, .int (nI tt), .ref (q 48), .int (nI dd)].toArray below meth c H locs 0 0 (MQ below (tw_Qv g (fun (u : Int32 × Int32 × (Nat → Int32) × (Nat → Int32) × (Nat → Int32)) => (u.1 = 0 → fa = 0) ∧ (FRG u.2.2.1 u.2.2.2.1 u.2.2.2.2) ∧ (MU u.2.2.1 u.2.2.2.1 u.2.2.2.2 ≤ MU dp iw kd)) (fun u : Int32 × Int32 × (Nat → Int32) × (Nat → Int32) × (Nat → Int32) => [(h0, .inr (10, mob q rf n mm mb u.1 u.2.1 av ev wi mn tp tc sc nf fd me mp xn mt wh tq ag an ig)), ((q 41), aI g 600 u.2.2.1), ((q 42), aZ g 600 u.2.2.2.1), ((q 43), aI g 76800 u.2.2.2.2), ((q 47), aI g 128 nw), ((q 48), aI g 64 bf)]) A) [.ref h0, .int (nI tt), .ref (q 48), .int (nI dd)].toArray s 0 0 A) (F0 m 186 ls []) := by
                  intro kq
                  induction kq using Nat.strongRecOn with
                  | _ kq ih186 =>
                    intro c9 k kd9 ls H locs hk186 hk4 hKD hCN hl hP hD hS
                    refine lv_iload hx hb d_Mod_goOn_186 (lv_at hl 0 rfl) ?_
                    refine lv_bipush (v := 64) hx hb d_Mod_goOn_188 (by decide) ?_
                    refine lv_icmp_ge (tgt := 243) hx hb d_Mod_goOn_190 (by decide) (fun h190 => ?_) (fun h190 => ?_)
                    · have h190 := tn_le (a := 64) h190 (by decide) (by omega)
                      refine lv_iconst (v := 0) hx hb d_Mod_goOn_243 (by decide) ?_
                      refine lv_istore hx hb d_Mod_goOn_244 hl (by decide) rfl (fun ls hl => ?_)
                      have hl : lv_has ls 10 [(7, .int 0), (6, .int c9), (5, .int s9), (4, .int (nI (128 * tt))), (0, .ref h0), (1, .int (nI tt)), (2, .ref (q 48)), (3, .int (nI dd))] := hl
                      have loop246 : ∀ (kq : Nat) (c8 : Int32) (k : Nat) (kd8 : Nat → Int32) (ls : Array Slot) (H : Heap) (locs : List Loc) , 64 - k = kq → (hk48 : k ≤ 64) → (hKD8 : KD3 kd8) → (hCN8 : CHN c8 (NK kd8) (NK kd)) → lv_has ls 10 [(7, .int (nI k)), (6, .int c8), (4, .int (nI (128 * tt))), (0, .ref h0), (1, .int (nI tt)), (2, .ref (q 48)), (3, .int (nI dd))] → va_P g.1 classes [(h0, .inr (10, mob q rf n mm mb fa fp av ev wi mn tp tc sc nf fd me mp xn mt wh tq ag an ig)), ((q 41), aI g 600 dp), ((q 42), aZ g 600 iw), ((q 43), aI g 76800 kd8), ((q 47), aI g 128 nw), ((q 48), aI g 64 bf)] H → va_D A [(h0, .inr (10, mob q rf n mm mb fa fp av ev wi mn tp tc sc nf fd me mp xn mt wh tq ag an ig)), ((q 41), aI g 600 dp), ((q 42), aZ g 600 iw), ((q 43), aI g 76800 kd8), ((q 47), aI g 128 nw), ((q 48), aI g 64 bf)] → va_S A s.heap H locs → W p l e ({ frames := 1, cells := 0, slots := 0, locals := 22 }) s m [.ref h0, .int (nI tt), .ref (q 48), .int (nI dd)].toArray below meth c H locs 0 0 (MQ below (tw_Qv g (fun (u : Int32 × Int32 × (Nat → Int32) × (Nat → Int32) × (Nat → Int32)) => (u.1 = 0 → fa = 0) ∧ (FRG u.2.2.1 u.2.2.2.1 u.2.2.2.2) ∧ (MU u.2.2.1 u.2.2.2.1 u.2.2.2.2 ≤ MU dp iw kd)) (fun u : Int32 × Int32 × (Nat → Int32) × (Nat → Int32) × (Nat → Int32) => [(h0, .inr (10, mob q rf n mm mb u.1 u.2.1 av ev wi mn tp tc sc nf fd me mp xn mt wh tq ag an ig)), ((q 41), aI g 600 u.2.2.1), ((q 42), aZ g 600 u.2.2.2.1), ((q 43), aI g 76800 u.2.2.2.2), ((q 47), aI g 128 nw), ((q 48), aI g 64 bf)]) A) [.ref h0, .int (nI tt), .ref (q 48), .int (nI dd)].toArray s 0 0 A) (F0 m 246 ls []) := by
                        intro kq
                        induction kq using Nat.strongRecOn with
                        | _ kq ih246 =>
                          intro c8 k kd8 ls H locs hk246 hk48 hKD8 hCN8 hl hP hD hS
                          refine lv_iload hx hb d_Mod_goOn_246 (lv_at hl 0 rfl) ?_
                          refine lv_bipush (v := 64) hx hb d_Mod_goOn_248 (by decide) ?_
                          refine lv_icmp_ge (tgt := 353) hx hb d_Mod_goOn_250 (by decide) (fun h250 => ?_) (fun h250 => ?_)
                          · have h250 := tn_le (a := 64) h250 (by decide) (by omega)
                            refine lv_aload_n hx hb d_Mod_goOn_353 rfl (lv_at hl 3 rfl) ?_
                            refine va_get (D := g.1) (ci := 10) (v := .ref (q 42)) (C := R_Mod) (T := F_Mod) (N := 61) hx hb hts in_Mod hown hK hP 0 rfl rfl 42 (by decide) (hts _ wd_1292) (fun _ h9 => h9) rfl d_Mod_goOn_354 ?_
                            refine lv_iload_n hx hb d_Mod_goOn_357 rfl (lv_at hl 4 rfl) ?_
                            refine lv_aload_n hx hb d_Mod_goOn_358 rfl (lv_at hl 3 rfl) ?_
                            refine va_get (D := g.1) (ci := 10) (v := .ref (q 42)) (C := R_Mod) (T := F_Mod) (N := 61) hx hb hts in_Mod hown hK hP 0 rfl rfl 42 (by decide) (hts _ wd_1292) (fun _ h9 => h9) rfl d_Mod_goOn_359 ?_
                            refine lv_iload_n hx hb d_Mod_goOn_362 rfl (lv_at hl 4 rfl) ?_
                            refine va_zald hx hb hK hP 2 3 rfl rfl (vp_in_nI (by omega) (by decide)) d_Mod_goOn_363 ?_
                            refine tw_ri (e2 := iw tt) (by rw [nI_clamp (by omega)]) ?_
                            refine lv_if_ne (tgt := 372) hx hb d_Mod_goOn_364 (by decide) (fun h364 => ?_) (fun h364 => ?_)
                            · refine lv_iconst (v := 1) hx hb d_Mod_goOn_372 (by decide) ?_
                              refine lv_goto (tgt := 377) hx hb d_Mod_goOn_373 (by decide) ?_
                              refine va_zast hx hb hK hP hD hS 2 3 rfl rfl (vp_in_nI (by omega) (by decide)) d_Mod_goOn_377 (fun H locs hP hD hS => ?_)
                              have hP : va_P g.1 classes [(h0, .inr (10, mob q rf n mm mb fa fp av ev wi mn tp tc sc nf fd me mp xn mt wh tq ag an ig)), ((q 41), aI g 600 dp), ((q 42), aZ g 600 (upd iw (nI tt).toNatClampNeg (vp_nar .boolean 1))), ((q 43), aI g 76800 kd8), ((q 47), aI g 128 nw), ((q 48), aI g 64 bf)] H := hP
                              have hD : va_D A [(h0, .inr (10, mob q rf n mm mb fa fp av ev wi mn tp tc sc nf fd me mp xn mt wh tq ag an ig)), ((q 41), aI g 600 dp), ((q 42), aZ g 600 (upd iw (nI tt).toNatClampNeg (vp_nar .boolean 1))), ((q 43), aI g 76800 kd8), ((q 47), aI g 128 nw), ((q 48), aI g 64 bf)] := hD
                              have e9 : upd iw (nI tt).toNatClampNeg (vp_nar .boolean 1) = upd iw tt 1 := by rw [nI_clamp (by omega)]; rfl
                              rw [e9] at hP hD
                              exact tw_vret E hS (fa, fp, dp, upd iw tt 1, kd8) (⟨(fun h => h), (hFR.again h13 hKD8), (mu_keep ht6 (Or.inl ⟨by rw [wC_1 h364]; exact Nat.le_refl _, chn_le hCN8⟩))⟩) hP hD d_Mod_goOn_378
                            · refine lv_iload hx hb d_Mod_goOn_367 (lv_at hl 1 rfl) ?_
                              refine lv_if_eq (tgt := 376) hx hb d_Mod_goOn_369 (by decide) (fun h369 => ?_) (fun h369 => ?_)
                              · refine lv_iconst (v := 0) hx hb d_Mod_goOn_376 (by decide) ?_
                                refine va_zast hx hb hK hP hD hS 2 3 rfl rfl (vp_in_nI (by omega) (by decide)) d_Mod_goOn_377 (fun H locs hP hD hS => ?_)
                                have hP : va_P g.1 classes [(h0, .inr (10, mob q rf n mm mb fa fp av ev wi mn tp tc sc nf fd me mp xn mt wh tq ag an ig)), ((q 41), aI g 600 dp), ((q 42), aZ g 600 (upd iw (nI tt).toNatClampNeg (vp_nar .boolean 0))), ((q 43), aI g 76800 kd8), ((q 47), aI g 128 nw), ((q 48), aI g 64 bf)] H := hP
                                have hD : va_D A [(h0, .inr (10, mob q rf n mm mb fa fp av ev wi mn tp tc sc nf fd me mp xn mt wh tq ag an ig)), ((q 41), aI g 600 dp), ((q 42), aZ g 600 (upd iw (nI tt).toNatClampNeg (vp_nar .boolean 0))), ((q 43), aI g 76800 kd8), ((q 47), aI g 128 nw), ((q 48), aI g 64 bf)] := hD
                                have e9 : upd iw (nI tt).toNatClampNeg (vp_nar .boolean 0) = upd iw tt 0 := by rw [nI_clamp (by omega)]; rfl
                                rw [e9] at hP hD
                                exact tw_vret E hS (fa, fp, dp, upd iw tt 0, kd8) (⟨(fun h => h), (hFR.again h13 hKD8), (mu_keep ht6 (Or.inl ⟨Nat.zero_le _, chn_le hCN8⟩))⟩) hP hD d_Mod_goOn_378
                              · refine lv_iconst (v := 1) hx hb d_Mod_goOn_372 (by decide) ?_
                                refine lv_goto (tgt := 377) hx hb d_Mod_goOn_373 (by decide) ?_
                                refine va_zast hx hb hK hP hD hS 2 3 rfl rfl (vp_in_nI (by omega) (by decide)) d_Mod_goOn_377 (fun H locs hP hD hS => ?_)
                                have hP : va_P g.1 classes [(h0, .inr (10, mob q rf n mm mb fa fp av ev wi mn tp tc sc nf fd me mp xn mt wh tq ag an ig)), ((q 41), aI g 600 dp), ((q 42), aZ g 600 (upd iw (nI tt).toNatClampNeg (vp_nar .boolean 1))), ((q 43), aI g 76800 kd8), ((q 47), aI g 128 nw), ((q 48), aI g 64 bf)] H := hP
                                have hD : va_D A [(h0, .inr (10, mob q rf n mm mb fa fp av ev wi mn tp tc sc nf fd me mp xn mt wh tq ag an ig)), ((q 41), aI g 600 dp), ((q 42), aZ g 600 (upd iw (nI tt).toNatClampNeg (vp_nar .boolean 1))), ((q 43), aI g 76800 kd8), ((q 47), aI g 128 nw), ((q 48), aI g 64 bf)] := hD
                                have e9 : upd iw (nI tt).toNatClampNeg (vp_nar .boolean 1) = upd iw tt 1 := by rw [nI_clamp (by omega)]; rfl
                                rw [e9] at hP hD
                                exact tw_vret E hS (fa, fp, dp, upd iw tt 1, kd8) (⟨(fun h => h), (hFR.again h13 hKD8), (mu_keep ht6 (Or.inr (chn_lt hCN8 h369)))⟩) hP hD d_Mod_goOn_378
                          · have h250 := tn_nle (a := 64) h250 (by decide) (by omega)
                            refine lv_aload_n hx hb d_Mod_goOn_253 rfl (lv_at hl 3 rfl) ?_
                            refine va_get (D := g.1) (ci := 10) (v := .ref (q 43)) (C := R_Mod) (T := F_Mod) (N := 61) hx hb hts in_Mod hown hK hP 0 rfl rfl 43 (by decide) (hts _ wd_1293) (fun _ h9 => h9) rfl d_Mod_goOn_254 ?_
                            refine lv_iload hx hb d_Mod_goOn_257 (lv_at hl 2 rfl) ?_
                            refine lv_iload hx hb d_Mod_goOn_259 (lv_at hl 0 rfl) ?_
                            refine lv_iadd hx hb d_Mod_goOn_261 ?_
                            refine tw_ri (e2 := nI (128 * tt + k)) (nI_add _ _) ?_
                            refine va_iald hx hb hK hP 3 0 rfl rfl (vp_in_nI (by omega) (by decide)) d_Mod_goOn_262 ?_
                            refine tw_ri (e2 := kd8 (128 * tt + k)) (by rw [nI_clamp (by omega)]) ?_
                            refine lv_istore hx hb d_Mod_goOn_263 hl (by decide) rfl (fun ls hl => ?_)
                            have hl : lv_has ls 10 [(8, .int (kd8 (128 * tt + k))), (7, .int (nI k)), (6, .int c8), (4, .int (nI (128 * tt))), (0, .ref h0), (1, .int (nI tt)), (2, .ref (q 48)), (3, .int (nI dd))] := hl
                            refine lv_iload hx hb d_Mod_goOn_265 (lv_at hl 0 rfl) ?_
                            refine lv_iconst (v := 2) hx hb d_Mod_goOn_267 (by decide) ?_
                            refine lv_icmp_ne (tgt := 294) hx hb d_Mod_goOn_268 (by decide) (fun h268 => ?_) (fun h268 => ?_)
                            · refine lv_iload hx hb d_Mod_goOn_294 (lv_at hl 0 rfl) ?_
                              refine lv_iconst (v := 3) hx hb d_Mod_goOn_296 (by decide) ?_
                              refine lv_icmp_ne (tgt := 325) hx hb d_Mod_goOn_297 (by decide) (fun h297 => ?_) (fun h297 => ?_)
                              · refine lv_iconst (v := 0) hx hb d_Mod_goOn_325 (by decide) ?_
                                refine lv_istore hx hb d_Mod_goOn_326 hl (by decide) rfl (fun ls hl => ?_)
                                have hl : lv_has ls 10 [(9, .int 0), (8, .int (kd8 (128 * tt + k))), (7, .int (nI k)), (6, .int c8), (4, .int (nI (128 * tt))), (0, .ref h0), (1, .int (nI tt)), (2, .ref (q 48)), (3, .int (nI dd))] := hl
                                refine lv_iload hx hb d_Mod_goOn_328 (lv_at hl 0 rfl) ?_
                                refine lv_if_eq (tgt := 347) hx hb d_Mod_goOn_330 (by decide) (fun h330 => ?_) (fun h330 => ?_)
                                · refine lv_iinc (k := 2) (v := nI (k + 1)) hx hb d_Mod_goOn_347 hl rfl ((nI_succ k).symm) (by decide) rfl (fun ls hl => ?_)
                                  have hl : lv_has ls 10 [(7, .int (nI (k + 1))), (9, .int 0), (8, .int (kd8 (128 * tt + k))), (6, .int c8), (4, .int (nI (128 * tt))), (0, .ref h0), (1, .int (nI tt)), (2, .ref (q 48)), (3, .int (nI dd))] := hl
                                  refine lv_goto (tgt := 246) hx hb d_Mod_goOn_350 (by decide) ?_
                                  have hP : va_P g.1 classes [(h0, .inr (10, mob q rf n mm mb fa fp av ev wi mn tp tc sc nf fd me mp xn mt wh tq ag an ig)), ((q 41), aI g 600 dp), ((q 42), aZ g 600 iw), ((q 43), aI g 76800 kd8), ((q 47), aI g 128 nw), ((q 48), aI g 64 bf)] H := hP.sub [0, 1, 2, 3, 4, 5] rfl
                                  have hD : va_D A [(h0, .inr (10, mob q rf n mm mb fa fp av ev wi mn tp tc sc nf fd me mp xn mt wh tq ag an ig)), ((q 41), aI g 600 dp), ((q 42), aZ g 600 iw), ((q 43), aI g 76800 kd8), ((q 47), aI g 128 nw), ((q 48), aI g 64 bf)] := hD.sub [0, 1, 2, 3, 4, 5] (by decide) rfl
                                  exact ih246 _ (by omega) c8 (k + 1) kd8 ls _ _ rfl (by omega) hKD8 hCN8 (lv_sub hl [0, 3, 4, 5, 6, 7, 8] rfl) hP hD hS
                                · first | exact absurd h330 (by decide) | exact absurd (by decide) h330
                              · refine lv_iload hx hb d_Mod_goOn_300 (lv_at hl 1 rfl) ?_
                                refine lv_if_eq (tgt := 321) hx hb d_Mod_goOn_302 (by decide) (fun h302 => ?_) (fun h302 => ?_)
                                · refine lv_iconst (v := 1) hx hb d_Mod_goOn_321 (by decide) ?_
                                  refine lv_goto (tgt := 326) hx hb d_Mod_goOn_322 (by decide) ?_
                                  refine lv_istore hx hb d_Mod_goOn_326 hl (by decide) rfl (fun ls hl => ?_)
                                  have hl : lv_has ls 10 [(9, .int 1), (8, .int (kd8 (128 * tt + k))), (7, .int (nI k)), (6, .int c8), (4, .int (nI (128 * tt))), (0, .ref h0), (1, .int (nI tt)), (2, .ref (q 48)), (3, .int (nI dd))] := hl
                                  refine lv_iload hx hb d_Mod_goOn_328 (lv_at hl 0 rfl) ?_
                                  refine lv_if_eq (tgt := 347) hx hb d_Mod_goOn_330 (by decide) (fun h330 => ?_) (fun h330 => ?_)
                                  · first | exact absurd h330 (by decide) | exact absurd (by decide) h330
                                  · refine lv_aload_n hx hb d_Mod_goOn_333 rfl (lv_at hl 5 rfl) ?_
                                    refine va_get (D := g.1) (ci := 10) (v := .ref (q 43)) (C := R_Mod) (T := F_Mod) (N := 61) hx hb hts in_Mod hown hK hP 0 rfl rfl 43 (by decide) (hts _ wd_1293) (fun _ h9 => h9) rfl d_Mod_goOn_334 ?_
                                    refine lv_iload hx hb d_Mod_goOn_337 (lv_at hl 4 rfl) ?_
                                    refine lv_iload hx hb d_Mod_goOn_339 (lv_at hl 2 rfl) ?_
                                    refine lv_iadd hx hb d_Mod_goOn_341 ?_
                                    refine tw_ri (e2 := nI (128 * tt + k)) (nI_add _ _) ?_
                                    refine lv_iconst (v := 0) hx hb d_Mod_goOn_342 (by decide) ?_
                                    refine va_iast hx hb hK hP hD hS 3 0 rfl rfl (vp_in_nI (by omega) (by decide)) d_Mod_goOn_343 (fun H locs hP hD hS => ?_)
                                    have hP : va_P g.1 classes [(h0, .inr (10, mob q rf n mm mb fa fp av ev wi mn tp tc sc nf fd me mp xn mt wh tq ag an ig)), ((q 41), aI g 600 dp), ((q 42), aZ g 600 iw), ((q 43), aI g 76800 (upd kd8 (nI (128 * tt + k)).toNatClampNeg 0)), ((q 47), aI g 128 nw), ((q 48), aI g 64 bf)] H := hP
                                    have hD : va_D A [(h0, .inr (10, mob q rf n mm mb fa fp av ev wi mn tp tc sc nf fd me mp xn mt wh tq ag an ig)), ((q 41), aI g 600 dp), ((q 42), aZ g 600 iw), ((q 43), aI g 76800 (upd kd8 (nI (128 * tt + k)).toNatClampNeg 0)), ((q 47), aI g 128 nw), ((q 48), aI g 64 bf)] := hD
                                    have e9 : upd kd8 (nI (128 * tt + k)).toNatClampNeg 0 = upd kd8 (128 * tt + k) 0 := by rw [nI_clamp (by omega)]
                                    rw [e9] at hP hD
                                    refine lv_iconst (v := 1) hx hb d_Mod_goOn_344 (by decide) ?_
                                    refine lv_istore hx hb d_Mod_goOn_345 hl (by decide) rfl (fun ls hl => ?_)
                                    have hl : lv_has ls 10 [(6, .int 1), (9, .int 1), (8, .int (kd8 (128 * tt + k))), (7, .int (nI k)), (4, .int (nI (128 * tt))), (0, .ref h0), (1, .int (nI tt)), (2, .ref (q 48)), (3, .int (nI dd))] := hl
                                    refine lv_iinc (k := 3) (v := nI (k + 1)) hx hb d_Mod_goOn_347 hl rfl ((nI_succ k).symm) (by decide) rfl (fun ls hl => ?_)
                                    have hl : lv_has ls 10 [(7, .int (nI (k + 1))), (6, .int 1), (9, .int 1), (8, .int (kd8 (128 * tt + k))), (4, .int (nI (128 * tt))), (0, .ref h0), (1, .int (nI tt)), (2, .ref (q 48)), (3, .int (nI dd))] := hl
                                    refine lv_goto (tgt := 246) hx hb d_Mod_goOn_350 (by decide) ?_
                                    have hP : va_P g.1 classes [(h0, .inr (10, mob q rf n mm mb fa fp av ev wi mn tp tc sc nf fd me mp xn mt wh tq ag an ig)), ((q 41), aI g 600 dp), ((q 42), aZ g 600 iw), ((q 43), aI g 76800 (upd kd8 (128 * tt + k) 0)), ((q 47), aI g 128 nw), ((q 48), aI g 64 bf)] H := hP.sub [0, 1, 2, 3, 4, 5] rfl
                                    have hD : va_D A [(h0, .inr (10, mob q rf n mm mb fa fp av ev wi mn tp tc sc nf fd me mp xn mt wh tq ag an ig)), ((q 41), aI g 600 dp), ((q 42), aZ g 600 iw), ((q 43), aI g 76800 (upd kd8 (128 * tt + k) 0)), ((q 47), aI g 128 nw), ((q 48), aI g 64 bf)] := hD.sub [0, 1, 2, 3, 4, 5] (by decide) rfl
                                    exact ih246 _ (by omega) 1 (k + 1) (upd kd8 (128 * tt + k) 0) ls _ _ rfl (by omega) (hKD8.put (fun _ => by decide)) (nk_dn hCN8 (by omega) (by omega) (by rw [h297]; decide)) (lv_sub hl [0, 1, 4, 5, 6, 7, 8] rfl) hP hD hS
                                · have h302 := tn_ne (b := 0) h302
                                  refine lv_aload_n hx hb d_Mod_goOn_305 rfl (lv_at hl 4 rfl) ?_
                                  refine va_get (D := g.1) (ci := 10) (v := .ref (q 43)) (C := R_Mod) (T := F_Mod) (N := 61) hx hb hts in_Mod hown hK hP 0 rfl rfl 43 (by decide) (hts _ wd_1293) (fun _ h9 => h9) rfl d_Mod_goOn_306 ?_
                                  refine lv_iload hx hb d_Mod_goOn_309 (lv_at hl 3 rfl) ?_
                                  refine lv_iload hx hb d_Mod_goOn_311 (lv_at hl 1 rfl) ?_
                                  refine lv_iadd hx hb d_Mod_goOn_313 ?_
                                  refine tw_ri (e2 := nI (128 * tt + k)) (nI_add _ _) ?_
                                  refine lv_iconst (v := 1) hx hb d_Mod_goOn_314 (by decide) ?_
                                  refine lv_isub hx hb d_Mod_goOn_315 ?_
                                  refine tw_ri (e2 := nI (128 * tt + k - 1)) (pk_sub (b := 1) (by omega)) ?_
                                  refine va_iald hx hb hK hP 3 0 rfl rfl (vp_in_nI (by omega) (by decide)) d_Mod_goOn_316 ?_
                                  obtain ⟨x10, ex10⟩ : ∃ z : Int32, kd8 ((nI (128 * tt + k - 1)).toNatClampNeg) = z := ⟨_, rfl⟩
                                  refine tw_ri (e2 := x10) ex10 ?_
                                  refine lv_iconst (v := 2) hx hb d_Mod_goOn_317 (by decide) ?_
                                  refine lv_icmp_eq (tgt := 325) hx hb d_Mod_goOn_318 (by decide) (fun h318 => ?_) (fun h318 => ?_)
                                  · refine lv_iconst (v := 0) hx hb d_Mod_goOn_325 (by decide) ?_
                                    refine lv_istore hx hb d_Mod_goOn_326 hl (by decide) rfl (fun ls hl => ?_)
                                    have hl : lv_has ls 10 [(9, .int 0), (8, .int (kd8 (128 * tt + k))), (7, .int (nI k)), (6, .int c8), (4, .int (nI (128 * tt))), (0, .ref h0), (1, .int (nI tt)), (2, .ref (q 48)), (3, .int (nI dd))] := hl
                                    refine lv_iload hx hb d_Mod_goOn_328 (lv_at hl 0 rfl) ?_
                                    refine lv_if_eq (tgt := 347) hx hb d_Mod_goOn_330 (by decide) (fun h330 => ?_) (fun h330 => ?_)
                                    · refine lv_iinc (k := 2) (v := nI (k + 1)) hx hb d_Mod_goOn_347 hl rfl ((nI_succ k).symm) (by decide) rfl (fun ls hl => ?_)
                                      have hl : lv_has ls 10 [(7, .int (nI (k + 1))), (9, .int 0), (8, .int (kd8 (128 * tt + k))), (6, .int c8), (4, .int (nI (128 * tt))), (0, .ref h0), (1, .int (nI tt)), (2, .ref (q 48)), (3, .int (nI dd))] := hl
                                      refine lv_goto (tgt := 246) hx hb d_Mod_goOn_350 (by decide) ?_
                                      have hP : va_P g.1 classes [(h0, .inr (10, mob q rf n mm mb fa fp av ev wi mn tp tc sc nf fd me mp xn mt wh tq ag an ig)), ((q 41), aI g 600 dp), ((q 42), aZ g 600 iw), ((q 43), aI g 76800 kd8), ((q 47), aI g 128 nw), ((q 48), aI g 64 bf)] H := hP.sub [0, 1, 2, 3, 4, 5] rfl
                                      have hD : va_D A [(h0, .inr (10, mob q rf n mm mb fa fp av ev wi mn tp tc sc nf fd me mp xn mt wh tq ag an ig)), ((q 41), aI g 600 dp), ((q 42), aZ g 600 iw), ((q 43), aI g 76800 kd8), ((q 47), aI g 128 nw), ((q 48), aI g 64 bf)] := hD.sub [0, 1, 2, 3, 4, 5] (by decide) rfl
                                      exact ih246 _ (by omega) c8 (k + 1) kd8 ls _ _ rfl (by omega) hKD8 hCN8 (lv_sub hl [0, 3, 4, 5, 6, 7, 8] rfl) hP hD hS
                                    · first | exact absurd h330 (by decide) | exact absurd (by decide) h330
                                  · refine lv_iconst (v := 1) hx hb d_Mod_goOn_321 (by decide) ?_
                                    refine lv_goto (tgt := 326) hx hb d_Mod_goOn_322 (by decide) ?_
                                    refine lv_istore hx hb d_Mod_goOn_326 hl (by decide) rfl (fun ls hl => ?_)
                                    have hl : lv_has ls 10 [(9, .int 1), (8, .int (kd8 (128 * tt + k))), (7, .int (nI k)), (6, .int c8), (4, .int (nI (128 * tt))), (0, .ref h0), (1, .int (nI tt)), (2, .ref (q 48)), (3, .int (nI dd))] := hl
                                    refine lv_iload hx hb d_Mod_goOn_328 (lv_at hl 0 rfl) ?_
                                    refine lv_if_eq (tgt := 347) hx hb d_Mod_goOn_330 (by decide) (fun h330 => ?_) (fun h330 => ?_)
                                    · first | exact absurd h330 (by decide) | exact absurd (by decide) h330
                                    · refine lv_aload_n hx hb d_Mod_goOn_333 rfl (lv_at hl 5 rfl) ?_
                                      refine va_get (D := g.1) (ci := 10) (v := .ref (q 43)) (C := R_Mod) (T := F_Mod) (N := 61) hx hb hts in_Mod hown hK hP 0 rfl rfl 43 (by decide) (hts _ wd_1293) (fun _ h9 => h9) rfl d_Mod_goOn_334 ?_
                                      refine lv_iload hx hb d_Mod_goOn_337 (lv_at hl 4 rfl) ?_
                                      refine lv_iload hx hb d_Mod_goOn_339 (lv_at hl 2 rfl) ?_
                                      refine lv_iadd hx hb d_Mod_goOn_341 ?_
                                      refine tw_ri (e2 := nI (128 * tt + k)) (nI_add _ _) ?_
                                      refine lv_iconst (v := 0) hx hb d_Mod_goOn_342 (by decide) ?_
                                      refine va_iast hx hb hK hP hD hS 3 0 rfl rfl (vp_in_nI (by omega) (by decide)) d_Mod_goOn_343 (fun H locs hP hD hS => ?_)
                                      have hP : va_P g.1 classes [(h0, .inr (10, mob q rf n mm mb fa fp av ev wi mn tp tc sc nf fd me mp xn mt wh tq ag an ig)), ((q 41), aI g 600 dp), ((q 42), aZ g 600 iw), ((q 43), aI g 76800 (upd kd8 (nI (128 * tt + k)).toNatClampNeg 0)), ((q 47), aI g 128 nw), ((q 48), aI g 64 bf)] H := hP
                                      have hD : va_D A [(h0, .inr (10, mob q rf n mm mb fa fp av ev wi mn tp tc sc nf fd me mp xn mt wh tq ag an ig)), ((q 41), aI g 600 dp), ((q 42), aZ g 600 iw), ((q 43), aI g 76800 (upd kd8 (nI (128 * tt + k)).toNatClampNeg 0)), ((q 47), aI g 128 nw), ((q 48), aI g 64 bf)] := hD
                                      have e9 : upd kd8 (nI (128 * tt + k)).toNatClampNeg 0 = upd kd8 (128 * tt + k) 0 := by rw [nI_clamp (by omega)]
                                      rw [e9] at hP hD
                                      refine lv_iconst (v := 1) hx hb d_Mod_goOn_344 (by decide) ?_
                                      refine lv_istore hx hb d_Mod_goOn_345 hl (by decide) rfl (fun ls hl => ?_)
                                      have hl : lv_has ls 10 [(6, .int 1), (9, .int 1), (8, .int (kd8 (128 * tt + k))), (7, .int (nI k)), (4, .int (nI (128 * tt))), (0, .ref h0), (1, .int (nI tt)), (2, .ref (q 48)), (3, .int (nI dd))] := hl
                                      refine lv_iinc (k := 3) (v := nI (k + 1)) hx hb d_Mod_goOn_347 hl rfl ((nI_succ k).symm) (by decide) rfl (fun ls hl => ?_)
                                      have hl : lv_has ls 10 [(7, .int (nI (k + 1))), (6, .int 1), (9, .int 1), (8, .int (kd8 (128 * tt + k))), (4, .int (nI (128 * tt))), (0, .ref h0), (1, .int (nI tt)), (2, .ref (q 48)), (3, .int (nI dd))] := hl
                                      refine lv_goto (tgt := 246) hx hb d_Mod_goOn_350 (by decide) ?_
                                      have hP : va_P g.1 classes [(h0, .inr (10, mob q rf n mm mb fa fp av ev wi mn tp tc sc nf fd me mp xn mt wh tq ag an ig)), ((q 41), aI g 600 dp), ((q 42), aZ g 600 iw), ((q 43), aI g 76800 (upd kd8 (128 * tt + k) 0)), ((q 47), aI g 128 nw), ((q 48), aI g 64 bf)] H := hP.sub [0, 1, 2, 3, 4, 5] rfl
                                      have hD : va_D A [(h0, .inr (10, mob q rf n mm mb fa fp av ev wi mn tp tc sc nf fd me mp xn mt wh tq ag an ig)), ((q 41), aI g 600 dp), ((q 42), aZ g 600 iw), ((q 43), aI g 76800 (upd kd8 (128 * tt + k) 0)), ((q 47), aI g 128 nw), ((q 48), aI g 64 bf)] := hD.sub [0, 1, 2, 3, 4, 5] (by decide) rfl
                                      exact ih246 _ (by omega) 1 (k + 1) (upd kd8 (128 * tt + k) 0) ls _ _ rfl (by omega) (hKD8.put (fun _ => by decide)) (nk_dn hCN8 (by omega) (by omega) (by rw [h297]; decide)) (lv_sub hl [0, 1, 4, 5, 6, 7, 8] rfl) hP hD hS
                            · refine lv_iload hx hb d_Mod_goOn_271 (lv_at hl 1 rfl) ?_
                              refine lv_bipush (v := 63) hx hb d_Mod_goOn_273 (by decide) ?_
                              refine lv_icmp_eq (tgt := 321) hx hb d_Mod_goOn_275 (by decide) (fun h275 => ?_) (fun h275 => ?_)
                              · refine lv_iconst (v := 1) hx hb d_Mod_goOn_321 (by decide) ?_
                                refine lv_goto (tgt := 326) hx hb d_Mod_goOn_322 (by decide) ?_
                                refine lv_istore hx hb d_Mod_goOn_326 hl (by decide) rfl (fun ls hl => ?_)
                                have hl : lv_has ls 10 [(9, .int 1), (8, .int (kd8 (128 * tt + k))), (7, .int (nI k)), (6, .int c8), (4, .int (nI (128 * tt))), (0, .ref h0), (1, .int (nI tt)), (2, .ref (q 48)), (3, .int (nI dd))] := hl
                                refine lv_iload hx hb d_Mod_goOn_328 (lv_at hl 0 rfl) ?_
                                refine lv_if_eq (tgt := 347) hx hb d_Mod_goOn_330 (by decide) (fun h330 => ?_) (fun h330 => ?_)
                                · first | exact absurd h330 (by decide) | exact absurd (by decide) h330
                                · refine lv_aload_n hx hb d_Mod_goOn_333 rfl (lv_at hl 5 rfl) ?_
                                  refine va_get (D := g.1) (ci := 10) (v := .ref (q 43)) (C := R_Mod) (T := F_Mod) (N := 61) hx hb hts in_Mod hown hK hP 0 rfl rfl 43 (by decide) (hts _ wd_1293) (fun _ h9 => h9) rfl d_Mod_goOn_334 ?_
                                  refine lv_iload hx hb d_Mod_goOn_337 (lv_at hl 4 rfl) ?_
                                  refine lv_iload hx hb d_Mod_goOn_339 (lv_at hl 2 rfl) ?_
                                  refine lv_iadd hx hb d_Mod_goOn_341 ?_
                                  refine tw_ri (e2 := nI (128 * tt + k)) (nI_add _ _) ?_
                                  refine lv_iconst (v := 0) hx hb d_Mod_goOn_342 (by decide) ?_
                                  refine va_iast hx hb hK hP hD hS 3 0 rfl rfl (vp_in_nI (by omega) (by decide)) d_Mod_goOn_343 (fun H locs hP hD hS => ?_)
                                  have hP : va_P g.1 classes [(h0, .inr (10, mob q rf n mm mb fa fp av ev wi mn tp tc sc nf fd me mp xn mt wh tq ag an ig)), ((q 41), aI g 600 dp), ((q 42), aZ g 600 iw), ((q 43), aI g 76800 (upd kd8 (nI (128 * tt + k)).toNatClampNeg 0)), ((q 47), aI g 128 nw), ((q 48), aI g 64 bf)] H := hP
                                  have hD : va_D A [(h0, .inr (10, mob q rf n mm mb fa fp av ev wi mn tp tc sc nf fd me mp xn mt wh tq ag an ig)), ((q 41), aI g 600 dp), ((q 42), aZ g 600 iw), ((q 43), aI g 76800 (upd kd8 (nI (128 * tt + k)).toNatClampNeg 0)), ((q 47), aI g 128 nw), ((q 48), aI g 64 bf)] := hD
                                  have e9 : upd kd8 (nI (128 * tt + k)).toNatClampNeg 0 = upd kd8 (128 * tt + k) 0 := by rw [nI_clamp (by omega)]
                                  rw [e9] at hP hD
                                  refine lv_iconst (v := 1) hx hb d_Mod_goOn_344 (by decide) ?_
                                  refine lv_istore hx hb d_Mod_goOn_345 hl (by decide) rfl (fun ls hl => ?_)
                                  have hl : lv_has ls 10 [(6, .int 1), (9, .int 1), (8, .int (kd8 (128 * tt + k))), (7, .int (nI k)), (4, .int (nI (128 * tt))), (0, .ref h0), (1, .int (nI tt)), (2, .ref (q 48)), (3, .int (nI dd))] := hl
                                  refine lv_iinc (k := 3) (v := nI (k + 1)) hx hb d_Mod_goOn_347 hl rfl ((nI_succ k).symm) (by decide) rfl (fun ls hl => ?_)
                                  have hl : lv_has ls 10 [(7, .int (nI (k + 1))), (6, .int 1), (9, .int 1), (8, .int (kd8 (128 * tt + k))), (4, .int (nI (128 * tt))), (0, .ref h0), (1, .int (nI tt)), (2, .ref (q 48)), (3, .int (nI dd))] := hl
                                  refine lv_goto (tgt := 246) hx hb d_Mod_goOn_350 (by decide) ?_
                                  have hP : va_P g.1 classes [(h0, .inr (10, mob q rf n mm mb fa fp av ev wi mn tp tc sc nf fd me mp xn mt wh tq ag an ig)), ((q 41), aI g 600 dp), ((q 42), aZ g 600 iw), ((q 43), aI g 76800 (upd kd8 (128 * tt + k) 0)), ((q 47), aI g 128 nw), ((q 48), aI g 64 bf)] H := hP.sub [0, 1, 2, 3, 4, 5] rfl
                                  have hD : va_D A [(h0, .inr (10, mob q rf n mm mb fa fp av ev wi mn tp tc sc nf fd me mp xn mt wh tq ag an ig)), ((q 41), aI g 600 dp), ((q 42), aZ g 600 iw), ((q 43), aI g 76800 (upd kd8 (128 * tt + k) 0)), ((q 47), aI g 128 nw), ((q 48), aI g 64 bf)] := hD.sub [0, 1, 2, 3, 4, 5] (by decide) rfl
                                  exact ih246 _ (by omega) 1 (k + 1) (upd kd8 (128 * tt + k) 0) ls _ _ rfl (by omega) (hKD8.put (fun _ => by decide)) (nk_dn hCN8 (by omega) (by omega) (by rw [h268]; decide)) (lv_sub hl [0, 1, 4, 5, 6, 7, 8] rfl) hP hD hS
                              · refine lv_aload_n hx hb d_Mod_goOn_278 rfl (lv_at hl 4 rfl) ?_
                                refine va_get (D := g.1) (ci := 10) (v := .ref (q 43)) (C := R_Mod) (T := F_Mod) (N := 61) hx hb hts in_Mod hown hK hP 0 rfl rfl 43 (by decide) (hts _ wd_1293) (fun _ h9 => h9) rfl d_Mod_goOn_279 ?_
                                refine lv_iload hx hb d_Mod_goOn_282 (lv_at hl 3 rfl) ?_
                                refine lv_iload hx hb d_Mod_goOn_284 (lv_at hl 1 rfl) ?_
                                refine lv_iadd hx hb d_Mod_goOn_286 ?_
                                refine tw_ri (e2 := nI (128 * tt + k)) (nI_add _ _) ?_
                                refine lv_iconst (v := 1) hx hb d_Mod_goOn_287 (by decide) ?_
                                refine lv_iadd hx hb d_Mod_goOn_288 ?_
                                refine tw_ri (e2 := nI (128 * tt + k + 1)) (nI_add _ 1) ?_
                                refine va_iald hx hb hK hP 3 0 rfl rfl (vp_in_nI (by omega) (by decide)) d_Mod_goOn_289 ?_
                                obtain ⟨x11, ex11⟩ : ∃ z : Int32, kd8 ((nI (128 * tt + k + 1)).toNatClampNeg) = z := ⟨_, rfl⟩
                                refine tw_ri (e2 := x11) ex11 ?_
                                refine lv_iconst (v := 3) hx hb d_Mod_goOn_290 (by decide) ?_
                                refine lv_icmp_ne (tgt := 321) hx hb d_Mod_goOn_291 (by decide) (fun h291 => ?_) (fun h291 => ?_)
                                · refine lv_iconst (v := 1) hx hb d_Mod_goOn_321 (by decide) ?_
                                  refine lv_goto (tgt := 326) hx hb d_Mod_goOn_322 (by decide) ?_
                                  refine lv_istore hx hb d_Mod_goOn_326 hl (by decide) rfl (fun ls hl => ?_)
                                  have hl : lv_has ls 10 [(9, .int 1), (8, .int (kd8 (128 * tt + k))), (7, .int (nI k)), (6, .int c8), (4, .int (nI (128 * tt))), (0, .ref h0), (1, .int (nI tt)), (2, .ref (q 48)), (3, .int (nI dd))] := hl
                                  refine lv_iload hx hb d_Mod_goOn_328 (lv_at hl 0 rfl) ?_
                                  refine lv_if_eq (tgt := 347) hx hb d_Mod_goOn_330 (by decide) (fun h330 => ?_) (fun h330 => ?_)
                                  · first | exact absurd h330 (by decide) | exact absurd (by decide) h330
                                  · refine lv_aload_n hx hb d_Mod_goOn_333 rfl (lv_at hl 5 rfl) ?_
                                    refine va_get (D := g.1) (ci := 10) (v := .ref (q 43)) (C := R_Mod) (T := F_Mod) (N := 61) hx hb hts in_Mod hown hK hP 0 rfl rfl 43 (by decide) (hts _ wd_1293) (fun _ h9 => h9) rfl d_Mod_goOn_334 ?_
                                    refine lv_iload hx hb d_Mod_goOn_337 (lv_at hl 4 rfl) ?_
                                    refine lv_iload hx hb d_Mod_goOn_339 (lv_at hl 2 rfl) ?_
                                    refine lv_iadd hx hb d_Mod_goOn_341 ?_
                                    refine tw_ri (e2 := nI (128 * tt + k)) (nI_add _ _) ?_
                                    refine lv_iconst (v := 0) hx hb d_Mod_goOn_342 (by decide) ?_
                                    refine va_iast hx hb hK hP hD hS 3 0 rfl rfl (vp_in_nI (by omega) (by decide)) d_Mod_goOn_343 (fun H locs hP hD hS => ?_)
                                    have hP : va_P g.1 classes [(h0, .inr (10, mob q rf n mm mb fa fp av ev wi mn tp tc sc nf fd me mp xn mt wh tq ag an ig)), ((q 41), aI g 600 dp), ((q 42), aZ g 600 iw), ((q 43), aI g 76800 (upd kd8 (nI (128 * tt + k)).toNatClampNeg 0)), ((q 47), aI g 128 nw), ((q 48), aI g 64 bf)] H := hP
                                    have hD : va_D A [(h0, .inr (10, mob q rf n mm mb fa fp av ev wi mn tp tc sc nf fd me mp xn mt wh tq ag an ig)), ((q 41), aI g 600 dp), ((q 42), aZ g 600 iw), ((q 43), aI g 76800 (upd kd8 (nI (128 * tt + k)).toNatClampNeg 0)), ((q 47), aI g 128 nw), ((q 48), aI g 64 bf)] := hD
                                    have e9 : upd kd8 (nI (128 * tt + k)).toNatClampNeg 0 = upd kd8 (128 * tt + k) 0 := by rw [nI_clamp (by omega)]
                                    rw [e9] at hP hD
                                    refine lv_iconst (v := 1) hx hb d_Mod_goOn_344 (by decide) ?_
                                    refine lv_istore hx hb d_Mod_goOn_345 hl (by decide) rfl (fun ls hl => ?_)
                                    have hl : lv_has ls 10 [(6, .int 1), (9, .int 1), (8, .int (kd8 (128 * tt + k))), (7, .int (nI k)), (4, .int (nI (128 * tt))), (0, .ref h0), (1, .int (nI tt)), (2, .ref (q 48)), (3, .int (nI dd))] := hl
                                    refine lv_iinc (k := 3) (v := nI (k + 1)) hx hb d_Mod_goOn_347 hl rfl ((nI_succ k).symm) (by decide) rfl (fun ls hl => ?_)
                                    have hl : lv_has ls 10 [(7, .int (nI (k + 1))), (6, .int 1), (9, .int 1), (8, .int (kd8 (128 * tt + k))), (4, .int (nI (128 * tt))), (0, .ref h0), (1, .int (nI tt)), (2, .ref (q 48)), (3, .int (nI dd))] := hl
                                    refine lv_goto (tgt := 246) hx hb d_Mod_goOn_350 (by decide) ?_
                                    have hP : va_P g.1 classes [(h0, .inr (10, mob q rf n mm mb fa fp av ev wi mn tp tc sc nf fd me mp xn mt wh tq ag an ig)), ((q 41), aI g 600 dp), ((q 42), aZ g 600 iw), ((q 43), aI g 76800 (upd kd8 (128 * tt + k) 0)), ((q 47), aI g 128 nw), ((q 48), aI g 64 bf)] H := hP.sub [0, 1, 2, 3, 4, 5] rfl
                                    have hD : va_D A [(h0, .inr (10, mob q rf n mm mb fa fp av ev wi mn tp tc sc nf fd me mp xn mt wh tq ag an ig)), ((q 41), aI g 600 dp), ((q 42), aZ g 600 iw), ((q 43), aI g 76800 (upd kd8 (128 * tt + k) 0)), ((q 47), aI g 128 nw), ((q 48), aI g 64 bf)] := hD.sub [0, 1, 2, 3, 4, 5] (by decide) rfl
                                    exact ih246 _ (by omega) 1 (k + 1) (upd kd8 (128 * tt + k) 0) ls _ _ rfl (by omega) (hKD8.put (fun _ => by decide)) (nk_dn hCN8 (by omega) (by omega) (by rw [h268]; decide)) (lv_sub hl [0, 1, 4, 5, 6, 7, 8] rfl) hP hD hS
                                · refine lv_iload hx hb d_Mod_goOn_294 (lv_at hl 0 rfl) ?_
                                  refine lv_iconst (v := 3) hx hb d_Mod_goOn_296 (by decide) ?_
                                  refine lv_icmp_ne (tgt := 325) hx hb d_Mod_goOn_297 (by decide) (fun h297 => ?_) (fun h297 => ?_)
                                  · refine lv_iconst (v := 0) hx hb d_Mod_goOn_325 (by decide) ?_
                                    refine lv_istore hx hb d_Mod_goOn_326 hl (by decide) rfl (fun ls hl => ?_)
                                    have hl : lv_has ls 10 [(9, .int 0), (8, .int (kd8 (128 * tt + k))), (7, .int (nI k)), (6, .int c8), (4, .int (nI (128 * tt))), (0, .ref h0), (1, .int (nI tt)), (2, .ref (q 48)), (3, .int (nI dd))] := hl
                                    refine lv_iload hx hb d_Mod_goOn_328 (lv_at hl 0 rfl) ?_
                                    refine lv_if_eq (tgt := 347) hx hb d_Mod_goOn_330 (by decide) (fun h330 => ?_) (fun h330 => ?_)
                                    · refine lv_iinc (k := 2) (v := nI (k + 1)) hx hb d_Mod_goOn_347 hl rfl ((nI_succ k).symm) (by decide) rfl (fun ls hl => ?_)
                                      have hl : lv_has ls 10 [(7, .int (nI (k + 1))), (9, .int 0), (8, .int (kd8 (128 * tt + k))), (6, .int c8), (4, .int (nI (128 * tt))), (0, .ref h0), (1, .int (nI tt)), (2, .ref (q 48)), (3, .int (nI dd))] := hl
                                      refine lv_goto (tgt := 246) hx hb d_Mod_goOn_350 (by decide) ?_
                                      have hP : va_P g.1 classes [(h0, .inr (10, mob q rf n mm mb fa fp av ev wi mn tp tc sc nf fd me mp xn mt wh tq ag an ig)), ((q 41), aI g 600 dp), ((q 42), aZ g 600 iw), ((q 43), aI g 76800 kd8), ((q 47), aI g 128 nw), ((q 48), aI g 64 bf)] H := hP.sub [0, 1, 2, 3, 4, 5] rfl
                                      have hD : va_D A [(h0, .inr (10, mob q rf n mm mb fa fp av ev wi mn tp tc sc nf fd me mp xn mt wh tq ag an ig)), ((q 41), aI g 600 dp), ((q 42), aZ g 600 iw), ((q 43), aI g 76800 kd8), ((q 47), aI g 128 nw), ((q 48), aI g 64 bf)] := hD.sub [0, 1, 2, 3, 4, 5] (by decide) rfl
                                      exact ih246 _ (by omega) c8 (k + 1) kd8 ls _ _ rfl (by omega) hKD8 hCN8 (lv_sub hl [0, 3, 4, 5, 6, 7, 8] rfl) hP hD hS
                                    · first | exact absurd h330 (by decide) | exact absurd (by decide) h330
                                  · refine lv_iload hx hb d_Mod_goOn_300 (lv_at hl 1 rfl) ?_
                                    refine lv_if_eq (tgt := 321) hx hb d_Mod_goOn_302 (by decide) (fun h302 => ?_) (fun h302 => ?_)
                                    · refine lv_iconst (v := 1) hx hb d_Mod_goOn_321 (by decide) ?_
                                      refine lv_goto (tgt := 326) hx hb d_Mod_goOn_322 (by decide) ?_
                                      refine lv_istore hx hb d_Mod_goOn_326 hl (by decide) rfl (fun ls hl => ?_)
                                      have hl : lv_has ls 10 [(9, .int 1), (8, .int (kd8 (128 * tt + k))), (7, .int (nI k)), (6, .int c8), (4, .int (nI (128 * tt))), (0, .ref h0), (1, .int (nI tt)), (2, .ref (q 48)), (3, .int (nI dd))] := hl
                                      refine lv_iload hx hb d_Mod_goOn_328 (lv_at hl 0 rfl) ?_
                                      refine lv_if_eq (tgt := 347) hx hb d_Mod_goOn_330 (by decide) (fun h330 => ?_) (fun h330 => ?_)
                                      · first | exact absurd h330 (by decide) | exact absurd (by decide) h330
                                      · refine lv_aload_n hx hb d_Mod_goOn_333 rfl (lv_at hl 5 rfl) ?_
                                        refine va_get (D := g.1) (ci := 10) (v := .ref (q 43)) (C := R_Mod) (T := F_Mod) (N := 61) hx hb hts in_Mod hown hK hP 0 rfl rfl 43 (by decide) (hts _ wd_1293) (fun _ h9 => h9) rfl d_Mod_goOn_334 ?_
                                        refine lv_iload hx hb d_Mod_goOn_337 (lv_at hl 4 rfl) ?_
                                        refine lv_iload hx hb d_Mod_goOn_339 (lv_at hl 2 rfl) ?_
                                        refine lv_iadd hx hb d_Mod_goOn_341 ?_
                                        refine tw_ri (e2 := nI (128 * tt + k)) (nI_add _ _) ?_
                                        refine lv_iconst (v := 0) hx hb d_Mod_goOn_342 (by decide) ?_
                                        refine va_iast hx hb hK hP hD hS 3 0 rfl rfl (vp_in_nI (by omega) (by decide)) d_Mod_goOn_343 (fun H locs hP hD hS => ?_)
                                        have hP : va_P g.1 classes [(h0, .inr (10, mob q rf n mm mb fa fp av ev wi mn tp tc sc nf fd me mp xn mt wh tq ag an ig)), ((q 41), aI g 600 dp), ((q 42), aZ g 600 iw), ((q 43), aI g 76800 (upd kd8 (nI (128 * tt + k)).toNatClampNeg 0)), ((q 47), aI g 128 nw), ((q 48), aI g 64 bf)] H := hP
                                        have hD : va_D A [(h0, .inr (10, mob q rf n mm mb fa fp av ev wi mn tp tc sc nf fd me mp xn mt wh tq ag an ig)), ((q 41), aI g 600 dp), ((q 42), aZ g 600 iw), ((q 43), aI g 76800 (upd kd8 (nI (128 * tt + k)).toNatClampNeg 0)), ((q 47), aI g 128 nw), ((q 48), aI g 64 bf)] := hD
                                        have e9 : upd kd8 (nI (128 * tt + k)).toNatClampNeg 0 = upd kd8 (128 * tt + k) 0 := by rw [nI_clamp (by omega)]
                                        rw [e9] at hP hD
                                        refine lv_iconst (v := 1) hx hb d_Mod_goOn_344 (by decide) ?_
                                        refine lv_istore hx hb d_Mod_goOn_345 hl (by decide) rfl (fun ls hl => ?_)
                                        have hl : lv_has ls 10 [(6, .int 1), (9, .int 1), (8, .int (kd8 (128 * tt + k))), (7, .int (nI k)), (4, .int (nI (128 * tt))), (0, .ref h0), (1, .int (nI tt)), (2, .ref (q 48)), (3, .int (nI dd))] := hl
                                        refine lv_iinc (k := 3) (v := nI (k + 1)) hx hb d_Mod_goOn_347 hl rfl ((nI_succ k).symm) (by decide) rfl (fun ls hl => ?_)
                                        have hl : lv_has ls 10 [(7, .int (nI (k + 1))), (6, .int 1), (9, .int 1), (8, .int (kd8 (128 * tt + k))), (4, .int (nI (128 * tt))), (0, .ref h0), (1, .int (nI tt)), (2, .ref (q 48)), (3, .int (nI dd))] := hl
                                        refine lv_goto (tgt := 246) hx hb d_Mod_goOn_350 (by decide) ?_
                                        have hP : va_P g.1 classes [(h0, .inr (10, mob q rf n mm mb fa fp av ev wi mn tp tc sc nf fd me mp xn mt wh tq ag an ig)), ((q 41), aI g 600 dp), ((q 42), aZ g 600 iw), ((q 43), aI g 76800 (upd kd8 (128 * tt + k) 0)), ((q 47), aI g 128 nw), ((q 48), aI g 64 bf)] H := hP.sub [0, 1, 2, 3, 4, 5] rfl
                                        have hD : va_D A [(h0, .inr (10, mob q rf n mm mb fa fp av ev wi mn tp tc sc nf fd me mp xn mt wh tq ag an ig)), ((q 41), aI g 600 dp), ((q 42), aZ g 600 iw), ((q 43), aI g 76800 (upd kd8 (128 * tt + k) 0)), ((q 47), aI g 128 nw), ((q 48), aI g 64 bf)] := hD.sub [0, 1, 2, 3, 4, 5] (by decide) rfl
                                        exact ih246 _ (by omega) 1 (k + 1) (upd kd8 (128 * tt + k) 0) ls _ _ rfl (by omega) (hKD8.put (fun _ => by decide)) (nk_dn hCN8 (by omega) (by omega) (by rw [h297]; decide)) (lv_sub hl [0, 1, 4, 5, 6, 7, 8] rfl) hP hD hS
                                    · have h302 := tn_ne (b := 0) h302
                                      refine lv_aload_n hx hb d_Mod_goOn_305 rfl (lv_at hl 4 rfl) ?_
                                      refine va_get (D := g.1) (ci := 10) (v := .ref (q 43)) (C := R_Mod) (T := F_Mod) (N := 61) hx hb hts in_Mod hown hK hP 0 rfl rfl 43 (by decide) (hts _ wd_1293) (fun _ h9 => h9) rfl d_Mod_goOn_306 ?_
                                      refine lv_iload hx hb d_Mod_goOn_309 (lv_at hl 3 rfl) ?_
                                      refine lv_iload hx hb d_Mod_goOn_311 (lv_at hl 1 rfl) ?_
                                      refine lv_iadd hx hb d_Mod_goOn_313 ?_
                                      refine tw_ri (e2 := nI (128 * tt + k)) (nI_add _ _) ?_
                                      refine lv_iconst (v := 1) hx hb d_Mod_goOn_314 (by decide) ?_
                                      refine lv_isub hx hb d_Mod_goOn_315 ?_
                                      refine tw_ri (e2 := nI (128 * tt + k - 1)) (pk_sub (b := 1) (by omega)) ?_
                                      refine va_iald hx hb hK hP 3 0 rfl rfl (vp_in_nI (by omega) (by decide)) d_Mod_goOn_316 ?_
                                      obtain ⟨x12, ex12⟩ : ∃ z : Int32, kd8 ((nI (128 * tt + k - 1)).toNatClampNeg) = z := ⟨_, rfl⟩
                                      refine tw_ri (e2 := x12) ex12 ?_
                                      refine lv_iconst (v := 2) hx hb d_Mod_goOn_317 (by decide) ?_
                                      refine lv_icmp_eq (tgt := 325) hx hb d_Mod_goOn_318 (by decide) (fun h318 => ?_) (fun h318 => ?_)
                                      · refine lv_iconst (v := 0) hx hb d_Mod_goOn_325 (by decide) ?_
                                        refine lv_istore hx hb d_Mod_goOn_326 hl (by decide) rfl (fun ls hl => ?_)
                                        have hl : lv_has ls 10 [(9, .int 0), (8, .int (kd8 (128 * tt + k))), (7, .int (nI k)), (6, .int c8), (4, .int (nI (128 * tt))), (0, .ref h0), (1, .int (nI tt)), (2, .ref (q 48)), (3, .int (nI dd))] := hl
                                        refine lv_iload hx hb d_Mod_goOn_328 (lv_at hl 0 rfl) ?_
                                        refine lv_if_eq (tgt := 347) hx hb d_Mod_goOn_330 (by decide) (fun h330 => ?_) (fun h330 => ?_)
                                        · refine lv_iinc (k := 2) (v := nI (k + 1)) hx hb d_Mod_goOn_347 hl rfl ((nI_succ k).symm) (by decide) rfl (fun ls hl => ?_)
                                          have hl : lv_has ls 10 [(7, .int (nI (k + 1))), (9, .int 0), (8, .int (kd8 (128 * tt + k))), (6, .int c8), (4, .int (nI (128 * tt))), (0, .ref h0), (1, .int (nI tt)), (2, .ref (q 48)), (3, .int (nI dd))] := hl
                                          refine lv_goto (tgt := 246) hx hb d_Mod_goOn_350 (by decide) ?_
                                          have hP : va_P g.1 classes [(h0, .inr (10, mob q rf n mm mb fa fp av ev wi mn tp tc sc nf fd me mp xn mt wh tq ag an ig)), ((q 41), aI g 600 dp), ((q 42), aZ g 600 iw), ((q 43), aI g 76800 kd8), ((q 47), aI g 128 nw), ((q 48), aI g 64 bf)] H := hP.sub [0, 1, 2, 3, 4, 5] rfl
                                          have hD : va_D A [(h0, .inr (10, mob q rf n mm mb fa fp av ev wi mn tp tc sc nf fd me mp xn mt wh tq ag an ig)), ((q 41), aI g 600 dp), ((q 42), aZ g 600 iw), ((q 43), aI g 76800 kd8), ((q 47), aI g 128 nw), ((q 48), aI g 64 bf)] := hD.sub [0, 1, 2, 3, 4, 5] (by decide) rfl
                                          exact ih246 _ (by omega) c8 (k + 1) kd8 ls _ _ rfl (by omega) hKD8 hCN8 (lv_sub hl [0, 3, 4, 5, 6, 7, 8] rfl) hP hD hS
                                        · first | exact absurd h330 (by decide) | exact absurd (by decide) h330
                                      · refine lv_iconst (v := 1) hx hb d_Mod_goOn_321 (by decide) ?_
                                        refine lv_goto (tgt := 326) hx hb d_Mod_goOn_322 (by decide) ?_
                                        refine lv_istore hx hb d_Mod_goOn_326 hl (by decide) rfl (fun ls hl => ?_)
                                        have hl : lv_has ls 10 [(9, .int 1), (8, .int (kd8 (128 * tt + k))), (7, .int (nI k)), (6, .int c8), (4, .int (nI (128 * tt))), (0, .ref h0), (1, .int (nI tt)), (2, .ref (q 48)), (3, .int (nI dd))] := hl
                                        refine lv_iload hx hb d_Mod_goOn_328 (lv_at hl 0 rfl) ?_
                                        refine lv_if_eq (tgt := 347) hx hb d_Mod_goOn_330 (by decide) (fun h330 => ?_) (fun h330 => ?_)
                                        · first | exact absurd h330 (by decide) | exact absurd (by decide) h330
                                        · refine lv_aload_n hx hb d_Mod_goOn_333 rfl (lv_at hl 5 rfl) ?_
                                          refine va_get (D := g.1) (ci := 10) (v := .ref (q 43)) (C := R_Mod) (T := F_Mod) (N := 61) hx hb hts in_Mod hown hK hP 0 rfl rfl 43 (by decide) (hts _ wd_1293) (fun _ h9 => h9) rfl d_Mod_goOn_334 ?_
                                          refine lv_iload hx hb d_Mod_goOn_337 (lv_at hl 4 rfl) ?_
                                          refine lv_iload hx hb d_Mod_goOn_339 (lv_at hl 2 rfl) ?_
                                          refine lv_iadd hx hb d_Mod_goOn_341 ?_
                                          refine tw_ri (e2 := nI (128 * tt + k)) (nI_add _ _) ?_
                                          refine lv_iconst (v := 0) hx hb d_Mod_goOn_342 (by decide) ?_
                                          refine va_iast hx hb hK hP hD hS 3 0 rfl rfl (vp_in_nI (by omega) (by decide)) d_Mod_goOn_343 (fun H locs hP hD hS => ?_)
                                          have hP : va_P g.1 classes [(h0, .inr (10, mob q rf n mm mb fa fp av ev wi mn tp tc sc nf fd me mp xn mt wh tq ag an ig)), ((q 41), aI g 600 dp), ((q 42), aZ g 600 iw), ((q 43), aI g 76800 (upd kd8 (nI (128 * tt + k)).toNatClampNeg 0)), ((q 47), aI g 128 nw), ((q 48), aI g 64 bf)] H := hP
                                          have hD : va_D A [(h0, .inr (10, mob q rf n mm mb fa fp av ev wi mn tp tc sc nf fd me mp xn mt wh tq ag an ig)), ((q 41), aI g 600 dp), ((q 42), aZ g 600 iw), ((q 43), aI g 76800 (upd kd8 (nI (128 * tt + k)).toNatClampNeg 0)), ((q 47), aI g 128 nw), ((q 48), aI g 64 bf)] := hD
                                          have e9 : upd kd8 (nI (128 * tt + k)).toNatClampNeg 0 = upd kd8 (128 * tt + k) 0 := by rw [nI_clamp (by omega)]
                                          rw [e9] at hP hD
                                          refine lv_iconst (v := 1) hx hb d_Mod_goOn_344 (by decide) ?_
                                          refine lv_istore hx hb d_Mod_goOn_345 hl (by decide) rfl (fun ls hl => ?_)
                                          have hl : lv_has ls 10 [(6, .int 1), (9, .int 1), (8, .int (kd8 (128 * tt + k))), (7, .int (nI k)), (4, .int (nI (128 * tt))), (0, .ref h0), (1, .int (nI tt)), (2, .ref (q 48)), (3, .int (nI dd))] := hl
                                          refine lv_iinc (k := 3) (v := nI (k + 1)) hx hb d_Mod_goOn_347 hl rfl ((nI_succ k).symm) (by decide) rfl (fun ls hl => ?_)
                                          have hl : lv_has ls 10 [(7, .int (nI (k + 1))), (6, .int 1), (9, .int 1), (8, .int (kd8 (128 * tt + k))), (4, .int (nI (128 * tt))), (0, .ref h0), (1, .int (nI tt)), (2, .ref (q 48)), (3, .int (nI dd))] := hl
                                          refine lv_goto (tgt := 246) hx hb d_Mod_goOn_350 (by decide) ?_
                                          have hP : va_P g.1 classes [(h0, .inr (10, mob q rf n mm mb fa fp av ev wi mn tp tc sc nf fd me mp xn mt wh tq ag an ig)), ((q 41), aI g 600 dp), ((q 42), aZ g 600 iw), ((q 43), aI g 76800 (upd kd8 (128 * tt + k) 0)), ((q 47), aI g 128 nw), ((q 48), aI g 64 bf)] H := hP.sub [0, 1, 2, 3, 4, 5] rfl
                                          have hD : va_D A [(h0, .inr (10, mob q rf n mm mb fa fp av ev wi mn tp tc sc nf fd me mp xn mt wh tq ag an ig)), ((q 41), aI g 600 dp), ((q 42), aZ g 600 iw), ((q 43), aI g 76800 (upd kd8 (128 * tt + k) 0)), ((q 47), aI g 128 nw), ((q 48), aI g 64 bf)] := hD.sub [0, 1, 2, 3, 4, 5] (by decide) rfl
                                          exact ih246 _ (by omega) 1 (k + 1) (upd kd8 (128 * tt + k) 0) ls _ _ rfl (by omega) (hKD8.put (fun _ => by decide)) (nk_dn hCN8 (by omega) (by omega) (by rw [h297]; decide)) (lv_sub hl [0, 1, 4, 5, 6, 7, 8] rfl) hP hD hS
                      exact loop246 _ c9 0 kd9 ls _ _ rfl (Nat.zero_le _) hKD hCN (lv_sub hl [0, 1, 3, 4, 5, 6, 7] rfl) hP hD hS
                    · have h190 := tn_nle (a := 64) h190 (by decide) (by omega)
                      refine lv_aload_n hx hb d_Mod_goOn_193 rfl (lv_at hl 4 rfl) ?_
                      refine va_get (D := g.1) (ci := 10) (v := .ref (q 43)) (C := R_Mod) (T := F_Mod) (N := 61) hx hb hts in_Mod hown hK hP 0 rfl rfl 43 (by decide) (hts _ wd_1293) (fun _ h9 => h9) rfl d_Mod_goOn_194 ?_
                      refine lv_iload hx hb d_Mod_goOn_197 (lv_at hl 3 rfl) ?_
                      refine lv_iload hx hb d_Mod_goOn_199 (lv_at hl 0 rfl) ?_
                      refine lv_iadd hx hb d_Mod_goOn_201 ?_
                      refine tw_ri (e2 := nI (128 * tt + k)) (nI_add _ _) ?_
                      refine va_iald hx hb hK hP 3 0 rfl rfl (vp_in_nI (by omega) (by decide)) d_Mod_goOn_202 ?_
                      refine tw_ri (e2 := kd9 (128 * tt + k)) (by rw [nI_clamp (by omega)]) ?_
                      refine lv_aload_n hx hb d_Mod_goOn_203 rfl (lv_at hl 6 rfl) ?_
                      refine lv_iload hx hb d_Mod_goOn_204 (lv_at hl 0 rfl) ?_
                      refine va_iald hx hb hK hP 5 0 rfl rfl (vp_in_nI (by omega) (by decide)) d_Mod_goOn_206 ?_
                      refine tw_ri (e2 := bf k) (by rw [nI_clamp (by omega)]) ?_
                      refine lv_icmp_eq (tgt := 237) hx hb d_Mod_goOn_207 (by decide) (fun h207 => ?_) (fun h207 => ?_)
                      · refine lv_iinc (k := 0) (v := nI (k + 1)) hx hb d_Mod_goOn_237 hl rfl ((nI_succ k).symm) (by decide) rfl (fun ls hl => ?_)
                        have hl : lv_has ls 10 [(7, .int (nI (k + 1))), (6, .int c9), (5, .int s9), (4, .int (nI (128 * tt))), (0, .ref h0), (1, .int (nI tt)), (2, .ref (q 48)), (3, .int (nI dd))] := hl
                        refine lv_goto (tgt := 186) hx hb d_Mod_goOn_240 (by decide) ?_
                        have hP : va_P g.1 classes [(h0, .inr (10, mob q rf n mm mb fa fp av ev wi mn tp tc sc nf fd me mp xn mt wh tq ag an ig)), ((q 41), aI g 600 dp), ((q 42), aZ g 600 iw), ((q 43), aI g 76800 kd9), ((q 47), aI g 128 nw), ((q 48), aI g 64 bf)] H := hP.sub [0, 1, 2, 3, 4, 5] rfl
                        have hD : va_D A [(h0, .inr (10, mob q rf n mm mb fa fp av ev wi mn tp tc sc nf fd me mp xn mt wh tq ag an ig)), ((q 41), aI g 600 dp), ((q 42), aZ g 600 iw), ((q 43), aI g 76800 kd9), ((q 47), aI g 128 nw), ((q 48), aI g 64 bf)] := hD.sub [0, 1, 2, 3, 4, 5] (by decide) rfl
                        exact ih186 _ (by omega) c9 (k + 1) kd9 ls _ _ rfl (by omega) hKD hCN (lv_sub hl [0, 1, 2, 3, 4, 5, 6, 7] rfl) hP hD hS
                      · refine lv_aload_n hx hb d_Mod_goOn_210 rfl (lv_at hl 4 rfl) ?_
                        refine va_get (D := g.1) (ci := 10) (v := .ref (q 43)) (C := R_Mod) (T := F_Mod) (N := 61) hx hb hts in_Mod hown hK hP 0 rfl rfl 43 (by decide) (hts _ wd_1293) (fun _ h9 => h9) rfl d_Mod_goOn_211 ?_
                        refine lv_iload hx hb d_Mod_goOn_214 (lv_at hl 3 rfl) ?_
                        refine lv_iload hx hb d_Mod_goOn_216 (lv_at hl 0 rfl) ?_
                        refine lv_iadd hx hb d_Mod_goOn_218 ?_
                        refine tw_ri (e2 := nI (128 * tt + k)) (nI_add _ _) ?_
                        refine va_iald hx hb hK hP 3 0 rfl rfl (vp_in_nI (by omega) (by decide)) d_Mod_goOn_219 ?_
                        refine tw_ri (e2 := kd9 (128 * tt + k)) (by rw [nI_clamp (by omega)]) ?_
                        refine lv_if_eq (tgt := 237) hx hb d_Mod_goOn_220 (by decide) (fun h220 => ?_) (fun h220 => ?_)
                        · refine lv_iinc (k := 0) (v := nI (k + 1)) hx hb d_Mod_goOn_237 hl rfl ((nI_succ k).symm) (by decide) rfl (fun ls hl => ?_)
                          have hl : lv_has ls 10 [(7, .int (nI (k + 1))), (6, .int c9), (5, .int s9), (4, .int (nI (128 * tt))), (0, .ref h0), (1, .int (nI tt)), (2, .ref (q 48)), (3, .int (nI dd))] := hl
                          refine lv_goto (tgt := 186) hx hb d_Mod_goOn_240 (by decide) ?_
                          have hP : va_P g.1 classes [(h0, .inr (10, mob q rf n mm mb fa fp av ev wi mn tp tc sc nf fd me mp xn mt wh tq ag an ig)), ((q 41), aI g 600 dp), ((q 42), aZ g 600 iw), ((q 43), aI g 76800 kd9), ((q 47), aI g 128 nw), ((q 48), aI g 64 bf)] H := hP.sub [0, 1, 2, 3, 4, 5] rfl
                          have hD : va_D A [(h0, .inr (10, mob q rf n mm mb fa fp av ev wi mn tp tc sc nf fd me mp xn mt wh tq ag an ig)), ((q 41), aI g 600 dp), ((q 42), aZ g 600 iw), ((q 43), aI g 76800 kd9), ((q 47), aI g 128 nw), ((q 48), aI g 64 bf)] := hD.sub [0, 1, 2, 3, 4, 5] (by decide) rfl
                          exact ih186 _ (by omega) c9 (k + 1) kd9 ls _ _ rfl (by omega) hKD hCN (lv_sub hl [0, 1, 2, 3, 4, 5, 6, 7] rfl) hP hD hS
                        · refine lv_aload_n hx hb d_Mod_goOn_223 rfl (lv_at hl 4 rfl) ?_
                          refine va_get (D := g.1) (ci := 10) (v := .ref (q 43)) (C := R_Mod) (T := F_Mod) (N := 61) hx hb hts in_Mod hown hK hP 0 rfl rfl 43 (by decide) (hts _ wd_1293) (fun _ h9 => h9) rfl d_Mod_goOn_224 ?_
                          refine lv_iload hx hb d_Mod_goOn_227 (lv_at hl 3 rfl) ?_
                          refine lv_iload hx hb d_Mod_goOn_229 (lv_at hl 0 rfl) ?_
                          refine lv_iadd hx hb d_Mod_goOn_231 ?_
                          refine tw_ri (e2 := nI (128 * tt + k)) (nI_add _ _) ?_
                          refine lv_iconst (v := 0) hx hb d_Mod_goOn_232 (by decide) ?_
                          refine va_iast hx hb hK hP hD hS 3 0 rfl rfl (vp_in_nI (by omega) (by decide)) d_Mod_goOn_233 (fun H locs hP hD hS => ?_)
                          have hP : va_P g.1 classes [(h0, .inr (10, mob q rf n mm mb fa fp av ev wi mn tp tc sc nf fd me mp xn mt wh tq ag an ig)), ((q 41), aI g 600 dp), ((q 42), aZ g 600 iw), ((q 43), aI g 76800 (upd kd9 (nI (128 * tt + k)).toNatClampNeg 0)), ((q 47), aI g 128 nw), ((q 48), aI g 64 bf)] H := hP
                          have hD : va_D A [(h0, .inr (10, mob q rf n mm mb fa fp av ev wi mn tp tc sc nf fd me mp xn mt wh tq ag an ig)), ((q 41), aI g 600 dp), ((q 42), aZ g 600 iw), ((q 43), aI g 76800 (upd kd9 (nI (128 * tt + k)).toNatClampNeg 0)), ((q 47), aI g 128 nw), ((q 48), aI g 64 bf)] := hD
                          have e9 : upd kd9 (nI (128 * tt + k)).toNatClampNeg 0 = upd kd9 (128 * tt + k) 0 := by rw [nI_clamp (by omega)]
                          rw [e9] at hP hD
                          refine lv_iconst (v := 1) hx hb d_Mod_goOn_234 (by decide) ?_
                          refine lv_istore hx hb d_Mod_goOn_235 hl (by decide) rfl (fun ls hl => ?_)
                          have hl : lv_has ls 10 [(6, .int 1), (7, .int (nI k)), (5, .int s9), (4, .int (nI (128 * tt))), (0, .ref h0), (1, .int (nI tt)), (2, .ref (q 48)), (3, .int (nI dd))] := hl
                          refine lv_iinc (k := 1) (v := nI (k + 1)) hx hb d_Mod_goOn_237 hl rfl ((nI_succ k).symm) (by decide) rfl (fun ls hl => ?_)
                          have hl : lv_has ls 10 [(7, .int (nI (k + 1))), (6, .int 1), (5, .int s9), (4, .int (nI (128 * tt))), (0, .ref h0), (1, .int (nI tt)), (2, .ref (q 48)), (3, .int (nI dd))] := hl
                          refine lv_goto (tgt := 186) hx hb d_Mod_goOn_240 (by decide) ?_
                          have hP : va_P g.1 classes [(h0, .inr (10, mob q rf n mm mb fa fp av ev wi mn tp tc sc nf fd me mp xn mt wh tq ag an ig)), ((q 41), aI g 600 dp), ((q 42), aZ g 600 iw), ((q 43), aI g 76800 (upd kd9 (128 * tt + k) 0)), ((q 47), aI g 128 nw), ((q 48), aI g 64 bf)] H := hP.sub [0, 1, 2, 3, 4, 5] rfl
                          have hD : va_D A [(h0, .inr (10, mob q rf n mm mb fa fp av ev wi mn tp tc sc nf fd me mp xn mt wh tq ag an ig)), ((q 41), aI g 600 dp), ((q 42), aZ g 600 iw), ((q 43), aI g 76800 (upd kd9 (128 * tt + k) 0)), ((q 47), aI g 128 nw), ((q 48), aI g 64 bf)] := hD.sub [0, 1, 2, 3, 4, 5] (by decide) rfl
                          exact ih186 _ (by omega) 1 (k + 1) (upd kd9 (128 * tt + k) 0) ls _ _ rfl (by omega) (hKD.put (fun _ => by decide)) (nk_dn hCN (by omega) (by omega) h220) (lv_sub hl [0, 1, 2, 3, 4, 5, 6, 7] rfl) hP hD hS
                exact loop186 _ 0 0 kd ls _ _ rfl (Nat.zero_le _) hFR.2.2 (Or.inl ⟨rfl, rfl⟩) (hl) hP hD hS
              · exact absurd h166 h116
            · have h122 := tn_nle h122 (by omega) (by omega)
              refine lv_aload_n hx hb d_Mod_goOn_125 rfl (lv_at hl 3 rfl) ?_
              refine va_get (D := g.1) (ci := 10) (v := .ref (q 43)) (C := R_Mod) (T := F_Mod) (N := 61) hx hb hts in_Mod hown hK hP 0 rfl rfl 43 (by decide) (hts _ wd_1293) (fun _ h9 => h9) rfl d_Mod_goOn_126 ?_
              refine lv_iload hx hb d_Mod_goOn_129 (lv_at hl 2 rfl) ?_
              refine lv_bipush (v := 64) hx hb d_Mod_goOn_131 (by decide) ?_
              refine lv_iadd hx hb d_Mod_goOn_133 ?_
              refine tw_ri (e2 := nI (128 * tt + 64)) (nI_add _ 64) ?_
              refine lv_iload hx hb d_Mod_goOn_134 (lv_at hl 0 rfl) ?_
              refine lv_iadd hx hb d_Mod_goOn_136 ?_
              refine tw_ri (e2 := nI (128 * tt + 64 + k)) (nI_add _ _) ?_
              refine va_iald hx hb hK hP 3 0 rfl rfl (vp_in_nI (by omega) (by decide)) d_Mod_goOn_137 ?_
              obtain ⟨x13, ex13⟩ : ∃ z : Int32, kd ((nI (128 * tt + 64 + k)).toNatClampNeg) = z := ⟨_, rfl⟩
              refine tw_ri (e2 := x13) ex13 ?_
              refine lv_aload_n hx hb d_Mod_goOn_138 rfl (lv_at hl 3 rfl) ?_
              refine va_get (D := g.1) (ci := 10) (v := .ref (q 47)) (C := R_Mod) (T := F_Mod) (N := 61) hx hb hts in_Mod hown hK hP 0 rfl rfl 47 (by decide) (hts _ wd_1297) (fun _ h9 => h9) rfl d_Mod_goOn_139 ?_
              refine lv_bipush (v := 64) hx hb d_Mod_goOn_142 (by decide) ?_
              refine lv_iload hx hb d_Mod_goOn_144 (lv_at hl 0 rfl) ?_
              refine lv_iadd hx hb d_Mod_goOn_146 ?_
              refine tw_ri (e2 := nI (64 + k)) (nI_add 64 k) ?_
              refine va_iald hx hb hK hP 4 0 rfl rfl (vp_in_nI (by omega) (by decide)) d_Mod_goOn_147 ?_
              obtain ⟨x14, ex14⟩ : ∃ z : Int32, nw ((nI (64 + k)).toNatClampNeg) = z := ⟨_, rfl⟩
              refine tw_ri (e2 := x14) ex14 ?_
              refine lv_icmp_ne (tgt := 155) hx hb d_Mod_goOn_148 (by decide) (fun h148 => ?_) (fun h148 => ?_)
              · refine lv_iconst (v := 0) hx hb d_Mod_goOn_155 (by decide) ?_
                refine lv_istore hx hb d_Mod_goOn_156 hl (by decide) rfl (fun ls hl => ?_)
                have hl : lv_has ls 10 [(5, .int 0), (6, .int (nI k)), (4, .int (nI (128 * tt))), (0, .ref h0), (1, .int (nI tt)), (2, .ref (q 48)), (3, .int (nI dd))] := hl
                refine lv_iinc (k := 1) (v := nI (k + 1)) hx hb d_Mod_goOn_158 hl rfl ((nI_succ k).symm) (by decide) rfl (fun ls hl => ?_)
                have hl : lv_has ls 10 [(6, .int (nI (k + 1))), (5, .int 0), (4, .int (nI (128 * tt))), (0, .ref h0), (1, .int (nI tt)), (2, .ref (q 48)), (3, .int (nI dd))] := hl
                refine lv_goto (tgt := 114) hx hb d_Mod_goOn_161 (by decide) ?_
                have hP : va_P g.1 classes [(h0, .inr (10, mob q rf n mm mb fa fp av ev wi mn tp tc sc nf fd me mp xn mt wh tq ag an ig)), ((q 41), aI g 600 dp), ((q 42), aZ g 600 iw), ((q 43), aI g 76800 kd), ((q 47), aI g 128 nw), ((q 48), aI g 64 bf)] H := hP.sub [0, 1, 2, 3, 4, 5] rfl
                have hD : va_D A [(h0, .inr (10, mob q rf n mm mb fa fp av ev wi mn tp tc sc nf fd me mp xn mt wh tq ag an ig)), ((q 41), aI g 600 dp), ((q 42), aZ g 600 iw), ((q 43), aI g 76800 kd), ((q 47), aI g 128 nw), ((q 48), aI g 64 bf)] := hD.sub [0, 1, 2, 3, 4, 5] (by decide) rfl
                exact ih _ (by omega) 0 (k + 1) ls _ _ rfl (by omega) (lv_sub hl [0, 1, 2, 3, 4, 5, 6] rfl) hP hD hS
              · refine lv_iconst (v := 1) hx hb d_Mod_goOn_151 (by decide) ?_
                refine lv_goto (tgt := 156) hx hb d_Mod_goOn_152 (by decide) ?_
                refine lv_istore hx hb d_Mod_goOn_156 hl (by decide) rfl (fun ls hl => ?_)
                have hl : lv_has ls 10 [(5, .int 1), (6, .int (nI k)), (4, .int (nI (128 * tt))), (0, .ref h0), (1, .int (nI tt)), (2, .ref (q 48)), (3, .int (nI dd))] := hl
                refine lv_iinc (k := 1) (v := nI (k + 1)) hx hb d_Mod_goOn_158 hl rfl ((nI_succ k).symm) (by decide) rfl (fun ls hl => ?_)
                have hl : lv_has ls 10 [(6, .int (nI (k + 1))), (5, .int 1), (4, .int (nI (128 * tt))), (0, .ref h0), (1, .int (nI tt)), (2, .ref (q 48)), (3, .int (nI dd))] := hl
                refine lv_goto (tgt := 114) hx hb d_Mod_goOn_161 (by decide) ?_
                have hP : va_P g.1 classes [(h0, .inr (10, mob q rf n mm mb fa fp av ev wi mn tp tc sc nf fd me mp xn mt wh tq ag an ig)), ((q 41), aI g 600 dp), ((q 42), aZ g 600 iw), ((q 43), aI g 76800 kd), ((q 47), aI g 128 nw), ((q 48), aI g 64 bf)] H := hP.sub [0, 1, 2, 3, 4, 5] rfl
                have hD : va_D A [(h0, .inr (10, mob q rf n mm mb fa fp av ev wi mn tp tc sc nf fd me mp xn mt wh tq ag an ig)), ((q 41), aI g 600 dp), ((q 42), aZ g 600 iw), ((q 43), aI g 76800 kd), ((q 47), aI g 128 nw), ((q 48), aI g 64 bf)] := hD.sub [0, 1, 2, 3, 4, 5] (by decide) rfl
                exact ih _ (by omega) 1 (k + 1) ls _ _ rfl (by omega) (lv_sub hl [0, 1, 2, 3, 4, 5, 6] rfl) hP hD hS
      exact loop114 _ 1 0 ls _ _ rfl (Nat.zero_le _) (hl) hP hD hS
  · have hdm := fr_none hFR ht6 h13
    refine lv_iconst (v := 0) hx hb d_Mod_goOn_16 (by decide) ?_
    refine lv_istore hx hb d_Mod_goOn_17 hl (by decide) rfl (fun ls hl => ?_)
    have hl : lv_has ls 10 [(5, .int 0), (4, .int (nI (128 * tt))), (0, .ref h0), (1, .int (nI tt)), (2, .ref (q 48)), (3, .int (nI dd))] := hl
    have loop19 : ∀ (kq : Nat) (k : Nat) (kd9 : Nat → Int32) (ls : Array Slot) (H : Heap) (locs : List Loc) , 64 - k = kq → (hk4 : k ≤ 64) → (hKD : KD3 kd9) → (hNk : NK kd9 ≤ NK kd + k) → lv_has ls 10 [(5, .int (nI k)), (4, .int (nI (128 * tt))), (0, .ref h0), (1, .int (nI tt)), (2, .ref (q 48)), (3, .int (nI dd))] → va_P g.1 classes [(h0, .inr (10, mob q rf n mm mb fa fp av ev wi mn tp tc sc nf fd me mp xn mt wh tq ag an ig)), ((q 41), aI g 600 dp), ((q 42), aZ g 600 iw), ((q 43), aI g 76800 kd9), ((q 47), aI g 128 nw), ((q 48), aI g 64 bf)] H → va_D A [(h0, .inr (10, mob q rf n mm mb fa fp av ev wi mn tp tc sc nf fd me mp xn mt wh tq ag an ig)), ((q 41), aI g 600 dp), ((q 42), aZ g 600 iw), ((q 43), aI g 76800 kd9), ((q 47), aI g 128 nw), ((q 48), aI g 64 bf)] → va_S A s.heap H locs → W p l e ({ frames := 1, cells := 0, slots := 0, locals := 22 }) s m [.ref h0, .int (nI tt), .ref (q 48), .int (nI dd)].toArray below meth c H locs 0 0 (MQ below (tw_Qv g (fun (u : Int32 × Int32 × (Nat → Int32) × (Nat → Int32) × (Nat → Int32)) => (u.1 = 0 → fa = 0) ∧ (FRG u.2.2.1 u.2.2.2.1 u.2.2.2.2) ∧ (MU u.2.2.1 u.2.2.2.1 u.2.2.2.2 ≤ MU dp iw kd)) (fun u : Int32 × Int32 × (Nat → Int32) × (Nat → Int32) × (Nat → Int32) => [(h0, .inr (10, mob q rf n mm mb u.1 u.2.1 av ev wi mn tp tc sc nf fd me mp xn mt wh tq ag an ig)), ((q 41), aI g 600 u.2.2.1), ((q 42), aZ g 600 u.2.2.2.1), ((q 43), aI g 76800 u.2.2.2.2), ((q 47), aI g 128 nw), ((q 48), aI g 64 bf)]) A) [.ref h0, .int (nI tt), .ref (q 48), .int (nI dd)].toArray s 0 0 A) (F0 m 19 ls []) := by
      intro kq
      induction kq using Nat.strongRecOn with
      | _ kq ih =>
        intro k kd9 ls H locs hk hk4 hKD hNk hl hP hD hS
        refine lv_iload hx hb d_Mod_goOn_19 (lv_at hl 0 rfl) ?_
        refine lv_bipush (v := 64) hx hb d_Mod_goOn_21 (by decide) ?_
        refine lv_icmp_ge (tgt := 79) hx hb d_Mod_goOn_23 (by decide) (fun h23 => ?_) (fun h23 => ?_)
        · have h23 := tn_le (a := 64) h23 (by decide) (by omega)
          refine lv_aload_n hx hb d_Mod_goOn_79 rfl (lv_at hl 2 rfl) ?_
          refine va_get (D := g.1) (ci := 10) (v := .ref (q 41)) (C := R_Mod) (T := F_Mod) (N := 61) hx hb hts in_Mod hown hK hP 0 rfl rfl 41 (by decide) (hts _ wd_1291) (fun _ h9 => h9) rfl d_Mod_goOn_80 ?_
          refine lv_iload_n hx hb d_Mod_goOn_83 rfl (lv_at hl 3 rfl) ?_
          refine lv_iload_n hx hb d_Mod_goOn_84 rfl (lv_at hl 5 rfl) ?_
          refine va_iast hx hb hK hP hD hS 1 0 rfl rfl (vp_in_nI (by omega) (by decide)) d_Mod_goOn_85 (fun H locs hP hD hS => ?_)
          have hP : va_P g.1 classes [(h0, .inr (10, mob q rf n mm mb fa fp av ev wi mn tp tc sc nf fd me mp xn mt wh tq ag an ig)), ((q 41), aI g 600 (upd dp (nI tt).toNatClampNeg (nI dd))), ((q 42), aZ g 600 iw), ((q 43), aI g 76800 kd9), ((q 47), aI g 128 nw), ((q 48), aI g 64 bf)] H := hP
          have hD : va_D A [(h0, .inr (10, mob q rf n mm mb fa fp av ev wi mn tp tc sc nf fd me mp xn mt wh tq ag an ig)), ((q 41), aI g 600 (upd dp (nI tt).toNatClampNeg (nI dd))), ((q 42), aZ g 600 iw), ((q 43), aI g 76800 kd9), ((q 47), aI g 128 nw), ((q 48), aI g 64 bf)] := hD
          have e9 : upd dp (nI tt).toNatClampNeg (nI dd) = upd dp tt (nI dd) := by rw [nI_clamp (by omega)]
          rw [e9] at hP hD
          refine lv_aload_n hx hb d_Mod_goOn_86 rfl (lv_at hl 2 rfl) ?_
          refine va_get (D := g.1) (ci := 10) (v := .ref (q 42)) (C := R_Mod) (T := F_Mod) (N := 61) hx hb hts in_Mod hown hK hP 0 rfl rfl 42 (by decide) (hts _ wd_1292) (fun _ h9 => h9) rfl d_Mod_goOn_87 ?_
          refine lv_iload_n hx hb d_Mod_goOn_90 rfl (lv_at hl 3 rfl) ?_
          refine lv_iconst (v := 1) hx hb d_Mod_goOn_91 (by decide) ?_
          refine va_zast hx hb hK hP hD hS 2 3 rfl rfl (vp_in_nI (by omega) (by decide)) d_Mod_goOn_92 (fun H locs hP hD hS => ?_)
          have hP : va_P g.1 classes [(h0, .inr (10, mob q rf n mm mb fa fp av ev wi mn tp tc sc nf fd me mp xn mt wh tq ag an ig)), ((q 41), aI g 600 (upd dp tt (nI dd))), ((q 42), aZ g 600 (upd iw (nI tt).toNatClampNeg (vp_nar .boolean 1))), ((q 43), aI g 76800 kd9), ((q 47), aI g 128 nw), ((q 48), aI g 64 bf)] H := hP
          have hD : va_D A [(h0, .inr (10, mob q rf n mm mb fa fp av ev wi mn tp tc sc nf fd me mp xn mt wh tq ag an ig)), ((q 41), aI g 600 (upd dp tt (nI dd))), ((q 42), aZ g 600 (upd iw (nI tt).toNatClampNeg (vp_nar .boolean 1))), ((q 43), aI g 76800 kd9), ((q 47), aI g 128 nw), ((q 48), aI g 64 bf)] := hD
          have e9 : upd iw (nI tt).toNatClampNeg (vp_nar .boolean 1) = upd iw tt 1 := by rw [nI_clamp (by omega)]; rfl
          rw [e9] at hP hD
          exact tw_vret E hS (fa, fp, upd dp tt (nI dd), upd iw tt 1, kd9) (⟨(fun h => h), (hFR.new hd64 hKD), (mu_new hdm ht6 (by first | omega | (dsimp only <;> omega)) hd64)⟩) hP hD d_Mod_goOn_93
        · have h23 := tn_nle (a := 64) h23 (by decide) (by omega)
          refine lv_aload_n hx hb d_Mod_goOn_26 rfl (lv_at hl 2 rfl) ?_
          refine va_get (D := g.1) (ci := 10) (v := .ref (q 43)) (C := R_Mod) (T := F_Mod) (N := 61) hx hb hts in_Mod hown hK hP 0 rfl rfl 43 (by decide) (hts _ wd_1293) (fun _ h9 => h9) rfl d_Mod_goOn_27 ?_
          refine lv_iload hx hb d_Mod_goOn_30 (lv_at hl 1 rfl) ?_
          refine lv_iload hx hb d_Mod_goOn_32 (lv_at hl 0 rfl) ?_
          refine lv_iadd hx hb d_Mod_goOn_34 ?_
          refine tw_ri (e2 := nI (128 * tt + k)) (nI_add _ _) ?_
          refine lv_aload_n hx hb d_Mod_goOn_35 rfl (lv_at hl 4 rfl) ?_
          refine lv_iload hx hb d_Mod_goOn_36 (lv_at hl 0 rfl) ?_
          refine va_iald hx hb hK hP 5 0 rfl rfl (vp_in_nI (by omega) (by decide)) d_Mod_goOn_38 ?_
          refine tw_ri (e2 := bf k) (by rw [nI_clamp (by omega)]) ?_
          refine va_iast hx hb hK hP hD hS 3 0 rfl rfl (vp_in_nI (by omega) (by decide)) d_Mod_goOn_39 (fun H locs hP hD hS => ?_)
          have hP : va_P g.1 classes [(h0, .inr (10, mob q rf n mm mb fa fp av ev wi mn tp tc sc nf fd me mp xn mt wh tq ag an ig)), ((q 41), aI g 600 dp), ((q 42), aZ g 600 iw), ((q 43), aI g 76800 (upd kd9 (nI (128 * tt + k)).toNatClampNeg (bf k))), ((q 47), aI g 128 nw), ((q 48), aI g 64 bf)] H := hP
          have hD : va_D A [(h0, .inr (10, mob q rf n mm mb fa fp av ev wi mn tp tc sc nf fd me mp xn mt wh tq ag an ig)), ((q 41), aI g 600 dp), ((q 42), aZ g 600 iw), ((q 43), aI g 76800 (upd kd9 (nI (128 * tt + k)).toNatClampNeg (bf k))), ((q 47), aI g 128 nw), ((q 48), aI g 64 bf)] := hD
          have e9 : upd kd9 (nI (128 * tt + k)).toNatClampNeg (bf k) = upd kd9 (128 * tt + k) (bf k) := by rw [nI_clamp (by omega)]
          rw [e9] at hP hD
          refine lv_aload_n hx hb d_Mod_goOn_40 rfl (lv_at hl 2 rfl) ?_
          refine va_get (D := g.1) (ci := 10) (v := .ref (q 43)) (C := R_Mod) (T := F_Mod) (N := 61) hx hb hts in_Mod hown hK hP 0 rfl rfl 43 (by decide) (hts _ wd_1293) (fun _ h9 => h9) rfl d_Mod_goOn_41 ?_
          refine lv_iload hx hb d_Mod_goOn_44 (lv_at hl 1 rfl) ?_
          refine lv_bipush (v := 64) hx hb d_Mod_goOn_46 (by decide) ?_
          refine lv_iadd hx hb d_Mod_goOn_48 ?_
          refine tw_ri (e2 := nI (128 * tt + 64)) (nI_add _ 64) ?_
          refine lv_iload hx hb d_Mod_goOn_49 (lv_at hl 0 rfl) ?_
          refine lv_iadd hx hb d_Mod_goOn_51 ?_
          refine tw_ri (e2 := nI (128 * tt + 64 + k)) (nI_add _ _) ?_
          refine lv_iload hx hb d_Mod_goOn_52 (lv_at hl 0 rfl) ?_
          refine lv_iload_n hx hb d_Mod_goOn_54 rfl (lv_at hl 5 rfl) ?_
          refine lv_icmp_ge (tgt := 71) hx hb d_Mod_goOn_55 (by decide) (fun h55 => ?_) (fun h55 => ?_)
          · refine lv_iconst (v := 0) hx hb d_Mod_goOn_71 (by decide) ?_
            refine va_iast hx hb hK hP hD hS 3 0 rfl rfl (vp_in_nI (by omega) (by decide)) d_Mod_goOn_72 (fun H locs hP hD hS => ?_)
            have hP : va_P g.1 classes [(h0, .inr (10, mob q rf n mm mb fa fp av ev wi mn tp tc sc nf fd me mp xn mt wh tq ag an ig)), ((q 41), aI g 600 dp), ((q 42), aZ g 600 iw), ((q 43), aI g 76800 (upd (upd kd9 (128 * tt + k) (bf k)) (nI (128 * tt + 64 + k)).toNatClampNeg 0)), ((q 47), aI g 128 nw), ((q 48), aI g 64 bf)] H := hP
            have hD : va_D A [(h0, .inr (10, mob q rf n mm mb fa fp av ev wi mn tp tc sc nf fd me mp xn mt wh tq ag an ig)), ((q 41), aI g 600 dp), ((q 42), aZ g 600 iw), ((q 43), aI g 76800 (upd (upd kd9 (128 * tt + k) (bf k)) (nI (128 * tt + 64 + k)).toNatClampNeg 0)), ((q 47), aI g 128 nw), ((q 48), aI g 64 bf)] := hD
            have e9 : upd (upd kd9 (128 * tt + k) (bf k)) (nI (128 * tt + 64 + k)).toNatClampNeg 0 = upd (upd kd9 (128 * tt + k) (bf k)) (128 * tt + 64 + k) 0 := by rw [nI_clamp (by omega)]
            rw [e9] at hP hD
            refine lv_iinc (k := 0) (v := nI (k + 1)) hx hb d_Mod_goOn_73 hl rfl ((nI_succ k).symm) (by decide) rfl (fun ls hl => ?_)
            have hl : lv_has ls 10 [(5, .int (nI (k + 1))), (4, .int (nI (128 * tt))), (0, .ref h0), (1, .int (nI tt)), (2, .ref (q 48)), (3, .int (nI dd))] := hl
            refine lv_goto (tgt := 19) hx hb d_Mod_goOn_76 (by decide) ?_
            have hP : va_P g.1 classes [(h0, .inr (10, mob q rf n mm mb fa fp av ev wi mn tp tc sc nf fd me mp xn mt wh tq ag an ig)), ((q 41), aI g 600 dp), ((q 42), aZ g 600 iw), ((q 43), aI g 76800 (upd (upd kd9 (128 * tt + k) (bf k)) (128 * tt + 64 + k) 0)), ((q 47), aI g 128 nw), ((q 48), aI g 64 bf)] H := hP.sub [0, 1, 2, 3, 4, 5] rfl
            have hD : va_D A [(h0, .inr (10, mob q rf n mm mb fa fp av ev wi mn tp tc sc nf fd me mp xn mt wh tq ag an ig)), ((q 41), aI g 600 dp), ((q 42), aZ g 600 iw), ((q 43), aI g 76800 (upd (upd kd9 (128 * tt + k) (bf k)) (128 * tt + 64 + k) 0)), ((q 47), aI g 128 nw), ((q 48), aI g 64 bf)] := hD.sub [0, 1, 2, 3, 4, 5] (by decide) rfl
            exact ih _ (by omega) (k + 1) (upd (upd kd9 (128 * tt + k) (bf k)) (128 * tt + 64 + k) 0) ls _ _ rfl (by omega) ((hKD.put (fun h9 => by have e0 : k = 0 := (by omega); rw [e0]; exact hr3)).put (fun _ => by decide)) (nk_two hNk (by omega) (by omega) (by omega)) (lv_sub hl [0, 1, 2, 3, 4, 5] rfl) hP hD hS
          · have h55 := tn_nle h55 (by omega) (by omega)
            refine lv_aload_n hx hb d_Mod_goOn_58 rfl (lv_at hl 2 rfl) ?_
            refine va_get (D := g.1) (ci := 10) (v := .ref (q 47)) (C := R_Mod) (T := F_Mod) (N := 61) hx hb hts in_Mod hown hK hP 0 rfl rfl 47 (by decide) (hts _ wd_1297) (fun _ h9 => h9) rfl d_Mod_goOn_59 ?_
            refine lv_bipush (v := 64) hx hb d_Mod_goOn_62 (by decide) ?_
            refine lv_iload hx hb d_Mod_goOn_64 (lv_at hl 0 rfl) ?_
            refine lv_iadd hx hb d_Mod_goOn_66 ?_
            refine tw_ri (e2 := nI (64 + k)) (nI_add 64 k) ?_
            refine va_iald hx hb hK hP 4 0 rfl rfl (vp_in_nI (by omega) (by decide)) d_Mod_goOn_67 ?_
            refine tw_ri (e2 := nw (64 + k)) (by rw [nI_clamp (by omega)]) ?_
            refine lv_goto (tgt := 72) hx hb d_Mod_goOn_68 (by decide) ?_
            refine va_iast hx hb hK hP hD hS 3 0 rfl rfl (vp_in_nI (by omega) (by decide)) d_Mod_goOn_72 (fun H locs hP hD hS => ?_)
            have hP : va_P g.1 classes [(h0, .inr (10, mob q rf n mm mb fa fp av ev wi mn tp tc sc nf fd me mp xn mt wh tq ag an ig)), ((q 41), aI g 600 dp), ((q 42), aZ g 600 iw), ((q 43), aI g 76800 (upd (upd kd9 (128 * tt + k) (bf k)) (nI (128 * tt + 64 + k)).toNatClampNeg (nw (64 + k)))), ((q 47), aI g 128 nw), ((q 48), aI g 64 bf)] H := hP
            have hD : va_D A [(h0, .inr (10, mob q rf n mm mb fa fp av ev wi mn tp tc sc nf fd me mp xn mt wh tq ag an ig)), ((q 41), aI g 600 dp), ((q 42), aZ g 600 iw), ((q 43), aI g 76800 (upd (upd kd9 (128 * tt + k) (bf k)) (nI (128 * tt + 64 + k)).toNatClampNeg (nw (64 + k)))), ((q 47), aI g 128 nw), ((q 48), aI g 64 bf)] := hD
            have e9 : upd (upd kd9 (128 * tt + k) (bf k)) (nI (128 * tt + 64 + k)).toNatClampNeg (nw (64 + k)) = upd (upd kd9 (128 * tt + k) (bf k)) (128 * tt + 64 + k) (nw (64 + k)) := by rw [nI_clamp (by omega)]
            rw [e9] at hP hD
            refine lv_iinc (k := 0) (v := nI (k + 1)) hx hb d_Mod_goOn_73 hl rfl ((nI_succ k).symm) (by decide) rfl (fun ls hl => ?_)
            have hl : lv_has ls 10 [(5, .int (nI (k + 1))), (4, .int (nI (128 * tt))), (0, .ref h0), (1, .int (nI tt)), (2, .ref (q 48)), (3, .int (nI dd))] := hl
            refine lv_goto (tgt := 19) hx hb d_Mod_goOn_76 (by decide) ?_
            have hP : va_P g.1 classes [(h0, .inr (10, mob q rf n mm mb fa fp av ev wi mn tp tc sc nf fd me mp xn mt wh tq ag an ig)), ((q 41), aI g 600 dp), ((q 42), aZ g 600 iw), ((q 43), aI g 76800 (upd (upd kd9 (128 * tt + k) (bf k)) (128 * tt + 64 + k) (nw (64 + k)))), ((q 47), aI g 128 nw), ((q 48), aI g 64 bf)] H := hP.sub [0, 1, 2, 3, 4, 5] rfl
            have hD : va_D A [(h0, .inr (10, mob q rf n mm mb fa fp av ev wi mn tp tc sc nf fd me mp xn mt wh tq ag an ig)), ((q 41), aI g 600 dp), ((q 42), aZ g 600 iw), ((q 43), aI g 76800 (upd (upd kd9 (128 * tt + k) (bf k)) (128 * tt + 64 + k) (nw (64 + k)))), ((q 47), aI g 128 nw), ((q 48), aI g 64 bf)] := hD.sub [0, 1, 2, 3, 4, 5] (by decide) rfl
            exact ih _ (by omega) (k + 1) (upd (upd kd9 (128 * tt + k) (bf k)) (128 * tt + 64 + k) (nw (64 + k))) ls _ _ rfl (by omega) ((hKD.put (fun h9 => by have e0 : k = 0 := (by omega); rw [e0]; exact hr3)).put (fun h9 => by have e0 : k = 0 := (by omega); rw [e0]; exact hn3)) (nk_two hNk (by omega) (by omega) (by omega)) (lv_sub hl [0, 1, 2, 3, 4, 5] rfl) hP hD hS
    exact loop19 _ 0 kd ls _ _ rfl (Nat.zero_le _) hFR.2.2 (by omega) (hl) hP hD hS
end
section
theorem FRG.quiet {dp iw kd : Nat → Int32} (h : FRG dp iw kd) (t : Nat) : FRG dp (upd iw t 0) kd := by
  refine ⟨h.1, ?_, h.2.2⟩
  intro p hp hw
  by_cases e : p = t
  · exact absurd (if_pos e) hw
  · simp only [upd, if_neg e] at hw; exact h.2.1 p hp hw
theorem cp_put {nw kd : Nat → Int32} {b k : Nat} (h : ∀ j, j < k → nw j = kd (b + j)) : ∀ j, j < k + 1 → upd nw k (kd (b + k)) j = kd (b + j) := by
  intro j hj
  by_cases e : j = k
  · subst e; exact if_pos rfl
  · exact (if_neg e).trans (h j (by omega))
theorem cp_put2 {bf nw : Nat → Int32} {k : Nat} (h : ∀ j, j < k → bf j = nw j) : ∀ j, j < k + 1 → upd bf k (nw k) j = nw j := by
  intro j hj
  by_cases e : j = k
  · subst e; exact if_pos rfl
  · exact (if_neg e).trans (h j (by omega))
theorem cp_now {nw kd : Nat → Int32} {b : Nat} (hk : ¬ kd b = 3 ∧ ¬ kd (b + 64) = 3) (h : ∀ j, j < 128 → nw j = kd (b + j)) : NOW nw := by
  constructor
  · rw [h 0 (by decide)]; exact hk.1
  · rw [h 64 (by decide)]; exact hk.2
theorem zr_now {nw : Nat → Int32} (h : ∀ j, j < 128 → nw j = 0) : NOW nw := by
  constructor
  · rw [h 0 (by decide)]; decide
  · rw [h 64 (by decide)]; decide
theorem fo_jT : ∀ c, c < 256 → ¬ is_in (nI c) 153 167 = 0 → fof (nI c) = nI 2 := by decide +kernel
theorem fo_j {c n : Nat} (h : fof (nI c) = nI n) (hc : ¬ is_in (nI c) 153 167 = 0) (hn : n ≤ 2) (h256 : c < 256) : n = 2 := (tn_eq ((fo_jT c h256 hc).symm.trans h) (by decide) (by omega)).symm
theorem fo_198 {c n : Nat} (h : fof (nI c) = nI n) (hc : nI c = 198) (hn : n ≤ 2) (h256 : c < 256) : n = 2 := by
  rw [hc] at h
  have e : fof 198 = nI 2 := by decide
  exact (tn_eq (e.symm.trans h) (by decide) (by omega)).symm
theorem fo_199 {c n : Nat} (h : fof (nI c) = nI n) (hc : nI c = 199) (hn : n ≤ 2) (h256 : c < 256) : n = 2 := by
  rw [hc] at h
  have e : fof 199 = nI 2 := by decide
  exact (tn_eq (e.symm.trans h) (by decide) (by omega)).symm
theorem ff_int {q : Nat} (h : q ≤ 601) : (nI q - 1).toInt = (q : Int) - 1 := by
  have e := pk_sub_toInt (a := q) (b := 1) (by omega) (by omega)
  exact e
theorem ff_lt {a q : Nat} (h : ¬ nI a ≤ nI q - 1) (hq : q ≤ 601) (ha : a ≤ 600) : q ≤ a := by
  rw [Int32.le_iff_toInt_le, ff_int hq, nI_toInt (by omega)] at h
  omega
theorem ff_ge {q : Nat} (h : 0 ≤ nI q - 1) (hq : q ≤ 601) : 1 ≤ q := by
  rw [Int32.le_iff_toInt_le, ff_int hq] at h
  have e : (0 : Int32).toInt = 0 := by decide
  omega
theorem ff_dn {q : Nat} (h : 1 ≤ q) : nI q - 1 = nI (q - 1) := sf_dn h
theorem ff_up (q : Nat) : nI q - 1 + 1 = nI (q + 1) - 1 := by
  rw [Int32.sub_add_cancel, sf_dn (q := q + 1) (by omega)]
  rfl
end
section
theorem d_Mod_toHandlers_0 : decode b_Mod_toHandlers 0 = .ok (.aload_n 0, 1) := by decide +kernel
theorem d_Mod_toHandlers_1 : decode b_Mod_toHandlers 1 = .ok (.getfield 77, 3) := by decide +kernel
theorem d_Mod_toHandlers_4 : decode b_Mod_toHandlers 4 = .ok (.iload_n 1, 1) := by decide +kernel
theorem d_Mod_toHandlers_5 : decode b_Mod_toHandlers 5 = .ok (.iaload, 1) := by decide +kernel
theorem d_Mod_toHandlers_6 : decode b_Mod_toHandlers 6 = .ok (.istore_n 3, 1) := by decide +kernel
theorem d_Mod_toHandlers_7 : decode b_Mod_toHandlers 7 = .ok (.iload_n 3, 1) := by decide +kernel
theorem d_Mod_toHandlers_8 : decode b_Mod_toHandlers 8 = .ok (.aload_n 0, 1) := by decide +kernel
theorem d_Mod_toHandlers_9 : decode b_Mod_toHandlers 9 = .ok (.getfield 80, 3) := by decide +kernel
theorem d_Mod_toHandlers_12 : decode b_Mod_toHandlers 12 = .ok (.iload_n 1, 1) := by decide +kernel
theorem d_Mod_toHandlers_13 : decode b_Mod_toHandlers 13 = .ok (.iaload, 1) := by decide +kernel
theorem d_Mod_toHandlers_14 : decode b_Mod_toHandlers 14 = .ok (.if_icmp .ge 116, 3) := by decide +kernel
theorem d_Mod_toHandlers_17 : decode b_Mod_toHandlers 17 = .ok (.aload_n 0, 1) := by decide +kernel
theorem d_Mod_toHandlers_18 : decode b_Mod_toHandlers 18 = .ok (.getfield 147, 3) := by decide +kernel
theorem d_Mod_toHandlers_21 : decode b_Mod_toHandlers 21 = .ok (.ifCond .ne 109, 3) := by decide +kernel
theorem d_Mod_toHandlers_24 : decode b_Mod_toHandlers 24 = .ok (.aload_n 0, 1) := by decide +kernel
theorem d_Mod_toHandlers_25 : decode b_Mod_toHandlers 25 = .ok (.getfield 83, 3) := by decide +kernel
theorem d_Mod_toHandlers_28 : decode b_Mod_toHandlers 28 = .ok (.iload_n 3, 1) := by decide +kernel
theorem d_Mod_toHandlers_29 : decode b_Mod_toHandlers 29 = .ok (.iaload, 1) := by decide +kernel
theorem d_Mod_toHandlers_30 : decode b_Mod_toHandlers 30 = .ok (.istore 4, 2) := by decide +kernel
theorem d_Mod_toHandlers_32 : decode b_Mod_toHandlers 32 = .ok (.aload_n 0, 1) := by decide +kernel
theorem d_Mod_toHandlers_33 : decode b_Mod_toHandlers 33 = .ok (.iload 4, 2) := by decide +kernel
theorem d_Mod_toHandlers_35 : decode b_Mod_toHandlers 35 = .ok (.invokevirtual 294, 3) := by decide +kernel
theorem d_Mod_toHandlers_38 : decode b_Mod_toHandlers 38 = .ok (.iload_n 2, 1) := by decide +kernel
theorem d_Mod_toHandlers_39 : decode b_Mod_toHandlers 39 = .ok (.if_icmp .gt 85, 3) := by decide +kernel
theorem d_Mod_toHandlers_42 : decode b_Mod_toHandlers 42 = .ok (.iload_n 2, 1) := by decide +kernel
theorem d_Mod_toHandlers_43 : decode b_Mod_toHandlers 43 = .ok (.aload_n 0, 1) := by decide +kernel
theorem d_Mod_toHandlers_44 : decode b_Mod_toHandlers 44 = .ok (.iload 4, 2) := by decide +kernel
theorem d_Mod_toHandlers_46 : decode b_Mod_toHandlers 46 = .ok (.iconst 2, 1) := by decide +kernel
theorem d_Mod_toHandlers_47 : decode b_Mod_toHandlers 47 = .ok (.iadd, 1) := by decide +kernel
theorem d_Mod_toHandlers_48 : decode b_Mod_toHandlers 48 = .ok (.invokevirtual 294, 3) := by decide +kernel
theorem d_Mod_toHandlers_51 : decode b_Mod_toHandlers 51 = .ok (.if_icmp .ge 73, 3) := by decide +kernel
theorem d_Mod_toHandlers_54 : decode b_Mod_toHandlers 54 = .ok (.aload_n 0, 1) := by decide +kernel
theorem d_Mod_toHandlers_55 : decode b_Mod_toHandlers 55 = .ok (.getfield 65, 3) := by decide +kernel
theorem d_Mod_toHandlers_58 : decode b_Mod_toHandlers 58 = .ok (.iload_n 1, 1) := by decide +kernel
theorem d_Mod_toHandlers_59 : decode b_Mod_toHandlers 59 = .ok (.iaload, 1) := by decide +kernel
theorem d_Mod_toHandlers_60 : decode b_Mod_toHandlers 60 = .ok (.ifCond .ne 14, 3) := by decide +kernel
theorem d_Mod_toHandlers_63 : decode b_Mod_toHandlers 63 = .ok (.aload_n 0, 1) := by decide +kernel
theorem d_Mod_toHandlers_64 : decode b_Mod_toHandlers 64 = .ok (.bipush 22, 2) := by decide +kernel
theorem d_Mod_toHandlers_66 : decode b_Mod_toHandlers 66 = .ok (.aload_n 0, 1) := by decide +kernel
theorem d_Mod_toHandlers_67 : decode b_Mod_toHandlers 67 = .ok (.getfield 309, 3) := by decide +kernel
theorem d_Mod_toHandlers_70 : decode b_Mod_toHandlers 70 = .ok (.invokevirtual 159, 3) := by decide +kernel
theorem d_Mod_toHandlers_73 : decode b_Mod_toHandlers 73 = .ok (.return_, 1) := by decide +kernel
theorem d_Mod_toHandlers_74 : decode b_Mod_toHandlers 74 = .ok (.aload_n 0, 1) := by decide +kernel
theorem d_Mod_toHandlers_75 : decode b_Mod_toHandlers 75 = .ok (.getfield 100, 3) := by decide +kernel
theorem d_Mod_toHandlers_78 : decode b_Mod_toHandlers 78 = .ok (.bipush 64, 2) := by decide +kernel
theorem d_Mod_toHandlers_80 : decode b_Mod_toHandlers 80 = .ok (.iaload, 1) := by decide +kernel
theorem d_Mod_toHandlers_81 : decode b_Mod_toHandlers 81 = .ok (.istore 5, 2) := by decide +kernel
theorem d_Mod_toHandlers_83 : decode b_Mod_toHandlers 83 = .ok (.aload_n 0, 1) := by decide +kernel
theorem d_Mod_toHandlers_84 : decode b_Mod_toHandlers 84 = .ok (.getfield 100, 3) := by decide +kernel
theorem d_Mod_toHandlers_87 : decode b_Mod_toHandlers 87 = .ok (.bipush 64, 2) := by decide +kernel
theorem d_Mod_toHandlers_89 : decode b_Mod_toHandlers 89 = .ok (.iconst 4, 1) := by decide +kernel
theorem d_Mod_toHandlers_90 : decode b_Mod_toHandlers 90 = .ok (.iastore, 1) := by decide +kernel
theorem d_Mod_toHandlers_91 : decode b_Mod_toHandlers 91 = .ok (.aload_n 0, 1) := by decide +kernel
theorem d_Mod_toHandlers_92 : decode b_Mod_toHandlers 92 = .ok (.aload_n 0, 1) := by decide +kernel
theorem d_Mod_toHandlers_93 : decode b_Mod_toHandlers 93 = .ok (.getfield 71, 3) := by decide +kernel
theorem d_Mod_toHandlers_96 : decode b_Mod_toHandlers 96 = .ok (.iload_n 1, 1) := by decide +kernel
theorem d_Mod_toHandlers_97 : decode b_Mod_toHandlers 97 = .ok (.iaload, 1) := by decide +kernel
theorem d_Mod_toHandlers_98 : decode b_Mod_toHandlers 98 = .ok (.aload_n 0, 1) := by decide +kernel
theorem d_Mod_toHandlers_99 : decode b_Mod_toHandlers 99 = .ok (.iload 4, 2) := by decide +kernel
theorem d_Mod_toHandlers_101 : decode b_Mod_toHandlers 101 = .ok (.iconst 4, 1) := by decide +kernel
theorem d_Mod_toHandlers_102 : decode b_Mod_toHandlers 102 = .ok (.iadd, 1) := by decide +kernel
theorem d_Mod_toHandlers_103 : decode b_Mod_toHandlers 103 = .ok (.invokevirtual 294, 3) := by decide +kernel
theorem d_Mod_toHandlers_106 : decode b_Mod_toHandlers 106 = .ok (.iadd, 1) := by decide +kernel
theorem d_Mod_toHandlers_107 : decode b_Mod_toHandlers 107 = .ok (.aload_n 0, 1) := by decide +kernel
theorem d_Mod_toHandlers_108 : decode b_Mod_toHandlers 108 = .ok (.getfield 103, 3) := by decide +kernel
theorem d_Mod_toHandlers_111 : decode b_Mod_toHandlers 111 = .ok (.iconst 1, 1) := by decide +kernel
theorem d_Mod_toHandlers_112 : decode b_Mod_toHandlers 112 = .ok (.invokevirtual 376, 3) := by decide +kernel
theorem d_Mod_toHandlers_115 : decode b_Mod_toHandlers 115 = .ok (.aload_n 0, 1) := by decide +kernel
theorem d_Mod_toHandlers_116 : decode b_Mod_toHandlers 116 = .ok (.getfield 100, 3) := by decide +kernel
theorem d_Mod_toHandlers_119 : decode b_Mod_toHandlers 119 = .ok (.bipush 64, 2) := by decide +kernel
theorem d_Mod_toHandlers_121 : decode b_Mod_toHandlers 121 = .ok (.iload 5, 2) := by decide +kernel
theorem d_Mod_toHandlers_123 : decode b_Mod_toHandlers 123 = .ok (.iastore, 1) := by decide +kernel
theorem d_Mod_toHandlers_124 : decode b_Mod_toHandlers 124 = .ok (.iinc 3 1, 3) := by decide +kernel
theorem d_Mod_toHandlers_127 : decode b_Mod_toHandlers 127 = .ok (.goto (-120), 3) := by decide +kernel
theorem d_Mod_toHandlers_130 : decode b_Mod_toHandlers 130 = .ok (.return_, 1) := by decide +kernel
end
section
set_option maxHeartbeats 4000000 in
set_option maxRecDepth 100000 in
theorem g_Mod_toHandlers (l : Launch) (g : tw_G) (sz : Nat) (h0 : Nat) (q : Nat → Nat) (rf : Int32) (n : Nat) (mm : Int32) (mb : Int32) (av : Nat) (ev : Nat) (wi : Int32) (mn : Nat) (tp : Int32) (tc : Int32) (sc : Int32) (nf : Nat) (fd : Nat) (me : Nat) (mp : Int32) (xn : Nat) (mt : Nat) (wh : Nat) (tq : Nat) (ag : Nat) (an : Int32) (ig : Int32) (bs : Nat → Int32) (sk : Nat → Int32) (bg : Nat → Int32) (ln : Nat → Int32) (xf : Nat → Int32) (xt : Nat → Int32) (xp : Nat → Int32) (bf : Nat → Int32) (fa : Int32) (fp : Int32) (dp : Nat → Int32) (iw : Nat → Int32) (kd : Nat → Int32) (nw : Nat → Int32) (of : Nat) (b1 l1 x1 y1 s1 : Nat) (hmt : mt < 160) (hbg : bg mt = nI b1) (hln : ln mt = nI l1) (hbl : b1 + l1 ≤ 600) (hof : of < 600) (hxf : xf mt = nI x1) (hxt : xt mt = nI y1) (hx7 : x1 ≤ 75) (hy7 : y1 ≤ 75) (hsk : sk mt = nI s1) (hs64 : s1 ≤ 64) (hHN : ∀ j, x1 ≤ j → j < y1 → HN1 bs xp l1 j) (hbs : BYT bs) (hFR : FRG dp iw kd) (hNW : NOW nw) (hbf : ¬ bf 0 = 3) : Met l y_Mod_toHandlers [.code y_Mod_toHandlers b_Mod_toHandlers 6 none] ({ frames := 2, cells := 0, slots := 0, locals := 51 }) (tw_P g [.ref h0, .int (nI mt), .int (nI of)] [(h0, .inr (10, mob q rf n mm mb fa fp av ev wi mn tp tc sc nf fd me mp xn mt wh tq ag an ig)), ((q 2), aI g 600 bs), ((q 32), aI g 160 sk), ((q 34), aI g 160 bg), ((q 35), aI g 160 ln), ((q 36), aI g 160 xf), ((q 37), aI g 160 xt), ((q 39), aI g 160 xp), ((q 41), aI g 600 dp), ((q 42), aZ g 600 iw), ((q 43), aI g 76800 kd), ((q 47), aI g 128 nw), ((q 48), aI g 64 bf)] sz) (tw_Qv g (fun (u : Int32 × Int32 × (Nat → Int32) × (Nat → Int32) × (Nat → Int32) × (Nat → Int32)) => (u.1 = 0 → fa = 0) ∧ (FRG u.2.2.1 u.2.2.2.1 u.2.2.2.2.1) ∧ (MU u.2.2.1 u.2.2.2.1 u.2.2.2.2.1 ≤ MU dp iw kd) ∧ (NOW u.2.2.2.2.2)) (fun u : Int32 × Int32 × (Nat → Int32) × (Nat → Int32) × (Nat → Int32) × (Nat → Int32) => [(h0, .inr (10, mob q rf n mm mb u.1 u.2.1 av ev wi mn tp tc sc nf fd me mp xn mt wh tq ag an ig)), ((q 2), aI g 600 bs), ((q 32), aI g 160 sk), ((q 34), aI g 160 bg), ((q 35), aI g 160 ln), ((q 36), aI g 160 xf), ((q 37), aI g 160 xt), ((q 39), aI g 160 xp), ((q 41), aI g 600 u.2.2.1), ((q 42), aZ g 600 u.2.2.2.1), ((q 43), aI g 76800 u.2.2.2.2.1), ((q 47), aI g 128 u.2.2.2.2.2), ((q 48), aI g 64 bf)]) (va_A [(h0, .inr (10, mob q rf n mm mb fa fp av ev wi mn tp tc sc nf fd me mp xn mt wh tq ag an ig)), ((q 2), aI g 600 bs), ((q 32), aI g 160 sk), ((q 34), aI g 160 bg), ((q 35), aI g 160 ln), ((q 36), aI g 160 xf), ((q 37), aI g 160 xt), ((q 39), aI g 160 xp), ((q 41), aI g 600 dp), ((q 42), aZ g 600 iw), ((q 43), aI g 76800 kd), ((q 47), aI g 128 nw), ((q 48), aI g 64 bf)] sz)) 0 0 (va_A [(h0, .inr (10, mob q rf n mm mb fa fp av ev wi mn tp tc sc nf fd me mp xn mt wh tq ag an ig)), ((q 2), aI g 600 bs), ((q 32), aI g 160 sk), ((q 34), aI g 160 bg), ((q 35), aI g 160 ln), ((q 36), aI g 160 xf), ((q 37), aI g 160 xt), ((q 39), aI g 160 xp), ((q 41), aI g 600 dp), ((q 42), aZ g 600 iw), ((q 43), aI g 76800 kd), ((q 47), aI g 128 nw), ((q 48), aI g 64 bf)] sz) := by
  refine tw_metW (l := l) (g := g) (y := y_Mod_toHandlers) (cc := b_Mod_toHandlers) (maxL := 6) (ret := none) (rm := { frames := 2, cells := 0, slots := 0, locals := 51 }) (mc := 0) (ms := 0) (av := [.ref h0, .int (nI mt), .int (nI of)]) (ws := [(h0, .inr (10, mob q rf n mm mb fa fp av ev wi mn tp tc sc nf fd me mp xn mt wh tq ag an ig)), ((q 2), aI g 600 bs), ((q 32), aI g 160 sk), ((q 34), aI g 160 bg), ((q 35), aI g 160 ln), ((q 36), aI g 160 xf), ((q 37), aI g 160 xt), ((q 39), aI g 160 xp), ((q 41), aI g 600 dp), ((q 42), aZ g 600 iw), ((q 43), aI g 76800 kd), ((q 47), aI g 128 nw), ((q 48), aI g 64 bf)]) (sz := sz) (Qc := fun A => (tw_Qv g (fun (u : Int32 × Int32 × (Nat → Int32) × (Nat → Int32) × (Nat → Int32) × (Nat → Int32)) => (u.1 = 0 → fa = 0) ∧ (FRG u.2.2.1 u.2.2.2.1 u.2.2.2.2.1) ∧ (MU u.2.2.1 u.2.2.2.1 u.2.2.2.2.1 ≤ MU dp iw kd) ∧ (NOW u.2.2.2.2.2)) (fun u : Int32 × Int32 × (Nat → Int32) × (Nat → Int32) × (Nat → Int32) × (Nat → Int32) => [(h0, .inr (10, mob q rf n mm mb u.1 u.2.1 av ev wi mn tp tc sc nf fd me mp xn mt wh tq ag an ig)), ((q 2), aI g 600 bs), ((q 32), aI g 160 sk), ((q 34), aI g 160 bg), ((q 35), aI g 160 ln), ((q 36), aI g 160 xf), ((q 37), aI g 160 xt), ((q 39), aI g 160 xp), ((q 41), aI g 600 u.2.2.1), ((q 42), aZ g 600 u.2.2.2.1), ((q 43), aI g 76800 u.2.2.2.2.1), ((q 47), aI g 128 u.2.2.2.2.2), ((q 48), aI g 64 bf)]) A)) (by decide) (Nat.le_of_ble_eq_true rfl) ?_
  intro p e s m below meth c ls H A E hB hK hZ hP hD hS hA hl
  obtain ⟨hx, hb, hml, hr, hown, hts, hlocks, hin⟩ := id E
  have hl : lv_has ls 6 [(0, .ref h0), (1, .int (nI mt)), (2, .int (nI of))] := hl
  refine lv_aload_n hx hb d_Mod_toHandlers_0 rfl (lv_at hl 0 rfl) ?_
  refine va_get (D := g.1) (ci := 10) (v := .ref (q 36)) (C := R_Mod) (T := F_Mod) (N := 61) hx hb hts in_Mod hown hK hP 0 rfl rfl 36 (by decide) (hts _ wd_1286) (fun _ h9 => h9) rfl d_Mod_toHandlers_1 ?_
  refine lv_iload_n hx hb d_Mod_toHandlers_4 rfl (lv_at hl 1 rfl) ?_
  refine va_iald hx hb hK hP 5 0 rfl rfl (vp_in_nI (by omega) (by decide)) d_Mod_toHandlers_5 ?_
  refine tw_ri (e2 := nI x1) (by rw [nI_clamp (by omega)]; exact hxf) ?_
  refine lv_istore_n hx hb d_Mod_toHandlers_6 rfl hl (by decide) rfl (fun ls hl => ?_)
  have hl : lv_has ls 6 [(3, .int (nI x1)), (0, .ref h0), (1, .int (nI mt)), (2, .int (nI of))] := hl
  have loop7 : ∀ (kq : Nat) (i : Nat) (fa9 : Int32) (fp9 : Int32) (dp9 : Nat → Int32) (iw9 : Nat → Int32) (kd9 : Nat → Int32) (nw9 : Nat → Int32) (ls : Array Slot) (H : Heap) (locs : List Loc) , y1 - i = kq → (hc9 : fa9 = 0 → fa = 0) → (hui : i ≤ 700) → (hi1 : x1 ≤ i) → (hFR9 : FRG dp9 iw9 kd9) → (hNW9 : NOW nw9) → (hMU9 : MU dp9 iw9 kd9 ≤ MU dp iw kd) → lv_has ls 6 [(3, .int (nI i)), (0, .ref h0), (1, .int (nI mt)), (2, .int (nI of))] → va_P g.1 classes [(h0, .inr (10, mob q rf n mm mb fa9 fp9 av ev wi mn tp tc sc nf fd me mp xn mt wh tq ag an ig)), ((q 2), aI g 600 bs), ((q 32), aI g 160 sk), ((q 34), aI g 160 bg), ((q 35), aI g 160 ln), ((q 36), aI g 160 xf), ((q 37), aI g 160 xt), ((q 39), aI g 160 xp), ((q 41), aI g 600 dp9), ((q 42), aZ g 600 iw9), ((q 43), aI g 76800 kd9), ((q 47), aI g 128 nw9), ((q 48), aI g 64 bf)] H → va_D A [(h0, .inr (10, mob q rf n mm mb fa9 fp9 av ev wi mn tp tc sc nf fd me mp xn mt wh tq ag an ig)), ((q 2), aI g 600 bs), ((q 32), aI g 160 sk), ((q 34), aI g 160 bg), ((q 35), aI g 160 ln), ((q 36), aI g 160 xf), ((q 37), aI g 160 xt), ((q 39), aI g 160 xp), ((q 41), aI g 600 dp9), ((q 42), aZ g 600 iw9), ((q 43), aI g 76800 kd9), ((q 47), aI g 128 nw9), ((q 48), aI g 64 bf)] → va_S A s.heap H locs → W p l e ({ frames := 2, cells := 0, slots := 0, locals := 51 }) s m [.ref h0, .int (nI mt), .int (nI of)].toArray below meth c H locs 0 0 (MQ below (tw_Qv g (fun (u : Int32 × Int32 × (Nat → Int32) × (Nat → Int32) × (Nat → Int32) × (Nat → Int32)) => (u.1 = 0 → fa = 0) ∧ (FRG u.2.2.1 u.2.2.2.1 u.2.2.2.2.1) ∧ (MU u.2.2.1 u.2.2.2.1 u.2.2.2.2.1 ≤ MU dp iw kd) ∧ (NOW u.2.2.2.2.2)) (fun u : Int32 × Int32 × (Nat → Int32) × (Nat → Int32) × (Nat → Int32) × (Nat → Int32) => [(h0, .inr (10, mob q rf n mm mb u.1 u.2.1 av ev wi mn tp tc sc nf fd me mp xn mt wh tq ag an ig)), ((q 2), aI g 600 bs), ((q 32), aI g 160 sk), ((q 34), aI g 160 bg), ((q 35), aI g 160 ln), ((q 36), aI g 160 xf), ((q 37), aI g 160 xt), ((q 39), aI g 160 xp), ((q 41), aI g 600 u.2.2.1), ((q 42), aZ g 600 u.2.2.2.1), ((q 43), aI g 76800 u.2.2.2.2.1), ((q 47), aI g 128 u.2.2.2.2.2), ((q 48), aI g 64 bf)]) A) [.ref h0, .int (nI mt), .int (nI of)].toArray s 0 0 A) (F0 m 7 ls []) := by
    intro kq
    induction kq using Nat.strongRecOn with
    | _ kq ih =>
      intro i fa9 fp9 dp9 iw9 kd9 nw9 ls H locs hk hc9 hui hi1 hFR9 hNW9 hMU9 hl hP hD hS
      refine lv_iload_n hx hb d_Mod_toHandlers_7 rfl (lv_at hl 0 rfl) ?_
      refine lv_aload_n hx hb d_Mod_toHandlers_8 rfl (lv_at hl 1 rfl) ?_
      refine va_get (D := g.1) (ci := 10) (v := .ref (q 37)) (C := R_Mod) (T := F_Mod) (N := 61) hx hb hts in_Mod hown hK hP 0 rfl rfl 37 (by decide) (hts _ wd_1287) (fun _ h9 => h9) rfl d_Mod_toHandlers_9 ?_
      refine lv_iload_n hx hb d_Mod_toHandlers_12 rfl (lv_at hl 2 rfl) ?_
      refine va_iald hx hb hK hP 6 0 rfl rfl (vp_in_nI (by omega) (by decide)) d_Mod_toHandlers_13 ?_
      refine tw_ri (e2 := nI y1) (by rw [nI_clamp (by omega)]; exact hxt) ?_
      refine lv_icmp_ge (tgt := 130) hx hb d_Mod_toHandlers_14 (by decide) (fun h14 => ?_) (fun h14 => ?_)
      · exact tw_vret E hS (fa9, fp9, dp9, iw9, kd9, nw9) (⟨(fun h => (fun h => h) (hc9 h)), hFR9, (by first | omega | (dsimp only <;> omega)), hNW9⟩) hP hD d_Mod_toHandlers_130
      · have h14 := tn_nle h14 (by omega) (by omega)
        obtain ⟨px, epx, hpx, htl⟩ := hHN i hi1 h14
        have t21 := t2_lt hbs (i := px) (by omega)
        have t22 := t2_lt hbs (i := px + 2) (by omega)
        have t23 := t2_lt hbs (i := px + 4) (by omega)
        refine lv_aload_n hx hb d_Mod_toHandlers_17 rfl (lv_at hl 1 rfl) ?_
        refine va_get (D := g.1) (ci := 10) (v := .int fa9) (C := R_Mod) (T := F_Mod) (N := 61) hx hb hts in_Mod hown hK hP 0 rfl rfl 8 (by decide) (hts _ wd_1258) (fun _ h9 => h9) rfl d_Mod_toHandlers_18 ?_
        refine lv_if_ne (tgt := 130) hx hb d_Mod_toHandlers_21 (by decide) (fun h21 => ?_) (fun h21 => ?_)
        · exact tw_vret E hS (fa9, fp9, dp9, iw9, kd9, nw9) (⟨(fun h => absurd h h21), hFR9, (by first | omega | (dsimp only <;> omega)), hNW9⟩) hP hD d_Mod_toHandlers_130
        · have hz1 := hc9 h21
          refine lv_aload_n hx hb d_Mod_toHandlers_24 rfl (lv_at hl 1 rfl) ?_
          refine va_get (D := g.1) (ci := 10) (v := .ref (q 39)) (C := R_Mod) (T := F_Mod) (N := 61) hx hb hts in_Mod hown hK hP 0 rfl rfl 39 (by decide) (hts _ wd_1289) (fun _ h9 => h9) rfl d_Mod_toHandlers_25 ?_
          refine lv_iload_n hx hb d_Mod_toHandlers_28 rfl (lv_at hl 0 rfl) ?_
          refine va_iald hx hb hK hP 7 0 rfl rfl (vp_in_nI (by omega) (by decide)) d_Mod_toHandlers_29 ?_
          refine tw_ri (e2 := nI px) (by rw [nI_clamp (by omega)]; exact epx) ?_
          refine lv_istore hx hb d_Mod_toHandlers_30 hl (by decide) rfl (fun ls hl => ?_)
          have hl : lv_has ls 6 [(4, .int (nI px)), (3, .int (nI i)), (0, .ref h0), (1, .int (nI mt)), (2, .int (nI of))] := hl
          refine lv_aload_n hx hb d_Mod_toHandlers_32 rfl (lv_at hl 2 rfl) ?_
          refine lv_iload hx hb d_Mod_toHandlers_33 (lv_at hl 0 rfl) ?_
          refine tw_si (tw_runV (ws := [(h0, .inr (10, mob q rf n mm mb fa9 fp9 av ev wi mn tp tc sc nf fd me mp xn mt wh tq ag an ig)), ((q 2), aI g 600 bs), ((q 32), aI g 160 sk), ((q 34), aI g 160 bg), ((q 35), aI g 160 ln), ((q 36), aI g 160 xf), ((q 37), aI g 160 xt), ((q 39), aI g 160 xp), ((q 41), aI g 600 dp9), ((q 42), aZ g 600 iw9), ((q 43), aI g 76800 kd9), ((q 47), aI g 128 nw9), ((q 48), aI g 64 bf)]) (wc := [(h0, .inr (10, mob q rf n mm mb fa9 fp9 av ev wi mn tp tc sc nf fd me mp xn mt wh tq ag an ig)), ((q 2), aI g 600 bs)]) (As := [.int (nI px)]) (rest := []) E hB hK hZ (g_Mod_twoAt l g H.size h0 q rf n mm mb fa9 fp9 av ev wi mn tp tc sc nf fd me mp xn mt wh tq ag an ig bs px hbs (by omega)) mc_Mod_twoAt mi_Mod_twoAt me_Mod_twoAt wd_1616 hP hD hS hA [0, 1] rfl (by decide) 0 rfl rfl rfl rfl rfl (by decide) rfl hl.1 rfl (Nat.le_of_ble_eq_true rfl) (by decide) d_Mod_toHandlers_35) (fun r2 hr2 => ?_)
          have hB2 := hr2
          subst hB2
          refine lv_iload_n hx hb d_Mod_toHandlers_38 rfl (lv_at hl 4 rfl) ?_
          refine lv_icmp_gt (tgt := 124) hx hb d_Mod_toHandlers_39 (by decide) (fun h39 => ?_) (fun h39 => ?_)
          · refine lv_iinc (k := 1) (v := nI (i + 1)) hx hb d_Mod_toHandlers_124 hl rfl ((nI_succ i).symm) (by decide) rfl (fun ls hl => ?_)
            have hl : lv_has ls 6 [(3, .int (nI (i + 1))), (4, .int (nI px)), (0, .ref h0), (1, .int (nI mt)), (2, .int (nI of))] := hl
            refine lv_goto (tgt := 7) hx hb d_Mod_toHandlers_127 (by decide) ?_
            have hP : va_P g.1 classes [(h0, .inr (10, mob q rf n mm mb fa9 fp9 av ev wi mn tp tc sc nf fd me mp xn mt wh tq ag an ig)), ((q 2), aI g 600 bs), ((q 32), aI g 160 sk), ((q 34), aI g 160 bg), ((q 35), aI g 160 ln), ((q 36), aI g 160 xf), ((q 37), aI g 160 xt), ((q 39), aI g 160 xp), ((q 41), aI g 600 dp9), ((q 42), aZ g 600 iw9), ((q 43), aI g 76800 kd9), ((q 47), aI g 128 nw9), ((q 48), aI g 64 bf)] H := hP.sub [0, 1, 2, 3, 4, 5, 6, 7, 8, 9, 10, 11, 12] rfl
            have hD : va_D A [(h0, .inr (10, mob q rf n mm mb fa9 fp9 av ev wi mn tp tc sc nf fd me mp xn mt wh tq ag an ig)), ((q 2), aI g 600 bs), ((q 32), aI g 160 sk), ((q 34), aI g 160 bg), ((q 35), aI g 160 ln), ((q 36), aI g 160 xf), ((q 37), aI g 160 xt), ((q 39), aI g 160 xp), ((q 41), aI g 600 dp9), ((q 42), aZ g 600 iw9), ((q 43), aI g 76800 kd9), ((q 47), aI g 128 nw9), ((q 48), aI g 64 bf)] := hD.sub [0, 1, 2, 3, 4, 5, 6, 7, 8, 9, 10, 11, 12] (by decide) rfl
            exact ih _ (by omega) (i + 1) fa9 fp9 dp9 iw9 kd9 nw9 ls _ _ rfl (fun _ => hz1) (by omega) (by omega) hFR9 hNW9 (by omega) (lv_sub hl [0, 2, 3, 4] rfl) hP hD hS
          · refine lv_iload_n hx hb d_Mod_toHandlers_42 rfl (lv_at hl 4 rfl) ?_
            refine lv_aload_n hx hb d_Mod_toHandlers_43 rfl (lv_at hl 2 rfl) ?_
            refine lv_iload hx hb d_Mod_toHandlers_44 (lv_at hl 0 rfl) ?_
            refine lv_iconst (v := 2) hx hb d_Mod_toHandlers_46 (by decide) ?_
            refine lv_iadd hx hb d_Mod_toHandlers_47 ?_
            refine tw_ri (e2 := nI (px + 2)) (nI_add px 2) ?_
            refine tw_si (tw_runV (ws := [(h0, .inr (10, mob q rf n mm mb fa9 fp9 av ev wi mn tp tc sc nf fd me mp xn mt wh tq ag an ig)), ((q 2), aI g 600 bs), ((q 32), aI g 160 sk), ((q 34), aI g 160 bg), ((q 35), aI g 160 ln), ((q 36), aI g 160 xf), ((q 37), aI g 160 xt), ((q 39), aI g 160 xp), ((q 41), aI g 600 dp9), ((q 42), aZ g 600 iw9), ((q 43), aI g 76800 kd9), ((q 47), aI g 128 nw9), ((q 48), aI g 64 bf)]) (wc := [(h0, .inr (10, mob q rf n mm mb fa9 fp9 av ev wi mn tp tc sc nf fd me mp xn mt wh tq ag an ig)), ((q 2), aI g 600 bs)]) (As := [.int (nI (px + 2))]) (rest := [.int (nI of)]) E hB hK hZ (g_Mod_twoAt l g H.size h0 q rf n mm mb fa9 fp9 av ev wi mn tp tc sc nf fd me mp xn mt wh tq ag an ig bs (px + 2) hbs (by omega)) mc_Mod_twoAt mi_Mod_twoAt me_Mod_twoAt wd_1616 hP hD hS hA [0, 1] rfl (by decide) 0 rfl rfl rfl rfl rfl (by decide) rfl hl.1 rfl (Nat.le_of_ble_eq_true rfl) (by decide) d_Mod_toHandlers_48) (fun r3 hr3 => ?_)
            have hB3 := hr3
            subst hB3
            refine lv_icmp_ge (tgt := 124) hx hb d_Mod_toHandlers_51 (by decide) (fun h51 => ?_) (fun h51 => ?_)
            · refine lv_iinc (k := 1) (v := nI (i + 1)) hx hb d_Mod_toHandlers_124 hl rfl ((nI_succ i).symm) (by decide) rfl (fun ls hl => ?_)
              have hl : lv_has ls 6 [(3, .int (nI (i + 1))), (4, .int (nI px)), (0, .ref h0), (1, .int (nI mt)), (2, .int (nI of))] := hl
              refine lv_goto (tgt := 7) hx hb d_Mod_toHandlers_127 (by decide) ?_
              have hP : va_P g.1 classes [(h0, .inr (10, mob q rf n mm mb fa9 fp9 av ev wi mn tp tc sc nf fd me mp xn mt wh tq ag an ig)), ((q 2), aI g 600 bs), ((q 32), aI g 160 sk), ((q 34), aI g 160 bg), ((q 35), aI g 160 ln), ((q 36), aI g 160 xf), ((q 37), aI g 160 xt), ((q 39), aI g 160 xp), ((q 41), aI g 600 dp9), ((q 42), aZ g 600 iw9), ((q 43), aI g 76800 kd9), ((q 47), aI g 128 nw9), ((q 48), aI g 64 bf)] H := hP.sub [0, 1, 2, 3, 4, 5, 6, 7, 8, 9, 10, 11, 12] rfl
              have hD : va_D A [(h0, .inr (10, mob q rf n mm mb fa9 fp9 av ev wi mn tp tc sc nf fd me mp xn mt wh tq ag an ig)), ((q 2), aI g 600 bs), ((q 32), aI g 160 sk), ((q 34), aI g 160 bg), ((q 35), aI g 160 ln), ((q 36), aI g 160 xf), ((q 37), aI g 160 xt), ((q 39), aI g 160 xp), ((q 41), aI g 600 dp9), ((q 42), aZ g 600 iw9), ((q 43), aI g 76800 kd9), ((q 47), aI g 128 nw9), ((q 48), aI g 64 bf)] := hD.sub [0, 1, 2, 3, 4, 5, 6, 7, 8, 9, 10, 11, 12] (by decide) rfl
              exact ih _ (by omega) (i + 1) fa9 fp9 dp9 iw9 kd9 nw9 ls _ _ rfl (fun _ => hz1) (by omega) (by omega) hFR9 hNW9 (by omega) (lv_sub hl [0, 2, 3, 4] rfl) hP hD hS
            · refine lv_aload_n hx hb d_Mod_toHandlers_54 rfl (lv_at hl 2 rfl) ?_
              refine va_get (D := g.1) (ci := 10) (v := .ref (q 32)) (C := R_Mod) (T := F_Mod) (N := 61) hx hb hts in_Mod hown hK hP 0 rfl rfl 32 (by decide) (hts _ wd_1282) (fun _ h9 => h9) rfl d_Mod_toHandlers_55 ?_
              refine lv_iload_n hx hb d_Mod_toHandlers_58 rfl (lv_at hl 3 rfl) ?_
              refine va_iald hx hb hK hP 2 0 rfl rfl (vp_in_nI (by omega) (by decide)) d_Mod_toHandlers_59 ?_
              refine tw_ri (e2 := nI s1) (by rw [nI_clamp (by omega)]; exact hsk) ?_
              refine lv_if_ne (tgt := 74) hx hb d_Mod_toHandlers_60 (by decide) (fun h60 => ?_) (fun h60 => ?_)
              · refine lv_aload_n hx hb d_Mod_toHandlers_74 rfl (lv_at hl 2 rfl) ?_
                refine va_get (D := g.1) (ci := 10) (v := .ref (q 47)) (C := R_Mod) (T := F_Mod) (N := 61) hx hb hts in_Mod hown hK hP 0 rfl rfl 47 (by decide) (hts _ wd_1297) (fun _ h9 => h9) rfl d_Mod_toHandlers_75 ?_
                refine lv_bipush (v := 64) hx hb d_Mod_toHandlers_78 (by decide) ?_
                refine va_iald hx hb hK hP 11 0 rfl rfl (vp_in_nI (n := 64) (by decide) (by decide)) d_Mod_toHandlers_80 ?_
                refine tw_ri (e2 := nw9 64) rfl ?_
                refine lv_istore hx hb d_Mod_toHandlers_81 hl (by decide) rfl (fun ls hl => ?_)
                have hl : lv_has ls 6 [(5, .int (nw9 64)), (4, .int (nI px)), (3, .int (nI i)), (0, .ref h0), (1, .int (nI mt)), (2, .int (nI of))] := hl
                refine lv_aload_n hx hb d_Mod_toHandlers_83 rfl (lv_at hl 3 rfl) ?_
                refine va_get (D := g.1) (ci := 10) (v := .ref (q 47)) (C := R_Mod) (T := F_Mod) (N := 61) hx hb hts in_Mod hown hK hP 0 rfl rfl 47 (by decide) (hts _ wd_1297) (fun _ h9 => h9) rfl d_Mod_toHandlers_84 ?_
                refine lv_bipush (v := 64) hx hb d_Mod_toHandlers_87 (by decide) ?_
                refine lv_iconst (v := 4) hx hb d_Mod_toHandlers_89 (by decide) ?_
                refine va_iast hx hb hK hP hD hS 11 0 rfl rfl (vp_in_nI (n := 64) (by decide) (by decide)) d_Mod_toHandlers_90 (fun H locs hP hD hS => ?_)
                have hP : va_P g.1 classes [(h0, .inr (10, mob q rf n mm mb fa9 fp9 av ev wi mn tp tc sc nf fd me mp xn mt wh tq ag an ig)), ((q 2), aI g 600 bs), ((q 32), aI g 160 sk), ((q 34), aI g 160 bg), ((q 35), aI g 160 ln), ((q 36), aI g 160 xf), ((q 37), aI g 160 xt), ((q 39), aI g 160 xp), ((q 41), aI g 600 dp9), ((q 42), aZ g 600 iw9), ((q 43), aI g 76800 kd9), ((q 47), aI g 128 (upd nw9 (64 : Int32).toNatClampNeg 4)), ((q 48), aI g 64 bf)] H := hP
                have hD : va_D A [(h0, .inr (10, mob q rf n mm mb fa9 fp9 av ev wi mn tp tc sc nf fd me mp xn mt wh tq ag an ig)), ((q 2), aI g 600 bs), ((q 32), aI g 160 sk), ((q 34), aI g 160 bg), ((q 35), aI g 160 ln), ((q 36), aI g 160 xf), ((q 37), aI g 160 xt), ((q 39), aI g 160 xp), ((q 41), aI g 600 dp9), ((q 42), aZ g 600 iw9), ((q 43), aI g 76800 kd9), ((q 47), aI g 128 (upd nw9 (64 : Int32).toNatClampNeg 4)), ((q 48), aI g 64 bf)] := hD
                have e9 : upd nw9 (64 : Int32).toNatClampNeg 4 = upd nw9 64 4 := rfl
                rw [e9] at hP hD
                refine lv_aload_n hx hb d_Mod_toHandlers_91 rfl (lv_at hl 3 rfl) ?_
                refine lv_aload_n hx hb d_Mod_toHandlers_92 rfl (lv_at hl 3 rfl) ?_
                refine va_get (D := g.1) (ci := 10) (v := .ref (q 34)) (C := R_Mod) (T := F_Mod) (N := 61) hx hb hts in_Mod hown hK hP 0 rfl rfl 34 (by decide) (hts _ wd_1284) (fun _ h9 => h9) rfl d_Mod_toHandlers_93 ?_
                refine lv_iload_n hx hb d_Mod_toHandlers_96 rfl (lv_at hl 4 rfl) ?_
                refine va_iald hx hb hK hP 3 0 rfl rfl (vp_in_nI (by omega) (by decide)) d_Mod_toHandlers_97 ?_
                refine tw_ri (e2 := nI b1) (by rw [nI_clamp (by omega)]; exact hbg) ?_
                refine lv_aload_n hx hb d_Mod_toHandlers_98 rfl (lv_at hl 3 rfl) ?_
                refine lv_iload hx hb d_Mod_toHandlers_99 (lv_at hl 1 rfl) ?_
                refine lv_iconst (v := 4) hx hb d_Mod_toHandlers_101 (by decide) ?_
                refine lv_iadd hx hb d_Mod_toHandlers_102 ?_
                refine tw_ri (e2 := nI (px + 4)) (nI_add px 4) ?_
                refine tw_si (tw_runV (ws := [(h0, .inr (10, mob q rf n mm mb fa9 fp9 av ev wi mn tp tc sc nf fd me mp xn mt wh tq ag an ig)), ((q 2), aI g 600 bs), ((q 32), aI g 160 sk), ((q 34), aI g 160 bg), ((q 35), aI g 160 ln), ((q 36), aI g 160 xf), ((q 37), aI g 160 xt), ((q 39), aI g 160 xp), ((q 41), aI g 600 dp9), ((q 42), aZ g 600 iw9), ((q 43), aI g 76800 kd9), ((q 47), aI g 128 (upd nw9 64 4)), ((q 48), aI g 64 bf)]) (wc := [(h0, .inr (10, mob q rf n mm mb fa9 fp9 av ev wi mn tp tc sc nf fd me mp xn mt wh tq ag an ig)), ((q 2), aI g 600 bs)]) (As := [.int (nI (px + 4))]) (rest := [.int (nI b1), .ref h0]) E hB hK hZ (g_Mod_twoAt l g H.size h0 q rf n mm mb fa9 fp9 av ev wi mn tp tc sc nf fd me mp xn mt wh tq ag an ig bs (px + 4) hbs (by omega)) mc_Mod_twoAt mi_Mod_twoAt me_Mod_twoAt wd_1616 hP hD hS hA [0, 1] rfl (by decide) 0 rfl rfl rfl rfl rfl (by decide) rfl hl.1 rfl (Nat.le_of_ble_eq_true rfl) (by decide) d_Mod_toHandlers_103) (fun r4 hr4 => ?_)
                have hB4 := hr4
                subst hB4
                refine lv_iadd hx hb d_Mod_toHandlers_106 ?_
                refine tw_ri (e2 := nI (b1 + t2 bs (px + 4))) (nI_add _ _) ?_
                refine lv_aload_n hx hb d_Mod_toHandlers_107 rfl (lv_at hl 3 rfl) ?_
                refine va_get (D := g.1) (ci := 10) (v := .ref (q 48)) (C := R_Mod) (T := F_Mod) (N := 61) hx hb hts in_Mod hown hK hP 0 rfl rfl 48 (by decide) (hts _ wd_1298) (fun _ h9 => h9) rfl d_Mod_toHandlers_108 ?_
                refine lv_iconst (v := 1) hx hb d_Mod_toHandlers_111 (by decide) ?_
                refine tw_wv (wr := [((q 2), aI g 600 bs), ((q 32), aI g 160 sk), ((q 34), aI g 160 bg), ((q 35), aI g 160 ln), ((q 36), aI g 160 xf), ((q 37), aI g 160 xt), ((q 39), aI g 160 xp)]) (tw_runV (ws := [(h0, .inr (10, mob q rf n mm mb fa9 fp9 av ev wi mn tp tc sc nf fd me mp xn mt wh tq ag an ig)), ((q 2), aI g 600 bs), ((q 32), aI g 160 sk), ((q 34), aI g 160 bg), ((q 35), aI g 160 ln), ((q 36), aI g 160 xf), ((q 37), aI g 160 xt), ((q 39), aI g 160 xp), ((q 41), aI g 600 dp9), ((q 42), aZ g 600 iw9), ((q 43), aI g 76800 kd9), ((q 47), aI g 128 (upd nw9 64 4)), ((q 48), aI g 64 bf)]) (wc := [(h0, .inr (10, mob q rf n mm mb fa9 fp9 av ev wi mn tp tc sc nf fd me mp xn mt wh tq ag an ig)), ((q 41), aI g 600 dp9), ((q 42), aZ g 600 iw9), ((q 43), aI g 76800 kd9), ((q 47), aI g 128 (upd nw9 64 4)), ((q 48), aI g 64 bf)]) (As := [.int (nI (b1 + t2 bs (px + 4))), .ref (q 48), .int 1]) (rest := []) E hB hK hZ (g_Mod_goOnB l g H.size h0 q rf n mm mb av ev wi mn tp tc sc nf fd me mp xn mt wh tq ag an ig (upd nw9 64 4) bf fa9 fp9 dp9 iw9 kd9 (b1 + t2 bs (px + 4)) 1 (by omega) (by omega) hFR9 hbf (by simp only [upd, if_true]; decide)) mc_Mod_goOn mi_Mod_goOn me_Mod_goOn wd_1636 hP hD hS hA [0, 8, 9, 10, 11, 12] rfl (by decide) 0 rfl rfl rfl rfl rfl (by decide) rfl hl.1 rfl (Nat.le_of_ble_eq_true rfl) (by decide) d_Mod_toHandlers_112) hP hD hS hA [0, 8, 9, 10, 11, 12] [1, 2, 3, 4, 5, 6, 7] rfl rfl (by decide) (by decide) (fun u6 H locs hr5 hP hD hS => ?_)
                try dsimp only at hr5
                have hP : va_P g.1 classes [((q 2), aI g 600 bs), ((q 32), aI g 160 sk), ((q 34), aI g 160 bg), ((q 35), aI g 160 ln), ((q 36), aI g 160 xf), ((q 37), aI g 160 xt), ((q 39), aI g 160 xp), (h0, .inr (10, mob q rf n mm mb u6.1 u6.2.1 av ev wi mn tp tc sc nf fd me mp xn mt wh tq ag an ig)), ((q 41), aI g 600 u6.2.2.1), ((q 42), aZ g 600 u6.2.2.2.1), ((q 43), aI g 76800 u6.2.2.2.2), ((q 47), aI g 128 (upd nw9 64 4)), ((q 48), aI g 64 bf)] H := hP
                have hD : va_D A [((q 2), aI g 600 bs), ((q 32), aI g 160 sk), ((q 34), aI g 160 bg), ((q 35), aI g 160 ln), ((q 36), aI g 160 xf), ((q 37), aI g 160 xt), ((q 39), aI g 160 xp), (h0, .inr (10, mob q rf n mm mb u6.1 u6.2.1 av ev wi mn tp tc sc nf fd me mp xn mt wh tq ag an ig)), ((q 41), aI g 600 u6.2.2.1), ((q 42), aZ g 600 u6.2.2.2.1), ((q 43), aI g 76800 u6.2.2.2.2), ((q 47), aI g 128 (upd nw9 64 4)), ((q 48), aI g 64 bf)] := hD
                have hP : va_P g.1 classes [(h0, .inr (10, mob q rf n mm mb u6.1 u6.2.1 av ev wi mn tp tc sc nf fd me mp xn mt wh tq ag an ig)), ((q 2), aI g 600 bs), ((q 32), aI g 160 sk), ((q 34), aI g 160 bg), ((q 35), aI g 160 ln), ((q 36), aI g 160 xf), ((q 37), aI g 160 xt), ((q 39), aI g 160 xp), ((q 41), aI g 600 u6.2.2.1), ((q 42), aZ g 600 u6.2.2.2.1), ((q 43), aI g 76800 u6.2.2.2.2), ((q 47), aI g 128 (upd nw9 64 4)), ((q 48), aI g 64 bf)] H := hP.sub [7, 0, 1, 2, 3, 4, 5, 6, 8, 9, 10, 11, 12] rfl
                have hD : va_D A [(h0, .inr (10, mob q rf n mm mb u6.1 u6.2.1 av ev wi mn tp tc sc nf fd me mp xn mt wh tq ag an ig)), ((q 2), aI g 600 bs), ((q 32), aI g 160 sk), ((q 34), aI g 160 bg), ((q 35), aI g 160 ln), ((q 36), aI g 160 xf), ((q 37), aI g 160 xt), ((q 39), aI g 160 xp), ((q 41), aI g 600 u6.2.2.1), ((q 42), aZ g 600 u6.2.2.2.1), ((q 43), aI g 76800 u6.2.2.2.2), ((q 47), aI g 128 (upd nw9 64 4)), ((q 48), aI g 64 bf)] := hD.sub [7, 0, 1, 2, 3, 4, 5, 6, 8, 9, 10, 11, 12] (by decide) rfl
                obtain ⟨hp6_0, hp6_1, hp6_2⟩ := hr5
                refine lv_aload_n hx hb d_Mod_toHandlers_115 rfl (lv_at hl 3 rfl) ?_
                refine va_get (D := g.1) (ci := 10) (v := .ref (q 47)) (C := R_Mod) (T := F_Mod) (N := 61) hx hb hts in_Mod hown hK hP 0 rfl rfl 47 (by decide) (hts _ wd_1297) (fun _ h9 => h9) rfl d_Mod_toHandlers_116 ?_
                refine lv_bipush (v := 64) hx hb d_Mod_toHandlers_119 (by decide) ?_
                refine lv_iload hx hb d_Mod_toHandlers_121 (lv_at hl 0 rfl) ?_
                refine va_iast hx hb hK hP hD hS 11 0 rfl rfl (vp_in_nI (n := 64) (by decide) (by decide)) d_Mod_toHandlers_123 (fun H locs hP hD hS => ?_)
                have hP : va_P g.1 classes [(h0, .inr (10, mob q rf n mm mb u6.1 u6.2.1 av ev wi mn tp tc sc nf fd me mp xn mt wh tq ag an ig)), ((q 2), aI g 600 bs), ((q 32), aI g 160 sk), ((q 34), aI g 160 bg), ((q 35), aI g 160 ln), ((q 36), aI g 160 xf), ((q 37), aI g 160 xt), ((q 39), aI g 160 xp), ((q 41), aI g 600 u6.2.2.1), ((q 42), aZ g 600 u6.2.2.2.1), ((q 43), aI g 76800 u6.2.2.2.2), ((q 47), aI g 128 (upd (upd nw9 64 4) (64 : Int32).toNatClampNeg (nw9 64))), ((q 48), aI g 64 bf)] H := hP
                have hD : va_D A [(h0, .inr (10, mob q rf n mm mb u6.1 u6.2.1 av ev wi mn tp tc sc nf fd me mp xn mt wh tq ag an ig)), ((q 2), aI g 600 bs), ((q 32), aI g 160 sk), ((q 34), aI g 160 bg), ((q 35), aI g 160 ln), ((q 36), aI g 160 xf), ((q 37), aI g 160 xt), ((q 39), aI g 160 xp), ((q 41), aI g 600 u6.2.2.1), ((q 42), aZ g 600 u6.2.2.2.1), ((q 43), aI g 76800 u6.2.2.2.2), ((q 47), aI g 128 (upd (upd nw9 64 4) (64 : Int32).toNatClampNeg (nw9 64))), ((q 48), aI g 64 bf)] := hD
                have e9 : upd (upd nw9 64 4) (64 : Int32).toNatClampNeg (nw9 64) = upd (upd nw9 64 4) 64 (nw9 64) := rfl
                rw [e9] at hP hD
                refine lv_iinc (k := 2) (v := nI (i + 1)) hx hb d_Mod_toHandlers_124 hl rfl ((nI_succ i).symm) (by decide) rfl (fun ls hl => ?_)
                have hl : lv_has ls 6 [(3, .int (nI (i + 1))), (5, .int (nw9 64)), (4, .int (nI px)), (0, .ref h0), (1, .int (nI mt)), (2, .int (nI of))] := hl
                refine lv_goto (tgt := 7) hx hb d_Mod_toHandlers_127 (by decide) ?_
                have hP : va_P g.1 classes [(h0, .inr (10, mob q rf n mm mb u6.1 u6.2.1 av ev wi mn tp tc sc nf fd me mp xn mt wh tq ag an ig)), ((q 2), aI g 600 bs), ((q 32), aI g 160 sk), ((q 34), aI g 160 bg), ((q 35), aI g 160 ln), ((q 36), aI g 160 xf), ((q 37), aI g 160 xt), ((q 39), aI g 160 xp), ((q 41), aI g 600 u6.2.2.1), ((q 42), aZ g 600 u6.2.2.2.1), ((q 43), aI g 76800 u6.2.2.2.2), ((q 47), aI g 128 (upd (upd nw9 64 4) 64 (nw9 64))), ((q 48), aI g 64 bf)] H := hP.sub [0, 1, 2, 3, 4, 5, 6, 7, 8, 9, 10, 11, 12] rfl
                have hD : va_D A [(h0, .inr (10, mob q rf n mm mb u6.1 u6.2.1 av ev wi mn tp tc sc nf fd me mp xn mt wh tq ag an ig)), ((q 2), aI g 600 bs), ((q 32), aI g 160 sk), ((q 34), aI g 160 bg), ((q 35), aI g 160 ln), ((q 36), aI g 160 xf), ((q 37), aI g 160 xt), ((q 39), aI g 160 xp), ((q 41), aI g 600 u6.2.2.1), ((q 42), aZ g 600 u6.2.2.2.1), ((q 43), aI g 76800 u6.2.2.2.2), ((q 47), aI g 128 (upd (upd nw9 64 4) 64 (nw9 64))), ((q 48), aI g 64 bf)] := hD.sub [0, 1, 2, 3, 4, 5, 6, 7, 8, 9, 10, 11, 12] (by decide) rfl
                exact ih _ (by omega) (i + 1) u6.1 u6.2.1 u6.2.2.1 u6.2.2.2.1 u6.2.2.2.2 (upd (upd nw9 64 4) 64 (nw9 64)) ls _ _ rfl (fun _ => hz1) (by omega) (by omega) hp6_1 ((hNW9.put (by decide)).put hNW9.2) (by omega) (lv_sub hl [0, 3, 4, 5] rfl) hP hD hS
              · refine lv_aload_n hx hb d_Mod_toHandlers_63 rfl (lv_at hl 2 rfl) ?_
                refine lv_bipush (v := 22) hx hb d_Mod_toHandlers_64 (by decide) ?_
                refine lv_aload_n hx hb d_Mod_toHandlers_66 rfl (lv_at hl 2 rfl) ?_
                refine va_get (D := g.1) (ci := 10) (v := .int (nI wh)) (C := R_Mod) (T := F_Mod) (N := 61) hx hb hts in_Mod hown hK hP 0 rfl rfl 45 (by decide) (hts _ wd_1295) (fun _ h9 => h9) rfl d_Mod_toHandlers_67 ?_
                refine tw_wv (wr := [((q 2), aI g 600 bs), ((q 32), aI g 160 sk), ((q 34), aI g 160 bg), ((q 35), aI g 160 ln), ((q 36), aI g 160 xf), ((q 37), aI g 160 xt), ((q 39), aI g 160 xp), ((q 41), aI g 600 dp9), ((q 42), aZ g 600 iw9), ((q 43), aI g 76800 kd9), ((q 47), aI g 128 nw9), ((q 48), aI g 64 bf)]) (tw_runV (ws := [(h0, .inr (10, mob q rf n mm mb fa9 fp9 av ev wi mn tp tc sc nf fd me mp xn mt wh tq ag an ig)), ((q 2), aI g 600 bs), ((q 32), aI g 160 sk), ((q 34), aI g 160 bg), ((q 35), aI g 160 ln), ((q 36), aI g 160 xf), ((q 37), aI g 160 xt), ((q 39), aI g 160 xp), ((q 41), aI g 600 dp9), ((q 42), aZ g 600 iw9), ((q 43), aI g 76800 kd9), ((q 47), aI g 128 nw9), ((q 48), aI g 64 bf)]) (wc := [(h0, .inr (10, mob q rf n mm mb fa9 fp9 av ev wi mn tp tc sc nf fd me mp xn mt wh tq ag an ig))]) (As := [.int 22, .int (nI wh)]) (rest := []) E hB hK hZ (g_Mod_fail l g H.size h0 q rf n mm mb av ev wi mn tp tc sc nf fd me mp xn mt wh tq ag an ig fa9 fp9 22 (nI wh) (by decide)) mc_Mod_fail mi_Mod_fail me_Mod_fail wd_1478 hP hD hS hA [0] rfl (by decide) 0 rfl rfl rfl rfl rfl (by decide) rfl hl.1 rfl (Nat.le_of_ble_eq_true rfl) (by decide) d_Mod_toHandlers_70) hP hD hS hA [0] [1, 2, 3, 4, 5, 6, 7, 8, 9, 10, 11, 12] rfl rfl (by decide) (by decide) (fun u8 H locs hr7 hP hD hS => ?_)
                try dsimp only at hr7
                have hP : va_P g.1 classes [((q 2), aI g 600 bs), ((q 32), aI g 160 sk), ((q 34), aI g 160 bg), ((q 35), aI g 160 ln), ((q 36), aI g 160 xf), ((q 37), aI g 160 xt), ((q 39), aI g 160 xp), ((q 41), aI g 600 dp9), ((q 42), aZ g 600 iw9), ((q 43), aI g 76800 kd9), ((q 47), aI g 128 nw9), ((q 48), aI g 64 bf), (h0, .inr (10, mob q rf n mm mb u8.1 u8.2 av ev wi mn tp tc sc nf fd me mp xn mt wh tq ag an ig))] H := hP
                have hD : va_D A [((q 2), aI g 600 bs), ((q 32), aI g 160 sk), ((q 34), aI g 160 bg), ((q 35), aI g 160 ln), ((q 36), aI g 160 xf), ((q 37), aI g 160 xt), ((q 39), aI g 160 xp), ((q 41), aI g 600 dp9), ((q 42), aZ g 600 iw9), ((q 43), aI g 76800 kd9), ((q 47), aI g 128 nw9), ((q 48), aI g 64 bf), (h0, .inr (10, mob q rf n mm mb u8.1 u8.2 av ev wi mn tp tc sc nf fd me mp xn mt wh tq ag an ig))] := hD
                have hP : va_P g.1 classes [(h0, .inr (10, mob q rf n mm mb u8.1 u8.2 av ev wi mn tp tc sc nf fd me mp xn mt wh tq ag an ig)), ((q 2), aI g 600 bs), ((q 32), aI g 160 sk), ((q 34), aI g 160 bg), ((q 35), aI g 160 ln), ((q 36), aI g 160 xf), ((q 37), aI g 160 xt), ((q 39), aI g 160 xp), ((q 41), aI g 600 dp9), ((q 42), aZ g 600 iw9), ((q 43), aI g 76800 kd9), ((q 47), aI g 128 nw9), ((q 48), aI g 64 bf)] H := hP.sub [12, 0, 1, 2, 3, 4, 5, 6, 7, 8, 9, 10, 11] rfl
                have hD : va_D A [(h0, .inr (10, mob q rf n mm mb u8.1 u8.2 av ev wi mn tp tc sc nf fd me mp xn mt wh tq ag an ig)), ((q 2), aI g 600 bs), ((q 32), aI g 160 sk), ((q 34), aI g 160 bg), ((q 35), aI g 160 ln), ((q 36), aI g 160 xf), ((q 37), aI g 160 xt), ((q 39), aI g 160 xp), ((q 41), aI g 600 dp9), ((q 42), aZ g 600 iw9), ((q 43), aI g 76800 kd9), ((q 47), aI g 128 nw9), ((q 48), aI g 64 bf)] := hD.sub [12, 0, 1, 2, 3, 4, 5, 6, 7, 8, 9, 10, 11] (by decide) rfl
                have hp8_0 := hr7
                exact tw_vret E hS (u8.1, u8.2, dp9, iw9, kd9, nw9) (⟨(fun h => absurd h hp8_0), hFR9, (by first | omega | (dsimp only <;> omega)), hNW9⟩) hP hD d_Mod_toHandlers_73
  exact loop7 _ x1 fa fp dp iw kd nw ls _ _ rfl (fun h => h) (by omega) (Nat.le_refl _) hFR hNW (Nat.le_refl _) (lv_sub hl [0, 1, 2, 3] rfl) hP hD hS
end
section
theorem d_Mod_through_0 : decode b_Mod_through 0 = .ok (.aload_n 0, 1) := by decide +kernel
theorem d_Mod_through_1 : decode b_Mod_through 1 = .ok (.getfield 93, 3) := by decide +kernel
theorem d_Mod_through_4 : decode b_Mod_through 4 = .ok (.iload_n 2, 1) := by decide +kernel
theorem d_Mod_through_5 : decode b_Mod_through 5 = .ok (.iconst 0, 1) := by decide +kernel
theorem d_Mod_through_6 : decode b_Mod_through 6 = .ok (.bastore, 1) := by decide +kernel
theorem d_Mod_through_7 : decode b_Mod_through 7 = .ok (.aload_n 0, 1) := by decide +kernel
theorem d_Mod_through_8 : decode b_Mod_through 8 = .ok (.iload_n 2, 1) := by decide +kernel
theorem d_Mod_through_9 : decode b_Mod_through 9 = .ok (.putfield 309, 3) := by decide +kernel
theorem d_Mod_through_12 : decode b_Mod_through 12 = .ok (.aload_n 0, 1) := by decide +kernel
theorem d_Mod_through_13 : decode b_Mod_through 13 = .ok (.aload_n 0, 1) := by decide +kernel
theorem d_Mod_through_14 : decode b_Mod_through 14 = .ok (.getfield 90, 3) := by decide +kernel
theorem d_Mod_through_17 : decode b_Mod_through 17 = .ok (.iload_n 2, 1) := by decide +kernel
theorem d_Mod_through_18 : decode b_Mod_through 18 = .ok (.iaload, 1) := by decide +kernel
theorem d_Mod_through_19 : decode b_Mod_through 19 = .ok (.putfield 312, 3) := by decide +kernel
theorem d_Mod_through_22 : decode b_Mod_through 22 = .ok (.iconst 0, 1) := by decide +kernel
theorem d_Mod_through_23 : decode b_Mod_through 23 = .ok (.istore_n 3, 1) := by decide +kernel
theorem d_Mod_through_24 : decode b_Mod_through 24 = .ok (.iload_n 3, 1) := by decide +kernel
theorem d_Mod_through_25 : decode b_Mod_through 25 = .ok (.sipush 128, 3) := by decide +kernel
theorem d_Mod_through_28 : decode b_Mod_through 28 = .ok (.if_icmp .ge 27, 3) := by decide +kernel
theorem d_Mod_through_31 : decode b_Mod_through 31 = .ok (.aload_n 0, 1) := by decide +kernel
theorem d_Mod_through_32 : decode b_Mod_through 32 = .ok (.getfield 100, 3) := by decide +kernel
theorem d_Mod_through_35 : decode b_Mod_through 35 = .ok (.iload_n 3, 1) := by decide +kernel
theorem d_Mod_through_36 : decode b_Mod_through 36 = .ok (.aload_n 0, 1) := by decide +kernel
theorem d_Mod_through_37 : decode b_Mod_through 37 = .ok (.getfield 97, 3) := by decide +kernel
theorem d_Mod_through_40 : decode b_Mod_through 40 = .ok (.sipush 128, 3) := by decide +kernel
theorem d_Mod_through_43 : decode b_Mod_through 43 = .ok (.iload_n 2, 1) := by decide +kernel
theorem d_Mod_through_44 : decode b_Mod_through 44 = .ok (.imul, 1) := by decide +kernel
theorem d_Mod_through_45 : decode b_Mod_through 45 = .ok (.iload_n 3, 1) := by decide +kernel
theorem d_Mod_through_46 : decode b_Mod_through 46 = .ok (.iadd, 1) := by decide +kernel
theorem d_Mod_through_47 : decode b_Mod_through 47 = .ok (.iaload, 1) := by decide +kernel
theorem d_Mod_through_48 : decode b_Mod_through 48 = .ok (.iastore, 1) := by decide +kernel
theorem d_Mod_through_49 : decode b_Mod_through 49 = .ok (.iinc 3 1, 3) := by decide +kernel
theorem d_Mod_through_52 : decode b_Mod_through 52 = .ok (.goto (-28), 3) := by decide +kernel
theorem d_Mod_through_55 : decode b_Mod_through 55 = .ok (.iconst 0, 1) := by decide +kernel
theorem d_Mod_through_56 : decode b_Mod_through 56 = .ok (.istore_n 3, 1) := by decide +kernel
theorem d_Mod_through_57 : decode b_Mod_through 57 = .ok (.iload_n 3, 1) := by decide +kernel
theorem d_Mod_through_58 : decode b_Mod_through 58 = .ok (.bipush 64, 2) := by decide +kernel
theorem d_Mod_through_60 : decode b_Mod_through 60 = .ok (.if_icmp .ge 21, 3) := by decide +kernel
theorem d_Mod_through_63 : decode b_Mod_through 63 = .ok (.aload_n 0, 1) := by decide +kernel
theorem d_Mod_through_64 : decode b_Mod_through 64 = .ok (.getfield 103, 3) := by decide +kernel
theorem d_Mod_through_67 : decode b_Mod_through 67 = .ok (.iload_n 3, 1) := by decide +kernel
theorem d_Mod_through_68 : decode b_Mod_through 68 = .ok (.aload_n 0, 1) := by decide +kernel
theorem d_Mod_through_69 : decode b_Mod_through 69 = .ok (.getfield 100, 3) := by decide +kernel
theorem d_Mod_through_72 : decode b_Mod_through 72 = .ok (.iload_n 3, 1) := by decide +kernel
theorem d_Mod_through_73 : decode b_Mod_through 73 = .ok (.iaload, 1) := by decide +kernel
theorem d_Mod_through_74 : decode b_Mod_through 74 = .ok (.iastore, 1) := by decide +kernel
theorem d_Mod_through_75 : decode b_Mod_through 75 = .ok (.iinc 3 1, 3) := by decide +kernel
theorem d_Mod_through_78 : decode b_Mod_through 78 = .ok (.goto (-21), 3) := by decide +kernel
theorem d_Mod_through_81 : decode b_Mod_through 81 = .ok (.aload_n 0, 1) := by decide +kernel
theorem d_Mod_through_82 : decode b_Mod_through 82 = .ok (.getfield 7, 3) := by decide +kernel
theorem d_Mod_through_85 : decode b_Mod_through 85 = .ok (.iload_n 2, 1) := by decide +kernel
theorem d_Mod_through_86 : decode b_Mod_through 86 = .ok (.iaload, 1) := by decide +kernel
theorem d_Mod_through_87 : decode b_Mod_through 87 = .ok (.istore_n 3, 1) := by decide +kernel
theorem d_Mod_through_88 : decode b_Mod_through 88 = .ok (.aload_n 0, 1) := by decide +kernel
theorem d_Mod_through_89 : decode b_Mod_through 89 = .ok (.iload_n 3, 1) := by decide +kernel
theorem d_Mod_through_90 : decode b_Mod_through 90 = .ok (.invokevirtual 367, 3) := by decide +kernel
theorem d_Mod_through_93 : decode b_Mod_through 93 = .ok (.ifCond .ne 8, 3) := by decide +kernel
theorem d_Mod_through_96 : decode b_Mod_through 96 = .ok (.aload_n 0, 1) := by decide +kernel
theorem d_Mod_through_97 : decode b_Mod_through 97 = .ok (.iload_n 3, 1) := by decide +kernel
theorem d_Mod_through_98 : decode b_Mod_through 98 = .ok (.invokevirtual 370, 3) := by decide +kernel
theorem d_Mod_through_101 : decode b_Mod_through 101 = .ok (.aload_n 0, 1) := by decide +kernel
theorem d_Mod_through_102 : decode b_Mod_through 102 = .ok (.iload_n 1, 1) := by decide +kernel
theorem d_Mod_through_103 : decode b_Mod_through 103 = .ok (.iload_n 2, 1) := by decide +kernel
theorem d_Mod_through_104 : decode b_Mod_through 104 = .ok (.aload_n 0, 1) := by decide +kernel
theorem d_Mod_through_105 : decode b_Mod_through 105 = .ok (.getfield 71, 3) := by decide +kernel
theorem d_Mod_through_108 : decode b_Mod_through 108 = .ok (.iload_n 1, 1) := by decide +kernel
theorem d_Mod_through_109 : decode b_Mod_through 109 = .ok (.iaload, 1) := by decide +kernel
theorem d_Mod_through_110 : decode b_Mod_through 110 = .ok (.isub, 1) := by decide +kernel
theorem d_Mod_through_111 : decode b_Mod_through 111 = .ok (.invokevirtual 373, 3) := by decide +kernel
theorem d_Mod_through_114 : decode b_Mod_through 114 = .ok (.iload_n 3, 1) := by decide +kernel
theorem d_Mod_through_115 : decode b_Mod_through 115 = .ok (.sipush 167, 3) := by decide +kernel
theorem d_Mod_through_118 : decode b_Mod_through 118 = .ok (.if_icmp .eq 23, 3) := by decide +kernel
theorem d_Mod_through_121 : decode b_Mod_through 121 = .ok (.iload_n 3, 1) := by decide +kernel
theorem d_Mod_through_122 : decode b_Mod_through 122 = .ok (.sipush 172, 3) := by decide +kernel
theorem d_Mod_through_125 : decode b_Mod_through 125 = .ok (.sipush 177, 3) := by decide +kernel
theorem d_Mod_through_128 : decode b_Mod_through 128 = .ok (.invokestatic 136, 3) := by decide +kernel
theorem d_Mod_through_131 : decode b_Mod_through 131 = .ok (.ifCond .ne 10, 3) := by decide +kernel
theorem d_Mod_through_134 : decode b_Mod_through 134 = .ok (.iload_n 3, 1) := by decide +kernel
theorem d_Mod_through_135 : decode b_Mod_through 135 = .ok (.sipush 191, 3) := by decide +kernel
theorem d_Mod_through_138 : decode b_Mod_through 138 = .ok (.if_icmp .ne 7, 3) := by decide +kernel
theorem d_Mod_through_141 : decode b_Mod_through 141 = .ok (.iconst 1, 1) := by decide +kernel
theorem d_Mod_through_142 : decode b_Mod_through 142 = .ok (.goto 4, 3) := by decide +kernel
theorem d_Mod_through_145 : decode b_Mod_through 145 = .ok (.iconst 0, 1) := by decide +kernel
theorem d_Mod_through_146 : decode b_Mod_through 146 = .ok (.istore 4, 2) := by decide +kernel
theorem d_Mod_through_148 : decode b_Mod_through 148 = .ok (.iload_n 2, 1) := by decide +kernel
theorem d_Mod_through_149 : decode b_Mod_through 149 = .ok (.iconst 1, 1) := by decide +kernel
theorem d_Mod_through_150 : decode b_Mod_through 150 = .ok (.iadd, 1) := by decide +kernel
theorem d_Mod_through_151 : decode b_Mod_through 151 = .ok (.iload_n 3, 1) := by decide +kernel
theorem d_Mod_through_152 : decode b_Mod_through 152 = .ok (.invokestatic 291, 3) := by decide +kernel
theorem d_Mod_through_155 : decode b_Mod_through 155 = .ok (.iadd, 1) := by decide +kernel
theorem d_Mod_through_156 : decode b_Mod_through 156 = .ok (.istore 5, 2) := by decide +kernel
theorem d_Mod_through_158 : decode b_Mod_through 158 = .ok (.aload_n 0, 1) := by decide +kernel
theorem d_Mod_through_159 : decode b_Mod_through 159 = .ok (.getfield 147, 3) := by decide +kernel
theorem d_Mod_through_162 : decode b_Mod_through 162 = .ok (.ifCond .ne 50, 3) := by decide +kernel
theorem d_Mod_through_165 : decode b_Mod_through 165 = .ok (.iload 4, 2) := by decide +kernel
theorem d_Mod_through_167 : decode b_Mod_through 167 = .ok (.ifCond .ne 45, 3) := by decide +kernel
theorem d_Mod_through_170 : decode b_Mod_through 170 = .ok (.iload 5, 2) := by decide +kernel
theorem d_Mod_through_172 : decode b_Mod_through 172 = .ok (.aload_n 0, 1) := by decide +kernel
theorem d_Mod_through_173 : decode b_Mod_through 173 = .ok (.getfield 71, 3) := by decide +kernel
theorem d_Mod_through_176 : decode b_Mod_through 176 = .ok (.iload_n 1, 1) := by decide +kernel
theorem d_Mod_through_177 : decode b_Mod_through 177 = .ok (.iaload, 1) := by decide +kernel
theorem d_Mod_through_178 : decode b_Mod_through 178 = .ok (.aload_n 0, 1) := by decide +kernel
theorem d_Mod_through_179 : decode b_Mod_through 179 = .ok (.getfield 74, 3) := by decide +kernel
theorem d_Mod_through_182 : decode b_Mod_through 182 = .ok (.iload_n 1, 1) := by decide +kernel
theorem d_Mod_through_183 : decode b_Mod_through 183 = .ok (.iaload, 1) := by decide +kernel
theorem d_Mod_through_184 : decode b_Mod_through 184 = .ok (.iadd, 1) := by decide +kernel
theorem d_Mod_through_185 : decode b_Mod_through 185 = .ok (.if_icmp .ne 13, 3) := by decide +kernel
theorem d_Mod_through_188 : decode b_Mod_through 188 = .ok (.aload_n 0, 1) := by decide +kernel
theorem d_Mod_through_189 : decode b_Mod_through 189 = .ok (.bipush 19, 2) := by decide +kernel
theorem d_Mod_through_191 : decode b_Mod_through 191 = .ok (.iload_n 2, 1) := by decide +kernel
theorem d_Mod_through_192 : decode b_Mod_through 192 = .ok (.invokevirtual 159, 3) := by decide +kernel
theorem d_Mod_through_195 : decode b_Mod_through 195 = .ok (.goto 17, 3) := by decide +kernel
theorem d_Mod_through_198 : decode b_Mod_through 198 = .ok (.aload_n 0, 1) := by decide +kernel
theorem d_Mod_through_199 : decode b_Mod_through 199 = .ok (.iload 5, 2) := by decide +kernel
theorem d_Mod_through_201 : decode b_Mod_through 201 = .ok (.aload_n 0, 1) := by decide +kernel
theorem d_Mod_through_202 : decode b_Mod_through 202 = .ok (.getfield 100, 3) := by decide +kernel
theorem d_Mod_through_205 : decode b_Mod_through 205 = .ok (.aload_n 0, 1) := by decide +kernel
theorem d_Mod_through_206 : decode b_Mod_through 206 = .ok (.getfield 312, 3) := by decide +kernel
theorem d_Mod_through_209 : decode b_Mod_through 209 = .ok (.invokevirtual 376, 3) := by decide +kernel
theorem d_Mod_through_212 : decode b_Mod_through 212 = .ok (.aload_n 0, 1) := by decide +kernel
theorem d_Mod_through_213 : decode b_Mod_through 213 = .ok (.getfield 147, 3) := by decide +kernel
theorem d_Mod_through_216 : decode b_Mod_through 216 = .ok (.ifCond .ne 94, 3) := by decide +kernel
theorem d_Mod_through_219 : decode b_Mod_through 219 = .ok (.iload_n 3, 1) := by decide +kernel
theorem d_Mod_through_220 : decode b_Mod_through 220 = .ok (.sipush 153, 3) := by decide +kernel
theorem d_Mod_through_223 : decode b_Mod_through 223 = .ok (.sipush 167, 3) := by decide +kernel
theorem d_Mod_through_226 : decode b_Mod_through 226 = .ok (.invokestatic 136, 3) := by decide +kernel
theorem d_Mod_through_229 : decode b_Mod_through 229 = .ok (.ifCond .ne 17, 3) := by decide +kernel
theorem d_Mod_through_232 : decode b_Mod_through 232 = .ok (.iload_n 3, 1) := by decide +kernel
theorem d_Mod_through_233 : decode b_Mod_through 233 = .ok (.sipush 198, 3) := by decide +kernel
theorem d_Mod_through_236 : decode b_Mod_through 236 = .ok (.if_icmp .eq 10, 3) := by decide +kernel
theorem d_Mod_through_239 : decode b_Mod_through 239 = .ok (.iload_n 3, 1) := by decide +kernel
theorem d_Mod_through_240 : decode b_Mod_through 240 = .ok (.sipush 199, 3) := by decide +kernel
theorem d_Mod_through_243 : decode b_Mod_through 243 = .ok (.if_icmp .ne 67, 3) := by decide +kernel
theorem d_Mod_through_246 : decode b_Mod_through 246 = .ok (.aload_n 0, 1) := by decide +kernel
theorem d_Mod_through_247 : decode b_Mod_through 247 = .ok (.iload_n 2, 1) := by decide +kernel
theorem d_Mod_through_248 : decode b_Mod_through 248 = .ok (.iconst 1, 1) := by decide +kernel
theorem d_Mod_through_249 : decode b_Mod_through 249 = .ok (.iadd, 1) := by decide +kernel
theorem d_Mod_through_250 : decode b_Mod_through 250 = .ok (.invokevirtual 294, 3) := by decide +kernel
theorem d_Mod_through_253 : decode b_Mod_through 253 = .ok (.i2s, 1) := by decide +kernel
theorem d_Mod_through_254 : decode b_Mod_through 254 = .ok (.istore 6, 2) := by decide +kernel
theorem d_Mod_through_256 : decode b_Mod_through 256 = .ok (.iload_n 2, 1) := by decide +kernel
theorem d_Mod_through_257 : decode b_Mod_through 257 = .ok (.aload_n 0, 1) := by decide +kernel
theorem d_Mod_through_258 : decode b_Mod_through 258 = .ok (.getfield 71, 3) := by decide +kernel
theorem d_Mod_through_261 : decode b_Mod_through 261 = .ok (.iload_n 1, 1) := by decide +kernel
theorem d_Mod_through_262 : decode b_Mod_through 262 = .ok (.iaload, 1) := by decide +kernel
theorem d_Mod_through_263 : decode b_Mod_through 263 = .ok (.isub, 1) := by decide +kernel
theorem d_Mod_through_264 : decode b_Mod_through 264 = .ok (.iload 6, 2) := by decide +kernel
theorem d_Mod_through_266 : decode b_Mod_through 266 = .ok (.iadd, 1) := by decide +kernel
theorem d_Mod_through_267 : decode b_Mod_through 267 = .ok (.istore 7, 2) := by decide +kernel
theorem d_Mod_through_269 : decode b_Mod_through 269 = .ok (.aload_n 0, 1) := by decide +kernel
theorem d_Mod_through_270 : decode b_Mod_through 270 = .ok (.iload_n 1, 1) := by decide +kernel
theorem d_Mod_through_271 : decode b_Mod_through 271 = .ok (.iload 7, 2) := by decide +kernel
theorem d_Mod_through_273 : decode b_Mod_through 273 = .ok (.invokevirtual 297, 3) := by decide +kernel
theorem d_Mod_through_276 : decode b_Mod_through 276 = .ok (.ifCond .eq 27, 3) := by decide +kernel
theorem d_Mod_through_279 : decode b_Mod_through 279 = .ok (.aload_n 0, 1) := by decide +kernel
theorem d_Mod_through_280 : decode b_Mod_through 280 = .ok (.aload_n 0, 1) := by decide +kernel
theorem d_Mod_through_281 : decode b_Mod_through 281 = .ok (.getfield 71, 3) := by decide +kernel
theorem d_Mod_through_284 : decode b_Mod_through 284 = .ok (.iload_n 1, 1) := by decide +kernel
theorem d_Mod_through_285 : decode b_Mod_through 285 = .ok (.iaload, 1) := by decide +kernel
theorem d_Mod_through_286 : decode b_Mod_through 286 = .ok (.iload 7, 2) := by decide +kernel
theorem d_Mod_through_288 : decode b_Mod_through 288 = .ok (.iadd, 1) := by decide +kernel
theorem d_Mod_through_289 : decode b_Mod_through 289 = .ok (.aload_n 0, 1) := by decide +kernel
theorem d_Mod_through_290 : decode b_Mod_through 290 = .ok (.getfield 100, 3) := by decide +kernel
theorem d_Mod_through_293 : decode b_Mod_through 293 = .ok (.aload_n 0, 1) := by decide +kernel
theorem d_Mod_through_294 : decode b_Mod_through 294 = .ok (.getfield 312, 3) := by decide +kernel
theorem d_Mod_through_297 : decode b_Mod_through 297 = .ok (.invokevirtual 376, 3) := by decide +kernel
theorem d_Mod_through_300 : decode b_Mod_through 300 = .ok (.goto 10, 3) := by decide +kernel
theorem d_Mod_through_303 : decode b_Mod_through 303 = .ok (.aload_n 0, 1) := by decide +kernel
theorem d_Mod_through_304 : decode b_Mod_through 304 = .ok (.bipush 24, 2) := by decide +kernel
theorem d_Mod_through_306 : decode b_Mod_through 306 = .ok (.iload_n 2, 1) := by decide +kernel
theorem d_Mod_through_307 : decode b_Mod_through 307 = .ok (.invokevirtual 159, 3) := by decide +kernel
theorem d_Mod_through_310 : decode b_Mod_through 310 = .ok (.return_, 1) := by decide +kernel
end
