/-! What is always true of both sides, and how each call keeps it. -/
def FTS (f : Nat → Int32) : Prop := ∀ j, j < 600 → fits .byte (.int (f j)) = true
def REL (f fm : Nat → Int32) : Prop := ∀ j, j < 600 → f j &&& 255 = fm j
theorem fts_i8 (x : Int32) : fits .byte (.int x.toInt8.toInt32) = true := pk_fb x
theorem fts_upd {f : Nat → Int32} {i : Nat} (h : FTS f) (x : Int32) : FTS (upd f i x.toInt8.toInt32) := by
  intro j hj
  by_cases e : j = i
  · simp only [upd, if_pos e]; exact fts_i8 x
  · simp only [upd, if_neg e]; exact h j hj
theorem fts_feed {f : Nat → Int32} {n : Nat} {a b c d : Int32} (h : FTS f) : ∀ k, FTS (fd_f f n a b c d k) := by
  intro k
  induction k with
  | zero => exact h
  | succ k ih => rw [fd_f]; exact fts_upd ih _
theorem byt_upd {f : Nat → Int32} {i b : Nat} (h : BYT f) (hb : b < 256) : BYT (upd f i (nI b)) := by
  intro j hj
  by_cases e : j = i
  · exact ⟨b, hb, if_pos e⟩
  · obtain ⟨c, hc, e2⟩ := h j hj
    exact ⟨c, hc, (if_neg e).trans e2⟩
theorem byt_feed {f : Nat → Int32} {n : Nat} {a b c d : Int32} (h : BYT f) : ∀ k, BYT (mf_f f n a b c d k) := by
  intro k
  induction k with
  | zero => exact h
  | succ k ih =>
    rw [mf_f]
    obtain ⟨j, hj, e⟩ := pk_andE (fd_w a b c d k >>> ((24 - 8 * (nI k - nI k / 4 * 4)) &&& 31)) (m := 255) 8 (by decide)
    have e2 : mf_v (fd_w a b c d k) k = nI j := e
    rw [e2]
    exact byt_upd ih (by omega)
theorem ag_feedn {n : Nat} {many k r : Int32} {u : Nat × Int64} {w : Int32 × Nat} {o0 : Int64}
    (h1 : (k = 1 ∧ (many < 0 ∨ 16 < many) ∧ u = (0, o0)) ∨ (k = 2 ∧ (¬ many < 0 ∧ many ≤ 16 ∧ 600 < nI n + many) ∧ u = (0, o0)) ∨ (k = 0 ∧ many = nI u.1 ∧ u.1 ≤ 16 ∧ n + u.1 ≤ 600 ∧ u.2 = (nI (n + u.1)).toInt64))
    (h2 : (w = (1, 0) ∧ (many < 0 ∨ 16 < many)) ∨ (w = (2, 0) ∧ ¬ many < 0 ∧ many ≤ 16 ∧ 600 < nI n + many) ∨ (w.1 = 0 ∧ many = nI w.2 ∧ w.2 ≤ 16 ∧ n + w.2 ≤ 600 ∧ r = nI (n + w.2))) (hn : n ≤ 600) : w.2 = u.1 ∧ u.1 ≤ 16 ∧ n + u.1 ≤ 600 := by
  rcases h1 with ⟨rfl, c1, rfl⟩ | ⟨rfl, c2, rfl⟩ | ⟨rfl, e1, e2, e3, e4⟩ <;> rcases h2 with ⟨rfl, d1⟩ | ⟨rfl, d2, d3, d4⟩ | ⟨d0, d1, d2, d3, d4⟩
  · exact ⟨rfl, Nat.zero_le _, hn⟩
  · exact ⟨rfl, Nat.zero_le _, hn⟩
  · exact (fd_no1 c1 d1 d2).elim
  · exact ⟨rfl, Nat.zero_le _, hn⟩
  · exact ⟨rfl, Nat.zero_le _, hn⟩
  · exact (fd_no2 c2.2.2 d1 d3).elim
  · exact (fd_no1 d1 e1 e2).elim
  · exact (fd_no2 d4 e1 e3).elim
  · exact ⟨(nI_inj (e1.symm.trans d1) (by omega) (by omega)).symm, e2, e3⟩
theorem ag_cutn {n : Nat} {kc k r : Int32} {u : Nat × Int64} {w : Int32 × Nat} {o0 : Int64} (hn : n ≤ 600)
    (h1 : (k = 1 ∧ (kc < 0 ∨ nI n < kc) ∧ u = (n, o0)) ∨ (k = 0 ∧ kc = nI u.1 ∧ u.1 ≤ n ∧ u.2 = (nI (n - u.1)).toInt64))
    (h2 : (w = (1, n) ∧ (kc < 0 ∨ nI n < kc)) ∨ (w.1 = 0 ∧ kc = nI w.2 ∧ w.2 ≤ n ∧ r = nI (n - w.2))) : w.2 = u.1 ∧ u.1 ≤ 600 := by
  have no1 : ∀ {j : Nat}, (kc < 0 ∨ nI n < kc) → kc = nI j → j ≤ n → False := by
    intro j h e hj
    subst e
    exact h.elim (nI_pos (by omega)) (nI_nlt hj (by omega))
  rcases h1 with ⟨rfl, c1, rfl⟩ | ⟨rfl, e1, e2, e3⟩ <;> rcases h2 with ⟨rfl, d1⟩ | ⟨d0, d1, d2, d3⟩
  · exact ⟨rfl, hn⟩
  · exact (no1 c1 d1 d2).elim
  · exact (no1 d1 e1 e2).elim
  · exact ⟨(nI_inj (e1.symm.trans d1) (by omega) (by omega)).symm, by omega⟩
theorem ag_i8 : ∀ b, b < 256 → (nI b).toInt8.toInt32 &&& 255 = nI b := by decide +kernel
theorem ag_putf {n : Nat} {pl v k r : Int32} {f fm : Nat → Int32} {u : Int32 × Nat × Int64} {w : Int32 × Nat} (hn : n ≤ 600) (hf : REL f fm) (hF : FTS f) (hB : BYT fm)
    (h1 : k = u.1 ∧ ((k = 1 ∧ (pl < 0 ∨ nI n ≤ pl)) ∨ (k = 2 ∧ (¬ pl < 0 ∧ pl < nI n ∧ (v < 0 ∨ 255 < v))) ∨ (k = 0 ∧ pl = nI u.2.1 ∧ u.2.1 < n ∧ ¬ v < 0 ∧ v ≤ 255 ∧ u.2.2 = (f u.2.1 &&& 255).toInt64)))
    (h2 : (w.1 = 1 ∧ (pl < 0 ∨ nI n ≤ pl)) ∨ (w.1 = 2 ∧ ¬ pl < 0 ∧ pl < nI n ∧ (v < 0 ∨ 255 < v)) ∨ (w.1 = 0 ∧ pl = nI w.2 ∧ w.2 < n ∧ ¬ v < 0 ∧ v ≤ 255 ∧ r = fm w.2)) :
    REL (if u.1 = 0 then upd f u.2.1 v.toInt8.toInt32 else f) (if w.1 = 0 then upd fm w.2 v else fm) ∧ FTS (if u.1 = 0 then upd f u.2.1 v.toInt8.toInt32 else f) ∧ BYT (if w.1 = 0 then upd fm w.2 v else fm) := by
  have hk := (ag_put hn (fun j hj => hf j (by omega)) h1 h2).1
  rw [h1.1] at hk
  by_cases e : u.1 = 0
  · rw [if_pos e, if_pos (hk.trans e)]
    rcases h1 with ⟨q, ⟨c0, _⟩ | ⟨c0, _⟩ | ⟨_, e1, e2, e3, e4, _⟩⟩
    · rw [q, e] at c0; exact absurd c0 (by decide)
    · rw [q, e] at c0; exact absurd c0 (by decide)
    rcases h2 with ⟨d0, _⟩ | ⟨d0, _⟩ | ⟨_, d1, d2, _⟩
    · rw [hk, e] at d0; exact absurd d0 (by decide)
    · rw [hk, e] at d0; exact absurd d0 (by decide)
    have ej : w.2 = u.2.1 := (nI_inj (e1.symm.trans d1) (by omega) (by omega)).symm
    rw [ej]
    obtain ⟨b, hb, rfl⟩ := nI_of2 (n := 255) (by decide) e3 e4
    refine ⟨?_, fts_upd hF _, byt_upd hB (by omega)⟩
    intro j hj
    by_cases ei : j = u.2.1
    · simp only [upd, if_pos ei]; exact ag_i8 b (by omega)
    · simp only [upd, if_neg ei]; exact hf j hj
  · rw [if_neg e, if_neg (fun h => e (hk ▸ h))]
    exact ⟨hf, hF, hB⟩
theorem ib_bt {f fm : Nat → Int32} {n i : Nat} (hf : REL f fm) (hB : BYT fm) (hn : n ≤ 600) (hi : i < n) : ib f n i = bt fm i := by
  have e1 := ib_eq f n i
  rw [im_b2 (nI_pos (by omega)) (fun h => absurd (tn_le h (by omega) (by omega)) (by omega)), nI_clamp (by omega), hf i (by omega), bt_eq hB (by omega)] at e1
  exact (nI_inj e1 (by have := bt_lt (i := i) hB (by omega); omega) (by have := ib_lt f n i; omega)).symm
theorem rs_cm {f fm : Nat → Int32} {n : Nat} {k : Int32} (hf : REL f fm) (hB : BYT fm) (hn : n ≤ 600) : RSC f n k ↔ RSM fm n k := by
  constructor
  · rintro ⟨q, e, h1, h2, h3, h4⟩
    refine ⟨q, e, h1, h2, h3, fun i h5 h6 => ?_⟩
    have := h4 i h5 h6
    rw [ib_bt hf hB hn h6] at this
    exact this
  · rintro ⟨q, e, h1, h2, h3, h4⟩
    refine ⟨q, e, h1, h2, h3, fun i h5 h6 => ?_⟩
    rw [ib_bt hf hB hn h6]
    exact h4 i h5 h6
theorem so_lt (al : Int32) : so_ al < 2 := by unfold so_; split <;> omega
theorem lim_upd {f : Nat → Int32} {N b i c : Nat} (h : ∀ j, j < N → ∃ q, q ≤ b ∧ f j = nI q) (hc : c ≤ b) : ∀ j, j < N → ∃ q, q ≤ b ∧ upd f i (nI c) j = nI q := by
  intro j hj
  by_cases e : j = i
  · exact ⟨c, hc, if_pos e⟩
  · obtain ⟨q, h1, h2⟩ := h j hj
    exact ⟨q, h1, (if_neg e).trans h2⟩
theorem ag_rule {z rf r al k : Int32} {n n' m' : Nat} {f fm ln ln' mn mn' ru rs ru' rs' : Nat → Int32} {o : Int64} (hc : RLC z n n' f ln ln' mn mn' al k o) (hm : RUP rf r n m' fm ru rs ru' rs' al k) (hf : REL f fm) (hB : BYT fm) (hn : n ≤ 600) (hmr : ∀ i, i < 2 → mn i = ru i)
    (hLn : ∀ j, j < 12 → ∃ q, q ≤ 40 ∧ ln j = nI q) (hMn : ∀ j, j < 2 → ∃ q, q ≤ 6 ∧ mn j = nI q) (hru : ∀ j, j < 2 → ∃ q, q ≤ 6 ∧ ru j = nI q) (hrs : ∀ j, j < 12 → ∃ q, q ≤ 40 ∧ rs j = nI q) :
    (rf = z ∧ (z = 0 → o = r.toInt64)) ∧ m' = n' ∧ n' ≤ 600 ∧ (∀ i, i < 2 → mn' i = ru' i) ∧ (∀ j, j < 12 → ∃ q, q ≤ 40 ∧ ln' j = nI q) ∧ (∀ j, j < 2 → ∃ q, q ≤ 6 ∧ mn' j = nI q) ∧ (∀ j, j < 2 → ∃ q, q ≤ 6 ∧ ru' j = nI q) ∧ (∀ j, j < 12 → ∃ q, q ≤ 40 ∧ rs' j = nI q) := by
  have hrs2 := rs_cm (k := k) hf hB hn
  have hso := hmr _ (so_lt al)
  rcases hc with ⟨rfl, c1, rfl, rfl, rfl⟩ | ⟨rfl, c1, c2, rfl, rfl, rfl⟩ | ⟨rfl, q, c, c1, c2, c3, c4, c5, c6, rfl, rfl, rfl, c7⟩ <;> rcases hm with ⟨rfl, d1, rfl, rfl, rfl⟩ | ⟨rfl, d1, d2, rfl, rfl, rfl⟩ | ⟨rfl, q2, e2, d1, d2, d3, d4, d5, rfl, rfl, rfl, d6, d7⟩
  · exact ⟨⟨rfl, fun h => absurd h (by decide)⟩, rfl, hn, hmr, hLn, hMn, hru, hrs⟩
  · exact absurd (hrs2.mpr d1) c1
  · exact absurd (hrs2.mpr d3) c1
  · exact absurd (hrs2.mp c1) d1
  · exact ⟨⟨rfl, fun h => absurd h (by decide)⟩, rfl, hn, hmr, hLn, hMn, hru, hrs⟩
  · rw [hso, d4] at c2
    have := nI_inj (b := 6) c2 (by omega) (by decide)
    omega
  · exact absurd (hrs2.mp c4) d1
  · rw [hso, d2] at c5
    have := nI_inj (a := 6) c5 (by decide) (by omega)
    omega
  · obtain rfl : q = q2 := nI_inj (c1.symm.trans d1) (by omega) (by omega)
    obtain rfl : c = e2 := nI_inj (c5.symm.trans (hso.trans d4)) (by omega) (by omega)
    refine ⟨⟨rfl, fun _ => by rw [c7, d7]⟩, rfl, by omega, ?_, lim_upd hLn c3, lim_upd hMn (by omega), lim_upd hru (by omega), lim_upd hrs c3⟩
    intro i hi
    by_cases e : i = so_ al
    · simp only [upd, if_pos e]
    · simp only [upd, if_neg e]; exact hmr i hi
