/-! Where both answer to one call: the class's helper and the reference say the same. -/
theorem fd_no1 {many : Int32} {u : Nat} (h : many < 0 ∨ 16 < many) (e : many = nI u) (hu : u ≤ 16) : False := by
  subst e
  rcases h with h | h
  · exact nI_pos (by omega) h
  · exact nI_nlt (a := 16) (b := u) hu (by omega) h |>.elim
theorem fd_no2 {many : Int32} {n u : Nat} (h : 600 < nI n + many) (e : many = nI u) (hu : n + u ≤ 600) : False := by
  subst e
  rw [nI_add] at h
  exact nI_nlt (a := 600) (b := n + u) hu (by omega) h
theorem fd_no3 {many : Int32} (h : many < 0 ∨ 16 < many) (h1 : ¬ many < 0) (h2 : many ≤ 16) : False := by
  rcases h with h | h
  · exact h1 h
  · exact Int32.not_lt.mpr h2 h
theorem nI_inj {a b : Nat} (h : nI a = nI b) (ha : a < 2 ^ 31) (hb : b < 2 ^ 31) : a = b := (nI_eq ha hb).mp h
theorem ag_feed {n : Nat} {many k r : Int32} {u : Nat × Int64} {w : Int32 × Nat} {o0 : Int64}
    (h1 : (k = 1 ∧ (many < 0 ∨ 16 < many) ∧ u = (0, o0)) ∨ (k = 2 ∧ (¬ many < 0 ∧ many ≤ 16 ∧ 600 < nI n + many) ∧ u = (0, o0)) ∨ (k = 0 ∧ many = nI u.1 ∧ u.1 ≤ 16 ∧ n + u.1 ≤ 600 ∧ u.2 = (nI (n + u.1)).toInt64))
    (h2 : (w = (1, 0) ∧ (many < 0 ∨ 16 < many)) ∨ (w = (2, 0) ∧ ¬ many < 0 ∧ many ≤ 16 ∧ 600 < nI n + many) ∨ (w.1 = 0 ∧ many = nI w.2 ∧ w.2 ≤ 16 ∧ n + w.2 ≤ 600 ∧ r = nI (n + w.2))) : w.1 = k ∧ (k = 0 → u.2 = r.toInt64) := by
  rcases h1 with ⟨rfl, c1, -⟩ | ⟨rfl, c2, -⟩ | ⟨rfl, e1, e2, e3, e4⟩ <;> rcases h2 with ⟨rfl, d1⟩ | ⟨rfl, d2, d3, d4⟩ | ⟨d0, d1, d2, d3, d4⟩
  · exact ⟨rfl, fun h => absurd h (by decide)⟩
  · exact (fd_no3 c1 d2 d3).elim
  · exact (fd_no1 c1 d1 d2).elim
  · exact (fd_no3 d1 c2.1 c2.2.1).elim
  · exact ⟨rfl, fun h => absurd h (by decide)⟩
  · exact (fd_no2 c2.2.2 d1 d3).elim
  · exact (fd_no1 d1 e1 e2).elim
  · exact (fd_no2 d4 e1 e3).elim
  · have := nI_inj (e1.symm.trans d1) (by omega) (by omega)
    exact ⟨d0, fun _ => by rw [e4, d4, this]⟩
theorem ag_put {n : Nat} {pl v k r : Int32} {f fm : Nat → Int32} {u : Int32 × Nat × Int64} {w : Int32 × Nat} (hn : n ≤ 600) (hf : ∀ j, j < n → f j &&& 255 = fm j)
    (h1 : k = u.1 ∧ ((k = 1 ∧ (pl < 0 ∨ nI n ≤ pl)) ∨ (k = 2 ∧ (¬ pl < 0 ∧ pl < nI n ∧ (v < 0 ∨ 255 < v))) ∨ (k = 0 ∧ pl = nI u.2.1 ∧ u.2.1 < n ∧ ¬ v < 0 ∧ v ≤ 255 ∧ u.2.2 = (f u.2.1 &&& 255).toInt64)))
    (h2 : (w.1 = 1 ∧ (pl < 0 ∨ nI n ≤ pl)) ∨ (w.1 = 2 ∧ ¬ pl < 0 ∧ pl < nI n ∧ (v < 0 ∨ 255 < v)) ∨ (w.1 = 0 ∧ pl = nI w.2 ∧ w.2 < n ∧ ¬ v < 0 ∧ v ≤ 255 ∧ r = fm w.2)) : w.1 = k ∧ (k = 0 → u.2.2 = r.toInt64) := by
  have no1 : ∀ {j : Nat}, (pl < 0 ∨ nI n ≤ pl) → pl = nI j → j < n → False := by
    intro j h e hj
    subst e
    exact h.elim (nI_pos (by omega)) (nI_ge hj (by omega))
  have no2 : (pl < 0 ∨ nI n ≤ pl) → ¬ pl < 0 → pl < nI n → False := fun h h1 h2 => h.elim h1 (Int32.not_le.mpr h2)
  have no3 : (v < 0 ∨ 255 < v) → ¬ v < 0 → v ≤ 255 → False := fun h h1 h2 => h.elim h1 (Int32.not_lt.mpr h2)
  rcases h1 with ⟨-, ⟨rfl, c1⟩ | ⟨rfl, c2, c3, c4⟩ | ⟨rfl, e1, e2, e3, e4, e5⟩⟩ <;> rcases h2 with ⟨d0, d1⟩ | ⟨d0, d1, d2, d3⟩ | ⟨d0, d1, d2, d3, d4, d5⟩
  · exact ⟨d0, fun h => absurd h (by decide)⟩
  · exact (no2 c1 d1 d2).elim
  · exact (no1 c1 d1 d2).elim
  · exact (no2 d1 c2 c3).elim
  · exact ⟨d0, fun h => absurd h (by decide)⟩
  · exact (no3 c4 d3 d4).elim
  · exact (no1 d1 e1 e2).elim
  · exact (no3 d3 e3 e4).elim
  · have := nI_inj (e1.symm.trans d1) (by omega) (by omega)
    exact ⟨d0, fun _ => by rw [e5, d5, hf _ e2, this]⟩
theorem ag_cut {n : Nat} {kc k r : Int32} {u : Nat × Int64} {w : Int32 × Nat} {o0 : Int64} (hn : n ≤ 600)
    (h1 : (k = 1 ∧ (kc < 0 ∨ nI n < kc) ∧ u = (n, o0)) ∨ (k = 0 ∧ kc = nI u.1 ∧ u.1 ≤ n ∧ u.2 = (nI (n - u.1)).toInt64))
    (h2 : (w = (1, n) ∧ (kc < 0 ∨ nI n < kc)) ∨ (w.1 = 0 ∧ kc = nI w.2 ∧ w.2 ≤ n ∧ r = nI (n - w.2))) : w.1 = k ∧ (k = 0 → u.2 = r.toInt64) := by
  have no1 : ∀ {j : Nat}, (kc < 0 ∨ nI n < kc) → kc = nI j → j ≤ n → False := by
    intro j h e hj
    subst e
    exact h.elim (nI_pos (by omega)) (nI_nlt hj (by omega))
  rcases h1 with ⟨rfl, c1, -⟩ | ⟨rfl, e1, e2, e3⟩ <;> rcases h2 with ⟨rfl, d1⟩ | ⟨d0, d1, d2, d3⟩
  · exact ⟨rfl, fun h => absurd h (by decide)⟩
  · exact (no1 c1 d1 d2).elim
  · exact (no1 d1 e1 e2).elim
  · have := nI_inj (e1.symm.trans d1) (by omega) (by omega)
    exact ⟨d0, fun _ => by rw [e3, d3, this]⟩
theorem ag_limit {mm mb wh k z r : Int32} {u : (Int32 × Int32) × Int64} {w : Int32 × Int32 × Int32} {o0 : Int64}
    (h1 : (z = 1 ∧ (wh < 0 ∨ 1 < wh ∨ k < 0 ∨ 600 < k) ∧ u = ((mm, mb), o0)) ∨ (z = 0 ∧ ¬ k < 0 ∧ k ≤ 600 ∧ ((wh = 0 ∧ u = ((k, mb), mm.toInt64)) ∨ (wh = 1 ∧ u = ((mm, k), mb.toInt64)))))
    (h2 : (w = (1, mm, mb) ∧ (wh < 0 ∨ 1 < wh ∨ k < 0 ∨ 600 < k)) ∨ (w.1 = 0 ∧ ¬ k < 0 ∧ k ≤ 600 ∧ ((wh = 0 ∧ r = mm ∧ w.2 = (k, mb)) ∨ (wh = 1 ∧ r = mb ∧ w.2 = (mm, k))))) : w.1 = z ∧ (z = 0 → u.2 = r.toInt64) := by
  have no1 : (wh < 0 ∨ 1 < wh ∨ k < 0 ∨ 600 < k) → ¬ k < 0 → k ≤ 600 → (wh = 0 ∨ wh = 1) → False := by
    intro h g1 g2 g3
    rcases g3 with rfl | rfl <;> rcases h with h | h | h | h
    · exact absurd h (by decide)
    · exact absurd h (by decide)
    · exact g1 h
    · exact Int32.not_lt.mpr g2 h
    · exact absurd h (by decide)
    · exact absurd h (by decide)
    · exact g1 h
    · exact Int32.not_lt.mpr g2 h
  rcases h1 with ⟨rfl, c1, -⟩ | ⟨rfl, e1, e2, e3⟩ <;> rcases h2 with ⟨rfl, d1⟩ | ⟨d0, d1, d2, d3⟩
  · exact ⟨rfl, fun h => absurd h (by decide)⟩
  · exact (no1 c1 d1 d2 (d3.elim (fun h => Or.inl h.1) (fun h => Or.inr h.1))).elim
  · exact (no1 d1 e1 e2 (e3.elim (fun h => Or.inl h.1) (fun h => Or.inr h.1))).elim
  · refine ⟨d0, fun _ => ?_⟩
    rcases e3 with ⟨rfl, rfl⟩ | ⟨rfl, rfl⟩ <;> rcases d3 with ⟨q, d3, -⟩ | ⟨q, d3, -⟩
    · rw [d3]
    · exact absurd q (by decide)
    · exact absurd q (by decide)
    · rw [d3]
/-- which classes and array classes there are -/
theorem tw_Kex {s : State} (hB : tw_B s) (sk sv : Nat → Nat) : ∃ g : tw_G, va_K g.1 classes (tw_ty g) s ∧ g.2.2 = (sk, sv) := by
  have hts := hB.at (args := #[])
  have ar : ∀ {ty : FieldType}, (∀ (U : State) (q : ClassId), va_RA U q ty = (U.vm.findClass ("[" ++ ty.toString) = some q)) → (Cond.arrayClass ty).before #[] s = true → ∃ cA : ClassId, ArrOfT s cA ty ∧ va_RA s cA ty := by
    intro ty hra h
    obtain ⟨cA, kA, comp, hfind, hk, hkind⟩ := Cond.arrayClass_spec h
    exact ⟨cA, fun n z => ⟨fun k h => (by cases h), kA, hk, comp, hkind⟩, by rw [hra]; exact hfind⟩
  obtain ⟨c0, a0, b0⟩ := ar (ty := .int) (fun _ _ => rfl) (hts _ wd_94)
  obtain ⟨c1, a1, b1⟩ := ar (ty := .byte) (fun _ _ => rfl) (hts _ wd_52)
  obtain ⟨c2, a2, b2⟩ := ar (ty := .long) (fun _ _ => rfl) (hts _ wd_210)
  obtain ⟨c3, a3, b3⟩ := ar (ty := .boolean) (fun _ _ => rfl) (hts _ wd_1434)
  obtain ⟨k0, i0, h0⟩ := u_known hts in_Finding (hts _ wd_54)
  obtain ⟨k1, i1, h1⟩ := u_known hts in_Frames (hts _ wd_220)
  obtain ⟨k2, i2, h2⟩ := u_known hts in_Image (hts _ wd_37)
  obtain ⟨k3, i3, h3⟩ := u_known hts in_Layout (hts _ wd_212)
  obtain ⟨k4, i4, h4⟩ := u_known hts in_Linker (hts _ wd_115)
  obtain ⟨k5, i5, h5⟩ := u_known hts in_Machine (hts _ wd_137)
  obtain ⟨k6, i6, h6⟩ := u_known hts in_Policy (hts _ wd_70)
  obtain ⟨k7, i7, h7⟩ := u_known hts in_Reader (hts _ wd_96)
  obtain ⟨k8, i8, h8⟩ := u_known hts in_Verifier (hts _ wd_131)
  obtain ⟨k9, i9, h9⟩ := u_known hts in_Ship (hts _ wd_29)
  obtain ⟨k10, i10, h10⟩ := u_known hts in_Mod (hts _ wd_1244)
  refine ⟨((fun k => [k0, k1, k2, k3, k4, k5, k6, k7, k8, k9, k10].getD k 0, fun k => [i0, i1, i2, i3, i4, i5, i6, i7, i8, i9, i10].getD k (fun _ => 0)), (fun k => [c0, c1, c2, c3].getD k 0, sk, sv)), ⟨fun c q hc => ?_, fun k q hk => ?_⟩, rfl⟩
  · have hlt : c < 11 := (List.getElem?_eq_some_iff.mp hc).1
    rcases (show c = 0 ∨ c = 1 ∨ c = 2 ∨ c = 3 ∨ c = 4 ∨ c = 5 ∨ c = 6 ∨ c = 7 ∨ c = 8 ∨ c = 9 ∨ c = 10 by omega) with rfl | rfl | rfl | rfl | rfl | rfl | rfl | rfl | rfl | rfl | rfl <;> cases hc
    · exact h0
    · exact h1
    · exact h2
    · exact h3
    · exact h4
    · exact h5
    · exact h6
    · exact h7
    · exact h8
    · exact h9
    · exact h10
  · have hlt : k < 4 := (List.getElem?_eq_some_iff.mp hk).1
    rcases (show k = 0 ∨ k = 1 ∨ k = 2 ∨ k = 3 by omega) with rfl | rfl | rfl | rfl <;> cases hk
    · exact ⟨a0, b0⟩
    · exact ⟨a1, b1⟩
    · exact ⟨a2, b2⟩
    · exact ⟨a3, b3⟩
