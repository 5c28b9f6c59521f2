/-! What linking says of the constants and the members. -/
def TGv (mn : Nat) (tg : Nat → Int32) (t v : Int32) : Prop := ∃ j, 0 < j ∧ j < mn ∧ v = nI j ∧ tg j = t
def LC1 (mn : Nat) (tg on tw : Nat → Int32) (k : Nat) : Prop := (tg k = 7 ∨ tg k = 8 → TGv mn tg 1 (on k)) ∧ (tg k = 9 ∨ tg k = 10 → TGv mn tg 7 (on k) ∧ TGv mn tg 12 (tw k)) ∧ (tg k = 12 → TGv mn tg 1 (on k) ∧ TGv mn tg 1 (tw k))
section LCS
variable {mn k : Nat} {tg on tw : Nat → Int32}
theorem lc_no {x a b : Int32} (h : x = a) (h2 : x = b) (hn : ¬ a = b) : False := hn (h.symm.trans h2)
theorem LC1.a (h : tg k = 7) (h1 : TGv mn tg 1 (on k)) : LC1 mn tg on tw k := ⟨fun _ => h1, fun q => (q.elim (fun q => lc_no h q (by decide)) (fun q => lc_no h q (by decide))).elim, fun q => (lc_no h q (by decide)).elim⟩
theorem LC1.b (h : tg k = 8) (h1 : TGv mn tg 1 (on k)) : LC1 mn tg on tw k := ⟨fun _ => h1, fun q => (q.elim (fun q => lc_no h q (by decide)) (fun q => lc_no h q (by decide))).elim, fun q => (lc_no h q (by decide)).elim⟩
theorem LC1.c (h : tg k = 9) (h1 : TGv mn tg 7 (on k)) (h2 : TGv mn tg 12 (tw k)) : LC1 mn tg on tw k := ⟨fun q => (q.elim (fun q => lc_no h q (by decide)) (fun q => lc_no h q (by decide))).elim, fun _ => ⟨h1, h2⟩, fun q => (lc_no h q (by decide)).elim⟩
theorem LC1.d (h : tg k = 10) (h1 : TGv mn tg 7 (on k)) (h2 : TGv mn tg 12 (tw k)) : LC1 mn tg on tw k := ⟨fun q => (q.elim (fun q => lc_no h q (by decide)) (fun q => lc_no h q (by decide))).elim, fun _ => ⟨h1, h2⟩, fun q => (lc_no h q (by decide)).elim⟩
theorem LC1.e (h : tg k = 12) (h1 : TGv mn tg 1 (on k)) (h2 : TGv mn tg 1 (tw k)) : LC1 mn tg on tw k := ⟨fun q => (q.elim (fun q => lc_no h q (by decide)) (fun q => lc_no h q (by decide))).elim, fun q => (q.elim (fun q => lc_no h q (by decide)) (fun q => lc_no h q (by decide))).elim, fun _ => ⟨h1, h2⟩⟩
theorem LC1.f (h7 : ¬ tg k = 7) (h8 : ¬ tg k = 8) (h9 : ¬ tg k = 9) (h10 : ¬ tg k = 10) (h12 : ¬ tg k = 12) : LC1 mn tg on tw k := ⟨fun q => (q.elim h7 h8).elim, fun q => (q.elim h9 h10).elim, fun q => (h12 q).elim⟩
end LCS
def LCA (mn : Nat) (tg on tw : Nat → Int32) : Prop := ∀ j, 0 < j → j < mn → LC1 mn tg on tw j
theorem lk_pair {mn k : Nat} {tg on tw : Nat → Int32} (h : LCA mn tg on tw) (hT : TXT tg on tw) (hm : mn ≤ 620) (h0 : 0 < k) (hk : k < mn) (h9 : tg k = 9 ∨ tg k = 10) : ∃ j2 jn jt pn l1 pt l2, tw k = nI j2 ∧ j2 < 620 ∧ on j2 = nI jn ∧ tw j2 = nI jt ∧ jn < 620 ∧ jt < 620 ∧ on jn = nI pn ∧ tw jn = nI l1 ∧ pn + l1 ≤ 600 ∧ on jt = nI pt ∧ tw jt = nI l2 ∧ pt + l2 ≤ 600 := by
  obtain ⟨-, j2, a0, a1, a2, a3⟩ := (h k h0 hk).2.1 h9
  obtain ⟨⟨jn, b0, b1, b2, b3⟩, ⟨jt, c0, c1, c2, c3⟩⟩ := (h j2 a0 a1).2.2 a3
  obtain ⟨pn, l1, d1, d2, d3⟩ := hT jn (by omega) b3
  obtain ⟨pt, l2, e1, e2, e3⟩ := hT jt (by omega) c3
  exact ⟨j2, jn, jt, pn, l1, pt, l2, a2, by omega, b2, c2, by omega, by omega, d1, d2, d3, e1, e2, e3⟩
theorem lk_own {mn k : Nat} {tg on tw : Nat → Int32} (h : LCA mn tg on tw) (hT : TXT tg on tw) (hm : mn ≤ 620) (h0 : 0 < k) (hk : k < mn) (h9 : tg k = 9 ∨ tg k = 10) : ∃ j7 jo po l1, on k = nI j7 ∧ j7 < 620 ∧ on j7 = nI jo ∧ jo < 620 ∧ on jo = nI po ∧ tw jo = nI l1 ∧ po + l1 ≤ 600 := by
  obtain ⟨⟨j7, a0, a1, a2, a3⟩, -⟩ := (h k h0 hk).2.1 h9
  obtain ⟨jo, b0, b1, b2, b3⟩ := (h j7 a0 a1).1 (Or.inl a3)
  obtain ⟨po, l1, d1, d2, d3⟩ := hT jo (by omega) b3
  exact ⟨j7, jo, po, l1, a2, by omega, b2, by omega, d1, d2, d3⟩
theorem lk_cls {mn : Nat} {tg on tw : Nat → Int32} {v : Int32} (h : LCA mn tg on tw) (hT : TXT tg on tw) (hm : mn ≤ 620) (hv : TGv mn tg 7 v) : ∃ jc jo po l1, v = nI jc ∧ jc < 620 ∧ on jc = nI jo ∧ jo < 620 ∧ on jo = nI po ∧ tw jo = nI l1 ∧ po + l1 ≤ 600 := by
  obtain ⟨jc, a0, a1, a2, a3⟩ := hv
  obtain ⟨jo, b0, b1, b2, b3⟩ := (h jc a0 a1).1 (Or.inl a3)
  obtain ⟨po, l1, d1, d2, d3⟩ := hT jo (by omega) b3
  exact ⟨jc, jo, po, l1, a2, by omega, b2, by omega, d1, d2, d3⟩
def MC1 (bs tg on tw : Nat → Int32) (k : Nat) : Prop := (tg k = 9 → ∃ j2 jt p l, tw k = nI j2 ∧ j2 < 620 ∧ tw j2 = nI jt ∧ jt < 620 ∧ on jt = nI p ∧ tw jt = nI l ∧ p + l ≤ 600 ∧ 0 < l) ∧ (tg k = 10 → ∃ j2 jt p l, tw k = nI j2 ∧ j2 < 620 ∧ tw j2 = nI jt ∧ jt < 620 ∧ on jt = nI p ∧ tw jt = nI l ∧ p + l ≤ 600 ∧ MTY bs p (p + l))
def LMB (bs : Nat → Int32) (mn : Nat) (tg on tw : Nat → Int32) (fd : Nat) (na ty : Nat → Int32) (i : Nat) : Prop := (∃ x, 0 < x ∧ x < mn ∧ na i = nI x ∧ tg x = 1) ∧ (∃ x p l, 0 < x ∧ x < mn ∧ ty i = nI x ∧ tg x = 1 ∧ on x = nI p ∧ tw x = nI l ∧ p + l ≤ 600 ∧ (fd ≤ i → MTY bs p (p + l)))
