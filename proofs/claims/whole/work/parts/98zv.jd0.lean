def SL64 (sk lo : Nat → Int32) (i : Nat) : Prop := ∃ s o, sk i = nI s ∧ s ≤ 64 ∧ lo i = nI o ∧ o ≤ 64
theorem rl_cdx {ca sk lo bg ln xf xt : Nat → Int32} {xn i : Nat} (h : CDX ca sk lo bg ln xf xt xn i) (hc : ¬ ca i ≤ 0) : CDO sk lo bg ln xf xt xn i := h.resolve_left (fun e => hc (by rw [e]; decide))
