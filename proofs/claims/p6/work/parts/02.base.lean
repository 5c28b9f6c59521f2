/-! The base of all walks: which words of the tables every state of a run keeps; the classes and array classes; a contract's start and end; rows that make a call with its cut and its join in one. -/
def tw_ok : Cond → Bool
  | .fieldLinkNest .. => true
  | .methodLinkNest .. => true
  | .castable .. => true
  | .declares .. => true
  | w => goodWord w
def tw_tbl : List Cond := lw_tbl.filter tw_ok
def tw_B (U : State) : Prop := ∀ w ∈ tw_tbl, w.before #[] U = true
theorem tw_in {w : Cond} (i : Nat) (h : tables_1[i]? = some w) (hk : tw_ok w = true) : w ∈ tw_tbl := List.mem_filter.mpr ⟨List.mem_append_right _ (List.mem_of_getElem? h), hk⟩
theorem tw_inS {y : MethodName} {n : Nat} {L : List (MethodName × Nat)} (hL : ∀ q ∈ L, q ∈ lw_privs) (i : Nat) (h : L[i]? = some (y, n)) : Cond.selects y.cls y y ∈ tw_tbl :=
  List.mem_filter.mpr ⟨List.mem_append_left _ (List.mem_map.mpr ⟨(y, n), hL _ (List.mem_of_getElem? h), rfl⟩), rfl⟩
theorem tw_B.warm {s U : State} (hW : s.WarmedH U.vm) (h : tw_B s) : tw_B U := by
  intro w hw
  have h0 := h w hw
  have hk := (List.mem_filter.mp hw).2
  cases w with
  | fieldLinkNest a i b n d hh => exact va_Nw.warmF hW h0
  | methodLinkNest a i x hh => exact va_Nw.warmM hW h0
  | castable C T => exact va_Nw.warmC hW h0
  | declares x => exact va_tabs rfl (rfl : (s.setVm U.vm).vm = U.vm) (by rw [Cond.declares_setVm hW.alike]; exact h0)
  | _ => exact word_at hW (good_of_word hk) h0
theorem tw_B.at {s : State} {args : Array Value} (h : tw_B s) : ∀ w ∈ tw_tbl, w.before args s = true := by
  intro w hw
  have h0 := h w hw
  have hk := (List.mem_filter.mp hw).2
  cases w with
  | fieldLinkNest a i b n d hh => exact va_any rfl h0
  | methodLinkNest a i x hh => exact va_any rfl h0
  | castable C T => exact va_any rfl h0
  | declares x => exact va_any rfl h0
  | _ => exact word_at (State.WarmedH.refl s) (good_of_word hk) h0
theorem tw_B.of {s : State} {args : Array Value} (h : ∀ w ∈ lw_tbl, w.before args s = true) : tw_B s := by
  intro w hw
  have h0 := h w (List.mem_filter.mp hw).1
  have hk := (List.mem_filter.mp hw).2
  cases w with
  | fieldLinkNest a i b n d hh => exact va_any rfl h0
  | methodLinkNest a i x hh => exact va_any rfl h0
  | castable C T => exact va_any rfl h0
  | declares x => exact va_any rfl h0
  | _ => exact word_at (State.WarmedH.refl s) (good_of_word hk) h0
theorem tw_good {w : Cond} (h : w ∈ tw_tbl) (hk : goodWord w = true) : GoodIn tw_tbl [w] := by
  intro v hv
  cases List.mem_singleton.mp hv
  exact ⟨h, good_of_word hk⟩
