/-! What every walk may ask of the heap beside its own cells, and nobody writes: the statics that an exception reads, the String constants; and which exception is not of which class. -/
abbrev tw_G : Type := va_G × (Nat → ClassId) × (Nat → Nat) × (Nat → Nat)
def tw_Z1 (C n d : String) (A : Nat → Prop) (U : State) (H : Heap) : Prop := ∃ (c : ClassId) (k : Class) (i : Nat) (f : Field) (a : Nat) (cell : Cell) (v : Value), U.vm.findClass C = some c ∧ U.fieldFound? C n d = some (c, k, i, f) ∧ f.isStatic = true ∧ k.statics = some a ∧ H[a]? = some cell ∧ cell.vm.isStatics = true ∧ cell.cls = c ∧ f.slot < cell.slots.size ∧ k.staticTypes[f.slot]? = some f.type ∧ cell.slots[f.slot]? = some v ∧ (v = .null ∨ ∃ t, v = .ref t) ∧ ¬ A a
theorem tw_Z1.moved {C n d : String} {A : Nat → Prop} {u U : State} {H : Heap} (hvm : u.vm.Alike U.vm) (h : tw_Z1 C n d A u H) : tw_Z1 C n d A U H := by
  obtain ⟨c, k, i, f, a, cell, v, h0, h1, h2, h3, h4, h5, h6, h7, h8, h9⟩ := h
  obtain ⟨k', hi', he⟩ := State.fieldFound?_setVm hvm h1
  exact ⟨c, k', i, f, a, cell, v, by rw [hvm.findClass]; exact h0, hi', h2, by rw [he]; exact h3, h4, h5, h6, h7, by rw [he]; exact h8, h9⟩
theorem tw_Z1.kept {C n d : String} {A : Nat → Prop} {U : State} {H H1 : Heap} (h : tw_Z1 C n d A U H) (hq : ∀ a : Nat, a < H.size → ¬ A a → H1[a]? = H[a]?) : tw_Z1 C n d A U H1 := by
  obtain ⟨c, k, i, f, a, cell, v, h0, h1, h2, h3, h4, h5, h6, h7, h8, h9, h10, h11⟩ := h
  exact ⟨c, k, i, f, a, cell, v, h0, h1, h2, h3, by rw [hq a (Array.getElem?_eq_some_iff.mp h4).1 h11]; exact h4, h5, h6, h7, h8, h9, h10, h11⟩
theorem tw_Z1.narrow {C n d : String} {A B : Nat → Prop} {U : State} {H : Heap} (h : tw_Z1 C n d A U H) (hAB : ∀ q, B q → A q) : tw_Z1 C n d B U H := by
  obtain ⟨c, k, i, f, a, cell, v, h0, h1, h2, h3, h4, h5, h6, h7, h8, h9, h10, h11⟩ := h
  exact ⟨c, k, i, f, a, cell, v, h0, h1, h2, h3, h4, h5, h6, h7, h8, h9, h10, fun z => h11 (hAB a z)⟩
theorem tw_Z1.of {args : Array Value} {s : State} {C n d : String} {A : Nat → Prop} (hl : (Cond.laysStatic C n d).before args s = true) (h : (Cond.isRef (.static C n d)).before args s = true) (hA : ∀ a : Nat, a < s.heap.size → ¬ A a) : tw_Z1 C n d A s s.heap := by
  obtain ⟨c, k, i, f, a, cell, hc, hi, hst, ha, hcell, hs, hcls, hlt, hty⟩ := Cond.laysStatic_spec hl
  cases hv : (Term.static C n d).eval args s none [] s with
  | none => simp [Cond.before, Cond.holds, Cond.value, hv] at h
  | some w =>
    obtain ⟨-, a', cell', ha', hcell', -, hslot⟩ := Term.static_spec hi hv
    cases ha.symm.trans ha'
    cases hcell.symm.trans hcell'
    simp only [Cond.before, Cond.holds, Cond.value, hv] at h
    refine ⟨c, k, i, f, a, cell, w, hc, hi, hst, ha, hcell, hs, hcls, hlt, hty, hslot, ?_, hA a (Array.getElem?_eq_some_iff.mp hcell).1⟩
    cases w with
    | null => exact Or.inl rfl
    | ref t => exact Or.inr ⟨t, rfl⟩
    | _ => simp at h
theorem tw_Z1.lays {args : Array Value} {C n d : String} {A : Nat → Prop} {U : State} (h : tw_Z1 C n d A U U.heap) : (Cond.laysStatic C n d).before args U = true := by
  obtain ⟨c, k, i, f, a, cell, v, h0, h1, h2, h3, h4, h5, h6, h7, h8, h9, h10, h11⟩ := h
  exact Cond.laysStatic_of h0 h1 h2 h3 h4 h5 h6 h7 h8
theorem tw_Z1.isRef {args : Array Value} {C n d : String} {A : Nat → Prop} {U : State} (h : tw_Z1 C n d A U U.heap) : (Cond.isRef (.static C n d)).before args U = true := by
  obtain ⟨c, k, i, f, a, cell, v, h0, h1, h2, h3, h4, h5, h6, h7, h8, h9, h10, h11⟩ := h
  have hv : (Term.static C n d).eval args U none [] U = some v := Term.static_eval h1 h2 h3 h4 h5 h9
  rcases h10 with rfl | ⟨t, rfl⟩ <;> simp [Cond.before, Cond.holds, Cond.value, hv]
/-- the statics that a new exception reads; the flag; which exception is not of which class -/
def tw_X (A : Nat → Prop) (U : State) (H : Heap) : Prop := tw_Z1 "java/lang/Throwable" "UNASSIGNED_STACK" "[Ljava/lang/StackTraceElement;" A U H ∧ tw_Z1 "java/lang/Throwable" "SUPPRESSED_SENTINEL" "Ljava/util/List;" A U H
theorem tw_X.moved {A : Nat → Prop} {u U : State} {H : Heap} (hvm : u.vm.Alike U.vm) (h : tw_X A u H) : tw_X A U H := ⟨h.1.moved hvm, h.2.moved hvm⟩
theorem tw_X.kept {A : Nat → Prop} {U : State} {H H1 : Heap} (h : tw_X A U H) (hq : ∀ a : Nat, a < H.size → ¬ A a → H1[a]? = H[a]?) : tw_X A U H1 := ⟨h.1.kept hq, h.2.kept hq⟩
theorem tw_X.narrow {A B : Nat → Prop} {U : State} {H : Heap} (h : tw_X A U H) (hAB : ∀ q, B q → A q) : tw_X B U H := ⟨h.1.narrow hAB, h.2.narrow hAB⟩
def tw_N (U : State) : Prop := (Cond.not (.castable "java/lang/IllegalStateException" "java/lang/IllegalArgumentException")).before #[] U = true ∧ (Cond.not (.castable "java/lang/IllegalArgumentException" "java/lang/IndexOutOfBoundsException")).before #[] U = true ∧ (Cond.not (.castable "java/lang/IllegalArgumentException" "java/lang/IllegalStateException")).before #[] U = true
theorem tw_nc {a b : String} {args args' : Array Value} {s U : State} (hal : s.vm.Alike U.vm) (h : (Cond.not (.castable a b)).before args s = true) : (Cond.not (.castable a b)).before args' U = true := by
  have hv := Cond.holds_not_iff.mp h
  refine Cond.holds_not_iff.mpr ?_
  simp only [Cond.value] at hv ⊢
  rw [hal.findClass, hal.findClass]
  cases h1 : s.vm.findClass a with
  | none => rw [h1] at hv; simp at hv
  | some x =>
    cases h2 : s.vm.findClass b with
    | none => rw [h1, h2] at hv; simp at hv
    | some y =>
      rw [h1, h2] at hv
      simp only [Option.some.injEq] at hv ⊢
      rw [hal.assignable]
      exact hv
theorem tw_N.moved {s U : State} (hal : s.vm.Alike U.vm) (h : tw_N s) : tw_N U := ⟨tw_nc hal h.1, tw_nc hal h.2.1, tw_nc hal h.2.2⟩
/-- the String constants: class, entry, text, bytes -/
def st_own : Nat → String × Nat × String × List Int32 := fun i => [("ShippedClass$Reader", 116, "Code", [67, 111, 100, 101]), ("ShippedClass$Linker", 86, "<init>", [60, 105, 110, 105, 116, 62]), ("ShippedClass$Linker", 143, "<clinit>", [60, 99, 108, 105, 110, 105, 116, 62]), ("ShippedClass$Policy", 105, "finalize", [102, 105, 110, 97, 108, 105, 122, 101]), ("ShippedClass$Policy", 114, "()V", [40, 41, 86]), ("ShippedClass$Machine", 178, "<init>", [60, 105, 110, 105, 116, 62]), ("ShippedClass$Opcodes", 71, "J:J", [74, 58, 74]), ("ShippedClass$Opcodes", 40, "I:I", [73, 58, 73]), ("ShippedClass$Opcodes", 73, "IJ:J", [73, 74, 58, 74]), ("ShippedClass$Opcodes", 75, "JJ:J", [74, 74, 58, 74]), ("ShippedClass$Opcodes", 77, "II:I", [73, 73, 58, 73]), ("ShippedClass$Opcodes", 38, ":I", [58, 73]), ("ShippedClass$Opcodes", 42, "I:", [73, 58]), ("ShippedClass$Opcodes", 44, "II:", [73, 73, 58]), ("ShippedClass$Opcodes", 49, ":L", [58, 76]), ("ShippedClass$Opcodes", 51, ":J", [58, 74]), ("ShippedClass$Opcodes", 53, "I:J", [73, 58, 74]), ("ShippedClass$Opcodes", 55, "J:I", [74, 58, 73]), ("ShippedClass$Opcodes", 57, "JJ:I", [74, 74, 58, 73]), ("ShippedClass$Opcodes", 59, "LL:", [76, 76, 58]), ("ShippedClass$Opcodes", 61, "J:", [74, 58]), ("ShippedClass$Opcodes", 63, "L:", [76, 58]), ("ShippedClass$Opcodes", 65, "L:I", [76, 58, 73]), ("ShippedClass$Opcodes", 67, "L:L", [76, 58, 76]), ("ShippedClass$Opcodes", 69, ":", [58])].getD i ("", 0, "", [])
def tw_S (g : tw_G) (A : Nat → Prop) (U : State) (H : Heap) : Prop := ∀ i : Nat, i < 25 → vk_S 1 [(st_own i).2.2.2.length] [(st_own i).2.2.2] (fun _ => g.2.2.1 i) (fun _ => g.2.2.2 i) A U H ∧ vk_R (st_own i).1 (st_own i).2.1 (st_own i).2.2.1 (g.2.2.1 i) U
def tw_V (A : Nat → Prop) (U : State) (H : Heap) : Prop := va_Z "java/lang/String" "COMPACT_STRINGS" "Z" (.int 1) A U H ∧ va_Zq "jdk/internal/util/Preconditions" "SIOOBE_FORMATTER" "Ljava/util/function/BiFunction;" A U H
def tw_CX (g : tw_G) (A : Nat → Prop) (U : State) (H : Heap) : Prop := tw_X A U H ∧ tw_N U ∧ tw_S g A U H ∧ tw_V A U H
theorem tw_CX.warm {g : tw_G} {A : Nat → Prop} {s U : State} {H : Heap} (hW : s.WarmedH U.vm) (h : tw_CX g A s H) : tw_CX g A U H := ⟨h.1.moved hW.alike, h.2.1.moved hW.alike, fun i hi => ⟨(h.2.2.1 i hi).1.moved hW.alike, (h.2.2.1 i hi).2.warm hW⟩, va_Z.moved hW.alike h.2.2.2.1, va_Zq.moved hW.alike h.2.2.2.2⟩
theorem tw_CX.kept {g : tw_G} {A : Nat → Prop} {U : State} {H H1 : Heap} (h : tw_CX g A U H) (hq : ∀ a : Nat, a < H.size → ¬ A a → H1[a]? = H[a]?) : tw_CX g A U H1 := ⟨h.1.kept hq, h.2.1, fun i hi => ⟨(h.2.2.1 i hi).1.kept hq, (h.2.2.1 i hi).2⟩, h.2.2.2.1.kept hq, h.2.2.2.2.kept hq⟩
theorem tw_CX.narrow {g : tw_G} {A B : Nat → Prop} {U : State} {H : Heap} (h : tw_CX g A U H) (hAB : ∀ q, B q → A q) : tw_CX g B U H := ⟨h.1.narrow hAB, h.2.1, fun i hi => ⟨(h.2.2.1 i hi).1.narrow hAB, (h.2.2.1 i hi).2⟩, h.2.2.2.1.narrow hAB, h.2.2.2.2.narrow hAB⟩
