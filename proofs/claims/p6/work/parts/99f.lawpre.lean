/-! THE CLAIM OUT OF ONE WALK OF THE LAW'S BODY. Your part is whole_start (and what it stands on); all else here is the same for every law, but numbers. -/
def R_law : String := "ShippedClassLaw"
def lw_P (b : Addr) (xs : List Int32) (args : Array Value) (s : State) : Prop := args = #[.ref b] ∧ s.IntsAt b xs ∧ xs.length ≤ 3072 ∧ (Jvm.Cond.and given_1 narrow_1).before args s = true
def lw_Q (_ : Array Value) (s : State) (o : Outcome) (t : State) : Prop := o = .returned (some (.int 1)) ∧ Framed s o t [] 601024 7293034
def lw_Z (below : List Frame) (a : Array Value) (s : State) : State → Prop := fun t => ∃ o, t.status = .running ∧ Ended t below o ∧ lw_Q a s o t
/-- the law's own end, with 1 on the stack, nothing written that was there before, its room as the claim has it -/
theorem lw_ret {p : Program} {l : Launch} {e : Env} {s : State} {m : MethodId} {below : List Frame} {meth : Method} {c : Code} {b : Nat} (hx : p.tables.exec = Jvm.exec) (hb : c.code = code) (hr : meth.sig.returnType = ret) (hlocks : meth.locks = false) {pc : Nat} {H : Heap} {ls : Array Slot} (hdg : decode code pc = .ok (.ireturn, 1)) : W p l e room_1 s m #[Value.ref b] below meth c H [] 601024 7293034 (lw_Z below #[Value.ref b] s) (F0 m pc ls [.int 1]) := by
  intro T hT X
  obtain ⟨fs, hret, hrun, hended, hW, hframe⟩ := X.leave (v := some (.int 1)) (hlocks := hlocks) (fun h => by rw [hr] at h; cases h)
  have hmeth' : T.vm.method? m = some meth := X.method'
  refine ⟨T.setFrames fs, ?_, .returned (some (.int 1)), hrun, hended, rfl, ⟨_, rfl⟩, hW, hframe⟩
  jvm_step X.here [X.here.top, hx, hb, hdg, hmeth', hr, ret, narrow_b1]
  (try refine ⟨rfl, ?_⟩); (try refine ⟨rfl, ?_⟩)
  first | (intro acts; rw [hret _ acts rfl rfl rfl]) | rw [hret _ _ rfl rfl rfl]
  exact Steps.refl _
/-- what holds at the law's entry: the machine, the code, the tables' words (any of lw_tbl by 'hts w (by decide +kernel)'), the script of L ints xs at the cell b, what the Statement gives of the start (any of its parts by flat_of_before) -/
def lw_At (p : Program) (s : State) (m : MethodId) (meth : Method) (c : Code) (b L : Nat) (xs : Nat → Int32) : Prop :=
  p.tables.exec = Jvm.exec ∧ c.code = code ∧ meth.sig.returnType = ret ∧ c.maxLocals = 7 ∧ s.vm.findClass R_law = some m.cls ∧ (∀ w ∈ lw_tbl, w.before #[Value.ref b] s = true) ∧ va_X b L xs s s.heap ∧ b < s.heap.size ∧ meth.locks = false ∧ (Jvm.Cond.and given_1 narrow_1).before #[Value.ref b] s = true
theorem ln_feed : (parseMethodDescriptor y_Law_feed.desc).map (fun d => d.parameters.length) = some 7 := by decide +kernel
theorem ln_put : (parseMethodDescriptor y_Law_put.desc).map (fun d => d.parameters.length) = some 4 := by decide +kernel
theorem ln_cut : (parseMethodDescriptor y_Law_cut.desc).map (fun d => d.parameters.length) = some 3 := by decide +kernel
theorem ln_rule : (parseMethodDescriptor y_Law_rule.desc).map (fun d => d.parameters.length) = some 4 := by decide +kernel
theorem ln_limit : (parseMethodDescriptor y_Law_limit.desc).map (fun d => d.parameters.length) = some 4 := by decide +kernel
theorem ln_count : (parseMethodDescriptor y_Law_count.desc).map (fun d => d.parameters.length) = some 3 := by decide +kernel
theorem ln_text : (parseMethodDescriptor y_Law_text.desc).map (fun d => d.parameters.length) = some 5 := by decide +kernel
theorem ln_depth : (parseMethodDescriptor y_Law_depth.desc).map (fun d => d.parameters.length) = some 4 := by decide +kernel
theorem ln_kind : (parseMethodDescriptor y_Law_kind.desc).map (fun d => d.parameters.length) = some 6 := by decide +kernel
theorem lq_1 : Cond.isRef (.static "java/lang/Throwable" "UNASSIGNED_STACK" "[Ljava/lang/StackTraceElement;") ∈ flatC (Jvm.Cond.and given_1 narrow_1) := by decide +kernel
theorem lq_2 : Cond.isRef (.static "java/lang/Throwable" "SUPPRESSED_SENTINEL" "Ljava/util/List;") ∈ flatC (Jvm.Cond.and given_1 narrow_1) := by decide +kernel
theorem lq_3 : Cond.not (.castable "java/lang/IllegalStateException" "java/lang/IllegalArgumentException") ∈ flatC (Jvm.Cond.and given_1 narrow_1) := by decide +kernel
theorem lq_4 : Cond.not (.castable "java/lang/IllegalArgumentException" "java/lang/IndexOutOfBoundsException") ∈ flatC (Jvm.Cond.and given_1 narrow_1) := by decide +kernel
theorem lq_5 : Cond.not (.castable "java/lang/IllegalArgumentException" "java/lang/IllegalStateException") ∈ flatC (Jvm.Cond.and given_1 narrow_1) := by decide +kernel
/-! What the Statement gives of the Strings. -/
theorem lc_ex : ∀ i, i < 25 → Cond.exactly (.string (st_own i).1 (st_own i).2.1) "java/lang/String" ∈ flatC (Jvm.Cond.and given_1 narrow_1) := by decide +kernel
theorem lc_co : ∀ i, i < 25 → Cond.eq (.field (.string (st_own i).1 (st_own i).2.1) "java/lang/String" "coder" "B") (.int 0) ∈ flatC (Jvm.Cond.and given_1 narrow_1) := by decide +kernel
theorem lc_ar : ∀ i, i < 25 → Cond.arrayOf (.field (.string (st_own i).1 (st_own i).2.1) "java/lang/String" "value" "[B") .byte ∈ flatC (Jvm.Cond.and given_1 narrow_1) := by decide +kernel
theorem lc_le : ∀ i, i < 25 → Cond.eq (.length (.field (.string (st_own i).1 (st_own i).2.1) "java/lang/String" "value" "[B")) (.int (Int32.ofNat (st_own i).2.2.2.length)) ∈ flatC (Jvm.Cond.and given_1 narrow_1) := by decide +kernel
theorem lc_el : ∀ i, i < 25 → ∀ j, j < (st_own i).2.2.2.length → Cond.eq (.elem (.field (.string (st_own i).1 (st_own i).2.1) "java/lang/String" "value" "[B") (.int (Int32.ofNat j))) (.int ((st_own i).2.2.2.getD j 0)) ∈ flatC (Jvm.Cond.and given_1 narrow_1) := by decide +kernel
theorem lc_cs : Cond.eq (.static "java/lang/String" "COMPACT_STRINGS" "Z") (.int 1) ∈ flatC (Jvm.Cond.and given_1 narrow_1) := by decide +kernel
theorem lc_si : Cond.isRef (.static "jdk/internal/util/Preconditions" "SIOOBE_FORMATTER" "Ljava/util/function/BiFunction;") ∈ flatC (Jvm.Cond.and given_1 narrow_1) := by decide +kernel
theorem lc_str {args : Array Value} {s : State} {A : Nat → Prop} (h : ∀ w ∈ flatC (Jvm.Cond.and given_1 narrow_1), w.before args s = true) (hr : ∀ i, i < 25 → (Cond.stringRef (st_own i).1 (st_own i).2.1 (st_own i).2.2.1).before args s = true) (hA : ∀ a : Nat, a < s.heap.size → ¬ A a) : ∃ sk sv : Nat → Nat, ∀ i, i < 25 → vk_S 1 [(st_own i).2.2.2.length] [(st_own i).2.2.2] (fun _ => sk i) (fun _ => sv i) A s s.heap ∧ vk_R (st_own i).1 (st_own i).2.1 (st_own i).2.2.1 (sk i) s := by
  have h0 : ∀ i : Nat, ∃ q : Nat × Nat, i < 25 → vk_S 1 [(st_own i).2.2.2.length] [(st_own i).2.2.2] (fun _ => q.1) (fun _ => q.2) A s s.heap ∧ vk_R (st_own i).1 (st_own i).2.1 (st_own i).2.2.1 q.1 s := by
    intro i
    by_cases hi : i < 25
    · obtain ⟨aK, aV, hS, hE⟩ := vk_Sof (args := args) (N := 1) (tm := fun _ => .string (st_own i).1 (st_own i).2.1) (len := [(st_own i).2.2.2.length]) (byt := [(st_own i).2.2.2]) (A := A)
        (fun j hj => by obtain rfl : j = 0 := by omega
                        exact Nat.lt_of_le_of_lt (sl_le i hi) (by decide))
        (fun j hj => h _ (lc_ex i hi)) (fun j hj => h _ (lc_co i hi)) (fun j hj => h _ (lc_ar i hi))
        (fun j hj => by obtain rfl : j = 0 := by omega
                        exact h _ (lc_le i hi))
        (fun j hj k hk => by obtain rfl : j = 0 := by omega
                             exact h _ (lc_el i hi k hk))
        (fun j k hj hk hjk => absurd (show j = k by omega) hjk) hA
      refine ⟨(aK 0, aV 0), fun _ => ⟨⟨fun j hj => ?_, fun j k hj hk _ => by omega⟩, vk_R.of (hr i hi) (hE 0 (by decide))⟩⟩
      obtain rfl : j = 0 := by omega
      exact hS.1 0 (by decide)
    · exact ⟨(0, 0), fun hh => absurd hh hi⟩
  obtain ⟨ad, had⟩ := Classical.axiomOfChoice h0
  exact ⟨fun i => (ad i).1, fun i => (ad i).2, fun i hi => had i hi⟩
