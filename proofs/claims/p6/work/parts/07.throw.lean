/-! Methods that may throw: their contract, the row that makes and throws an exception, the call of such a method, and the row that catches. -/
abbrev tw_sp : List Cond := [.laysStatic "java/lang/Throwable" "UNASSIGNED_STACK" "[Ljava/lang/StackTraceElement;", .laysStatic "java/lang/Throwable" "SUPPRESSED_SENTINEL" "Ljava/util/List;", .isRef (.static "java/lang/Throwable" "UNASSIGNED_STACK" "[Ljava/lang/StackTraceElement;"), .isRef (.static "java/lang/Throwable" "SUPPRESSED_SENTINEL" "Ljava/util/List;")]
theorem tw_atoms {args : Array Value} {s : State} {A : Nat → Prop} {L : List Cond} (ps : List Nat) (hp : L = ps.filterMap (fun i => (tw_sp ++ tables_1)[i]?)) (hk : L.all (fun w => tw_ok w || decide (w ∈ tw_sp)) = true) (hts : ∀ w ∈ tw_tbl, w.before args s = true) (hX : tw_X A s s.heap) : ∀ w ∈ L, w.before args s = true := by
  intro w hw
  have h1 := List.all_eq_true.mp hk w hw
  have h2 : w ∈ tw_sp ++ tables_1 := by
    rw [hp] at hw
    obtain ⟨i, -, hi⟩ := List.mem_filterMap.mp hw
    exact List.mem_of_getElem? hi
  by_cases h3 : w ∈ tw_sp
  · simp only [List.mem_cons, List.not_mem_nil, or_false] at h3
    rcases h3 with rfl | rfl | rfl | rfl
    · exact hX.1.lays
    · exact hX.2.lays
    · exact hX.1.isRef
    · exact hX.2.isRef
  · simp only [h3, decide_false, Bool.or_false] at h1
    rcases List.mem_append.mp h2 with h | h
    · exact absurd h h3
    · exact hts w (List.mem_filter.mpr ⟨List.mem_append_right _ h, h1⟩)
/-- a contract of a method that returns or throws -/
def tw_MX (below : List Frame) (Qc : Array Value → State → Outcome → State → Prop) (a : Array Value) (s : State) (mc ms : Nat) (free : Addr → Prop) : State → Prop := fun t =>
  ∃ o, t.status = .running ∧ Ended t below o ∧ Qc a s o t ∧ s.WarmedH t.vm ∧ ∃ L, s.sameButNew ({ t with vm := s.vm } : State) L mc ms ∧ ∀ q ∈ L, free q.base
def tw_Met (l : Launch) (y : MethodName) (ws : List Cond) (rm : Room) (Pc : Array Value → State → Prop) (Qc : Array Value → State → Outcome → State → Prop) (mc ms : Nat) (free : Addr → Prop) : Prop :=
  MetFree l y (headSpec ws rm) Pc (fun _ _ _ _ _ => True) (fun a st o t => Qc a st o t ∧ st.WarmedH t.vm ∧ ∃ L, st.sameButNew ({ t with vm := st.vm } : State) L mc ms ∧ ∀ q ∈ L, free q.base)
theorem tw_metX {l : Launch} {g : tw_G} {y : MethodName} {cc : ByteArray} {maxL : Nat} {ret : Option FieldType} {av : List Value} {ws : va_W} {sz : Nat} {rm : Room} {Qc : (Nat → Prop) → Array Value → State → Outcome → State → Prop} {mc ms : Nat}
    (hy : plainName y.cls = true) (hn : (lg_sl av).length ≤ maxL)
    (body : ∀ (p : Program) (e : Env) (s : State) (m : MethodId) (below : List Frame) (meth : Method) (c : Code) (ls : Array Slot) (A : Nat → Prop), tw_E p s m av.toArray meth c cc maxL ret y.cls y.name → tw_B s → va_K g.1 classes (tw_ty g) s → tw_CX g A s s.heap → va_P g.1 classes ws s.heap → va_D A ws → va_S A s.heap s.heap [] → (∀ q, s.heap.size ≤ q → A q) → lv_has ls maxL (lv_args 0 av) → c.exceptionTable.toList = [] →
      W p l e rm s m av.toArray below meth c s.heap [] 0 0 (tw_MX below (Qc A) av.toArray s mc ms A) (F0 m 0 ls [])) :
    tw_Met l y [.code y cc maxL ret] rm (tw_P g av ws sz) (Qc (va_A ws sz)) mc ms (va_A ws sz) := by
  refine MetFree.of_bodyS (code := cc) (maxLocals := maxL) (ret := ret) hy ?_ ?_
  · intro args s m h hn
    obtain ⟨meth, c, h1, h2, h3, h4, h5, h6, -, -⟩ := Cond.code_spec hn (atoms_spec (ws := [.code y cc maxL ret]) h _ List.mem_cons_self)
    exact ⟨meth, c, h1, h2, h3, h4, h5, h6⟩
  · intro p e s m args below meth c s₁ B hml hP _
    have hh0 : s₁.heap = s.heap := by rw [B.state]; rfl
    obtain ⟨rfl, hsz, hB, hK, hP, hD0, hZ⟩ := hP
    obtain ⟨hD, hA, hS⟩ := tw_own hsz hD0
    have hl := lv_entry av (n := maxL) hn
    have hno : c.exceptionTable.toList = [] := by
      have := B.noHandlers (atoms_spec (ws := [.code y cc maxL ret]) B.pre _ List.mem_cons_self)
      simpa using this
    have K : W p l e rm s m av.toArray below meth c s.heap [] 0 0 (tw_MX below (Qc (va_A ws sz)) av.toArray s mc ms (va_A ws sz)) (entryFrame m av.toArray maxL) := by
      rw [lg_entry_eq]
      exact body p e s m below meth c _ _ ⟨B.exec, B.bytes, hml, B.returns, findClass_of_methodNamed B.named, hB.at, B.notSynchronized, (name_of_methodNamed B.named B.method).1⟩ hB hK hZ hP hD hS hA hl hno
    obtain ⟨t, a1, o, b1, b2, b3⟩ := K s₁ hh0 (Stand.of_body B)
    exact ⟨t, o, a1, b1, b2, b3⟩
section TWX
variable {p : Program} {l : Launch} {e : Env} {R : Room} {s : State} {m : MethodId} {args : Array Value} {below : List Frame} {meth : Method} {c : Code} {H : Heap} {locs : List Loc} {cells slots : Nat} {Q : State → Prop}
variable {cc : ByteArray} {pc nL : Nat} {ls : Array Slot} {rest st0 : List Value} {A : Nat → Prop} {g : tw_G} {rt : Option FieldType} {own nm : String} {ws wc wr : va_W} {mc ms : Nat}
theorem tw_mono {Q2 : State → Prop} {f : JFrame} (h : ∀ t, Q t → Q2 t) (k : W p l e R s m args below meth c H locs cells slots Q f) : W p l e R s m args below meth c H locs cells slots Q2 f := by
  intro T hT X
  obtain ⟨t, a, b⟩ := k T hT X
  exact ⟨t, a, h t b⟩
theorem tw_MX.of {Qc : Array Value → State → Outcome → State → Prop} {free : Addr → Prop} {t : State} (h : MQ below Qc args s mc ms free t) : tw_MX below Qc args s mc ms free t := by
  obtain ⟨o, h1, h2, h3, L, hF, hL⟩ := h
  exact ⟨o, h1, h2, h3, hF.2.1, L, hF.2.2, hL⟩
/-- new X; dup; invokespecial X.<init>(); athrow -/
theorem tw_throw {X : String} {names : List String} {ia ic : Nat} {Qc : Array Value → State → Outcome → State → Prop} {free : Addr → Prop} (E : tw_E p s m args meth c cc nL rt own nm) (hfl : l.flags = flags0) (hno : c.exceptionTable.toList = []) (hcls : Bundle.fit X = true) (hnames : ∀ n ∈ names, Bundle.fit n = true)
    (hat : ∀ a ∈ Bundle.ownAtoms0 own ic X names, a.before args s = true) (hcl : (Cond.classLink own ia X).before args s = true) (hini : (Cond.initialized X).before args s = true) (hls : ls.size = nL)
    (hRf : names.length + 3 < R.frames) (hRl : 1 + (13 * (names.length + 1) + 41) ≤ R.locals) (hRc : 1 ≤ R.cells) (hRs : 6 ≤ R.slots)
    (hq : ∀ t : State, (∃ ce : Cell, t.heap[s.heap.size]? = some ce ∧ ce.vm.isStatics = false ∧ s.vm.findClass X = some ce.cls) → (∀ q : Nat, q < s.heap.size → t.heap[q]? = s.heap[q]?) → s.heap.size ≤ t.heap.size → s.WarmedH t.vm → Qc args s (.threw s.heap.size) t)
    (d0 : decode cc pc = .ok (.new ia, 3)) (d3 : decode cc (pc + 3) = .ok (.dup, 1)) (d4 : decode cc (pc + 4) = .ok (.invokespecial ic, 3)) (d7 : decode cc (pc + 7) = .ok (.athrow, 1)) :
    W p l e R s m args below meth c s.heap [] 0 0 (tw_MX below Qc args s 1 6 free) (F0 m pc ls []) := by
  obtain ⟨hx, hb, hml, hr, hown, hts, hlocks, hin⟩ := E
  have hins : (Cond.instantiable X 6).before args s = true := hat _ (by simp [Bundle.ownAtoms0])
  obtain ⟨cX, kX, hfX, hkX, -⟩ := Cond.instantiable_spec hins
  refine W.newcK hx hb hown hcl hins hini (g := F0 m pc ls []) rfl d0 (by omega) (by omega) hfX rfl (fun H1 kC hkC e1 z1 o1 => ?_)
  refine W.eq (g2 := F0 m (pc + 3) ls [.ref s.heap.size]) rfl ?_
  refine lv_dup hx hb d3 rfl ?_
  intro T hT XT
  have htr : e.platform.stackTraces = false := Launch.traces_off hfl XT.admits
  have hcell : T.heap[s.heap.size]? = some (freshCell cX kC) := by rw [hT]; exact e1
  obtain ⟨U, hsteps, hrun, hend, hW, hsame, ce, hce, K⟩ := XT.ctorThrow0 hx htr (own := own) (cls := X) (names := names) (ic := ic) hown hcls hnames hat (fun y hy => by cases hy) hfX hkC hcell (Nat.le_refl _)
    (g := F0 m (pc + 3 + 1) ls [.ref s.heap.size, .ref s.heap.size]) rfl (by rw [hml]; exact hls) rfl rfl (rest := []) rfl (by rw [hb]; exact d4) (by rw [hb]; exact d7) (by rw [hno]; exact fun x hx => by cases hx) hRf (by show 2 * 0 + _ + _ ≤ _; simpa [Value.category] using hRl) hlocks
  refine ⟨U, hsteps, .threw s.heap.size, hrun, hend, hq U ⟨ce, hce, by rw [K.vm]; rfl, K.cls⟩ ?_ hsame.2.1 hW, hW, [], hsame, fun q h => by cases h⟩
  intro q hlt
  obtain ⟨cq, hcq⟩ : ∃ cq, s.heap[q]? = some cq := ⟨_, Array.getElem?_eq_getElem hlt⟩
  obtain ⟨c', h1, h2, h3, h4⟩ := hsame.2.2.2.2.2 q cq hcq
  have h1 : U.heap[q]? = some c' := h1
  rw [h1, hcq, h2]
  have h5 : c'.slots = cq.slots := Array.ext_getElem? (fun i => h4 i (by simp))
  rw [h5]
/-- a walk that goes on with an exception on its way -/
def tw_WT (p : Program) (l : Launch) (e : Env) (R : Room) (s : State) (m : MethodId) (args : Array Value) (below : List Frame) (meth : Method) (c : Code) (H : Heap) (locs : List Loc) (cells slots : Nat) (Q : State → Prop) (g : JFrame) (x : Nat) : Prop :=
  ∀ T : State, T.heap = H → Stand p l e R s m args below meth c T locs cells slots → ∃ t, Steps p.tables e below ((T.setTop g).pushFrame (.throwing x)) t ∧ Q t
end TWX
