/-! The call of a method that may throw, and the catch in the caller. -/
section TWC
variable {p : Program} {l : Launch} {e : Env} {R : Room} {s : State} {m : MethodId} {args : Array Value} {below : List Frame} {meth : Method} {c : Code} {H : Heap} {locs : List Loc} {cells slots : Nat} {Q : State → Prop}
variable {cc : ByteArray} {pc nL : Nat} {ls : Array Slot} {rest st0 : List Value} {A : Nat → Prop} {g : tw_G} {rt : Option FieldType} {own nm : String} {ws wc wr : va_W} {mc ms : Nat}
variable {y : MethodName} {bytes : ByteArray} {maxL idx n : Nat} {ret : Option FieldType} {rm : Room} {Pc : Array Value → State → Prop} {Qc : Array Value → State → Outcome → State → Prop} {free : Addr → Prop} {As : List Value} {b : Nat}
theorem tw_backX (hM : tw_Met l y [.code y bytes maxL ret] rm Pc Qc mc ms free) (hbl : FrameBlind Pc) (hrc : rm.cells = mc) (hrs : rm.slots = ms) (hfr : rm.frames + 1 ≤ R.frames) (hlo : 8 + (maxL + 11) + rm.locals ≤ R.locals) {U : State} (X : Stand p l e R s m args below meth c U locs cells slots)
    {f : JFrame} (hg : f.method = m) (hsize : f.locals.size = c.maxLocals) {ig : Instr} {len : Nat} (hdg : decode c.code f.pc = .ok (ig, len)) {mk : MethodId} (hn : U.methodNamed? y = some mk) {a : Array Value} (hcode : ∀ a, (Cond.code y bytes maxL ret).before a U = true) (hini : (Cond.initialized y.cls).before a U = true) (hW : 2 * f.monitorRoom + (f.stack.map fun v => v.category).sum ≤ 8)
    (hcells : cells + mc ≤ R.cells) (hslots : slots + ms ≤ R.slots) (hPc : Pc a U) :
    ∃ (o : Outcome) (t B : State) (L : List Loc), Stand p l e R s m args below meth c B (locs ++ L) (cells + mc) (slots + ms) ∧ B.heap = t.heap ∧ B.vm = t.vm ∧ Qc a (U.calling f mk a) o t ∧ (∀ q ∈ L, free q.base) ∧
      (∀ v, o = .returned v → Steps p.tables e below (doInvoke e (U.setTop f) [] mk a).1 (B.setTop { f with pc := f.pc + len, stack := v.toList ++ f.stack })) ∧ (∀ x, o = .threw x → Steps p.tables e below (doInvoke e (U.setTop f) [] mk a).1 ((B.setTop f).pushFrame (.throwing x))) := by
  obtain ⟨methY, cY, hmY, hcY, -, hlY, -, -, -, -⟩ := Cond.code_spec hn (hcode a)
  obtain ⟨kY, hkY, -⟩ := className_of_methodNamed hn
  have hinitY : kY.init = .initialized := Cond.initialized_spec (findClass_of_methodNamed hn) hkY hini
  have h : At U f.method c below := by rw [hg]; exact X.here
  have happ : (headSpec [.code y bytes maxL ret] rm).appliesLoose y e.platform (U.calling f mk a) = true :=
    Spec.appliesLoose_calling (g := f) h hdg hn hkY hinitY
      (X.room_calling (g := f) (R' := rm) hsize hmY hcY hfr (by rw [hlY]; omega) (by rw [hrc]; exact hcells) (by rw [hrs]; exact hslots)) (atoms_intro fun w hw => by cases List.mem_singleton.mp hw; exact hcode a)
  obtain ⟨mid, hmid⟩ := h.above
  have hfr2 : (U.setTop f).frames = (.java f :: mid) ++ below := by rw [State.frames_setTop' f h.top, hmid]; rfl
  obtain ⟨o, s₂, hsteps, -, hend, hq⟩ := Steps.callFree hM p X.admits X.cas X.clock (acts := []) hfr2 happ (hbl _ _ _ _ hPc) trivial
  have hq' : Qc a (U.calling f mk a) o s₂ ∧ (U.calling f mk a).WarmedH s₂.vm ∧ ∃ L, (U.calling f mk a).sameButNew ({ s₂ with vm := (U.calling f mk a).vm } : State) L mc ms ∧ ∀ q ∈ L, free q.base := hq
  rw [State.frames_setTop' f h.top] at hend
  obtain ⟨hQ, hW₂, L, ⟨e2, q2, q3, q4, q5, q6⟩, hL⟩ := hq'
  have e3 : s₂ = ({ (U.calling f mk a).setFrames s₂.frames with heap := s₂.heap, slotsUsed := s₂.slotsUsed } : State).setVm s₂.vm := by
    have : s₂ = ({ s₂ with vm := (U.calling f mk a).vm } : State).setVm s₂.vm := rfl
    rw [e2] at this
    exact this
  have hW' : U.WarmedH s₂.vm := hW₂
  obtain ⟨g₀, hg0⟩ := Option.isSome_iff_exists.mp h.top
  obtain ⟨r, hr⟩ := State.topJava?_eq_some.mp hg0
  have hr' : (({ U with heap := s₂.heap, slotsUsed := s₂.slotsUsed } : State).setVm s₂.vm).frames = .java g₀ :: r := hr
  have hsame : U.sameButNew ({ U with heap := s₂.heap, slotsUsed := s₂.slotsUsed } : State) L mc ms := by
    refine ⟨?_, q2, q3, q4, q5, q6⟩
    obtain ⟨t, ht, -⟩ := State.frames_cons hr
    show ({ U with heap := s₂.heap, slotsUsed := s₂.slotsUsed } : State) = { U.setFrames U.frames with heap := s₂.heap, slotsUsed := s₂.slotsUsed }
    rw [State.setFrames_self ht]
  subst hg
  refine ⟨o, s₂, (({ U with heap := s₂.heap, slotsUsed := s₂.slotsUsed } : State).setVm s₂.vm), L,
    ⟨X.admits, X.cas, X.clock, X.frames, X.room, X.hears, X.method, X.code, (X.here.setHeapUsed s₂.heap s₂.slotsUsed).setVm hW'.alike, X.tail, State.WarmedH.trans X.warmed hW', X.limits, X.bytes, X.same.trans (hsame.setVm s.vm)⟩, rfl, rfl, hQ, hL, ?_, ?_⟩
  · intro v hv
    subst hv
    obtain ⟨c₂, i₂, len₂, hc₂, hd₂, hf₂⟩ := hend
    have hcc : c₂ = c := by
      have h1 : s₂.code? f.method = U.code? f.method := by rw [State.code?_eq, State.code?_eq, hW'.alike.method?]
      exact Option.some.inj (hc₂.symm.trans (h1.trans h.code))
    subst hcc
    have hlen : len₂ = len := by rw [hdg] at hd₂; cases hd₂; rfl
    subst hlen
    have hs₂ : s₂ = (({ U with heap := s₂.heap, slotsUsed := s₂.slotsUsed } : State).setVm s₂.vm).setTop { f with pc := f.pc + len₂, stack := v.toList ++ f.stack } := by
      refine e3.trans ?_
      rw [hf₂, State.calling_eq h.top, State.setFrames_setFrames, State.setTop_of_frames _ hr', hr]
      rfl
    rw [← hs₂]
    exact hsteps
  · intro x hv
    subst hv
    have hf₂ : s₂.frames = .throwing x :: .java f :: U.frames.tail := hend
    have hs₂ : s₂ = ((({ U with heap := s₂.heap, slotsUsed := s₂.slotsUsed } : State).setVm s₂.vm).setTop f).pushFrame (.throwing x) := by
      refine e3.trans ?_
      rw [hf₂, State.calling_eq h.top, State.setFrames_setFrames, State.pushFrame, State.frames_setTop _ hr', State.setTop_of_frames _ hr', State.setFrames_setFrames, hr]
      rfl
    rw [← hs₂]
    exact hsteps
/-- what a method that may throw hands back -/
def tw_QX {S : Type} (g : tw_G) (post : Int32 → S → Prop) (W1 : S → va_W) (th : String → Prop) (A : Nat → Prop) : Array Value → State → Outcome → State → Prop := fun _ st o t =>
  ((∃ (r : Int32) (u : S), o = .returned (some (.int r)) ∧ post r u ∧ va_P g.1 classes (W1 u) t.heap ∧ va_D A (W1 u)) ∨
    (∃ X : String, th X ∧ o = .threw st.heap.size ∧ (∃ ce : Cell, t.heap[st.heap.size]? = some ce ∧ ce.vm.isStatics = false ∧ st.vm.findClass X = some ce.cls) ∧ ∀ q : Nat, q < st.heap.size → t.heap[q]? = st.heap[q]?)) ∧ va_F A st t
theorem tw_iretX {S : Type} {post : Int32 → S → Prop} {W1 : S → va_W} {th : String → Prop} {v : Int32} {ty : FieldType} (E : tw_E p s m args meth c cc nL (some ty) own nm) (hnar : narrow ty (.int v) = .int v) (hS : va_S A s.heap H locs) (u : S) (hq : post v u) (hP : va_P g.1 classes (W1 u) H) (hD : va_D A (W1 u)) (hdg : decode cc pc = .ok (.ireturn, 1)) :
    W p l e R s m args below meth c H locs cells slots (tw_MX below (tw_QX g post W1 th A) args s cells slots A) (F0 m pc ls [.int v]) :=
  tw_mono (fun _ h => tw_MX.of h) (W.zret E.1 E.2.1 E.2.2.2.1 hnar (fun t ht _ => ⟨Or.inl ⟨v, u, rfl, hq, by rw [ht]; exact hP, hD⟩, hS.F ht⟩) hS.2.2 hdg E.2.2.2.2.2.2.1)
theorem tw_callX {S : Type} {post : Int32 → S → Prop} {W1 : S → va_W} {th : String → Prop} (E : tw_E p s m args meth c cc nL rt own nm) (hB : tw_B s) (hK : va_K g.1 classes (tw_ty g) s) (hZ : tw_CX g A s s.heap) (hM : tw_Met l y [.code y bytes maxL ret] rm (tw_P g (.ref b :: As) wc H.size) (tw_QX g post W1 th (va_A wc H.size)) mc ms (va_A wc H.size)) (hm : tw_MC y bytes maxL ret n) (hmi : Cond.instanceMethod y ∈ tw_tbl) (hms : Cond.selects y.cls y y ∈ tw_tbl) (hlk : Cond.methodLink own idx y ∈ tw_tbl)
    (hP : va_P g.1 classes ws H) (hD : va_D A ws) (hS : va_S A s.heap H locs) (hA : ∀ q, s.heap.size ≤ q → A q) (isC isR : List Nat) (hC : isC.map (fun i => ws[i]?) = wc.map some) (hR : isR.map (fun i => ws[i]?) = wr.map some) (hnc : va_nd isC = true) (hnr : va_nd isR = true) (hdis : ∀ i ∈ isR, i ∉ isC) (k0 : Nat) {ci : Nat} {fs : List Value} {q : vw_C} (hrec : wc[k0]? = some (b, .inr (ci, fs))) (hcl : classes[ci]? = some q) (hq : q.1 = y.cls)
    (hrc : rm.cells = mc) (hrs : rm.slots = ms) (hRm : rm.frames + 1 ≤ R.frames ∧ 8 + (maxL + 11) + rm.locals ≤ R.locals) (hn : As.length = n) (hls : ls.size = nL) (hst : st0 = As.reverse ++ .ref b :: rest) (hrm : (rest.map fun v => v.category).sum ≤ 8) (hf : cells + mc ≤ R.cells ∧ slots + ms ≤ R.slots) (hdg : decode cc pc = .ok (.invokevirtual idx, 3))
    (kr : ∀ (r : Int32) (u : S) (H1 : Heap) (locs1 : List Loc), post r u → va_P g.1 classes (wr ++ W1 u) H1 → va_D A (wr ++ W1 u) → va_S A s.heap H1 locs1 → W p l e R s m args below meth c H1 locs1 (cells + mc) (slots + ms) Q (F0 m (pc + 3) ls (.int r :: rest)))
    (kt : ∀ (Y : String) (x : Nat) (H1 : Heap) (locs1 : List Loc), th Y → (∃ ce : Cell, H1[x]? = some ce ∧ ce.vm.isStatics = false ∧ s.vm.findClass Y = some ce.cls) → va_P g.1 classes ws H1 → va_D A ws → va_S A s.heap H1 locs1 → tw_WT p l e R s m args below meth c H1 locs1 (cells + mc) (slots + ms) Q (F0 m pc ls rest) x) :
    W p l e R s m args below meth c H locs cells slots Q (F0 m pc ls st0) := by
  obtain ⟨hx, hb, hml, -, hown, hts, -, -⟩ := E
  obtain ⟨h1, h2, h3, h4⟩ := hm
  have hFc := va_free (wc := wc) hD hS hA isC hC
  have hpre := tw_pre (av := .ref b :: As) hB hZ hS hA hK hP hD isC hC hnc
  have hPs := va_recv hK (hpre { s with heap := H } rfl (State.WarmedH.refl s)).2.2.2.2.1 hcl hrec
  rw [hq] at hPs
  obtain ⟨cellB, hcB, hoB, hclB⟩ := hPs
  intro T hT X
  obtain ⟨mk, methM, hnamed, hmethM, hstM, habM⟩ := Cond.instanceMethod_spec (hts _ hmi)
  obtain ⟨methM', cM, hmethM', -, -, -, -, -, -, hsigM⟩ := Cond.code_spec hnamed (hts _ h1)
  cases hmethM.symm.trans hmethM'
  obtain ⟨c2, r2, m2, q1, q2, q3, q4, kP, hkP, hkPi⟩ := Cond.selects_spec (hts _ hms)
  cases hclB.symm.trans q1
  cases (State.methodFound?_of_named hnamed h3).symm.trans q2
  cases hnamed.symm.trans q3
  have hselP : selectMethod e.platform s.vm cellB.cls mk = .method mk := by rw [Launch.admits_selectMethod X.admits]; exact q4
  have hlen : As.length = methM.sig.parameters.length := by
    rw [hn]
    have h5 := h4
    rw [hsigM] at h5
    exact (Option.some.inj h5).symm
  obtain ⟨vm₁, X₁, hstep₁⟩ := X.invokevirtual hx hown (hts _ hlk) hnamed hmethM hstM hkP hkPi h3 (a := b) (cell := cellB) (by rw [hT]; exact hcB)
    (fun z h => by rw [h] at hoB; cases hoB) hselP hmethM habM hkP hkPi (g := F0 m pc ls st0) rfl (argsL := As) (rest := rest) hlen hst (by rw [hb]; exact hdg)
  have hUX : tw_P g (.ref b :: As) wc H.size (Value.ref b :: As).toArray (T.setVm vm₁) := hpre (T.setVm vm₁) hT X₁.warmed
  obtain ⟨o, t, B, L, XB, e1, e2, hQ, hL, sr, st⟩ := tw_backX hM tw_blind hrc hrs hRm.1 hRm.2 X₁ (f := { F0 m pc ls st0 with stack := rest }) rfl (by show ls.size = _; rw [hls, hml]) (ig := .invokevirtual idx) (len := 3) (by rw [hb]; exact hdg) (X₁.named hnamed) (fun a => word_at X₁.warmed (Or.inl rfl) (hts _ h1)) (word_at X₁.warmed (Or.inl (by first | rfl | simp [Cond.onTables, Cond.keeps, Cond.steady])) (hts _ h2)) (by show 2 * 0 + _ ≤ 8; simpa using hrm) hf.1 hf.2 hUX
  obtain ⟨hQ, hz, hk⟩ := hQ
  have hz : T.heap.size ≤ t.heap.size := hz
  have hk : ∀ q : Nat, q < T.heap.size → ¬ va_A wc H.size q → t.heap[q]? = T.heap[q]? := hk
  rw [hT] at hz hk
  have hS1 : va_S A s.heap B.heap (locs ++ L) := ⟨Nat.le_trans hS.1 (by rw [e1]; exact hz), fun q h1 h2 => by
      rw [e1, hk q (Nat.lt_of_lt_of_le h1 hS.1) (fun z => h2 (hFc q z))]
      exact hS.2.1 q h1 h2, fun q hq => by
      rcases List.mem_append.mp hq with h | h
      · exact hS.2.2 q h
      · exact hFc _ (hL q h)⟩
  rcases hQ with ⟨r, u, ho, hp, hP1, hD1⟩ | ⟨Y, hth, ho, hce, hold⟩
  · obtain ⟨hP2, hD2⟩ := va_join (wr := wr) (H1 := B.heap) hP hD isC isR hC hR hnr hdis (fun q h1 h2 => by rw [e1]; exact hk q h1 h2) hFc (by rw [e1]; exact hP1) hD1
    obtain ⟨t2, a1, b1⟩ := kr r u B.heap (locs ++ L) hp hP2 hD2 hS1 B rfl XB
    exact ⟨t2, hstep₁ _ fun acts => by rw [doInvoke_state]; exact (sr _ ho).trans a1, b1⟩
  · have hold' : ∀ q : Nat, q < H.size → t.heap[q]? = H[q]? := by
      intro q h
      have := hold q (by show q < T.heap.size; rw [hT]; exact h)
      rw [this]
      show T.heap[q]? = H[q]?
      rw [hT]
    obtain ⟨ce, hc1, hc2, hc3⟩ := hce
    obtain ⟨t2, a1, b1⟩ := kt Y _ B.heap (locs ++ L) hth ⟨ce, by rw [e1]; exact hc1, hc2, by
        have h7 : (T.setVm vm₁).vm.findClass Y = some ce.cls := hc3
        rw [X₁.warmed.alike.findClass] at h7
        exact h7⟩ (hP.kept (fun k q hk => by rw [e1]; exact hold' q.1 (hP k q hk).lt)) hD hS1 B rfl XB
    exact ⟨t2, hstep₁ _ fun acts => by rw [doInvoke_state]; exact (st _ ho).trans a1, b1⟩
end TWC
/-- one row of a table whose class is linked already or not yet: it takes the object, or the search goes on behind it -/
theorem tw_go {Qh : Handler → Pre} {Ec : CtlPost} {e : Env} {d : Bool} {acts : List Action} {s : State} {f : JFrame} {a : Addr} {x : ExceptionTableEntry} {t : List ExceptionTableEntry} {cT : ClassId} {cell : Cell} (hx : covers x f.pc = true) (h0 : x.catchType ≠ 0)
    (hl : s.vm.ClassLinks e.platform f.method.cls x.catchType cT) (hcell : s.heap[a]? = some cell) (hobj : ∀ k, cell.vm ≠ .statics k) (hk : ∃ k, s.vm.classes[cell.cls]? = some k) (hc : ∃ k, s.vm.classes[cT]? = some k) :
    wp (findHandler.go f a (x :: t)) Qh Ec e d acts s ↔ (if s.vm.assignable cell.cls cT = true then Qh (.found x.handlerPc) d acts (s.setVm (s.vm.noted f.method.cls x.catchType (.cls cT))) else wp (findHandler.go f a t) Qh Ec e d acts (s.setVm (s.vm.noted f.method.cls x.catchType (.cls cT)))) := by
  simp only [covers] at hx
  obtain ⟨g1, g2⟩ := (resolveClass_links e.toSetting hl).op (op := VmOp.resolveClass f.method.cls x.catchType) rfl
  have hal : s.vm.Alike (s.vm.noted f.method.cls x.catchType (.cls cT)) := (Vm.Alike.refl s.vm).noted _ _ _
  obtain ⟨k1, hk1⟩ := hk
  obtain ⟨k2, hk2⟩ := hc
  obtain ⟨k3, hk3, -⟩ := hal.2.2 _ _ hk1
  obtain ⟨k4, hk4, -⟩ := hal.2.2 _ _ hk2
  have hfit : (s.vm.noted f.method.cls x.catchType (.cls cT)).assignable cell.cls cT = s.vm.assignable cell.cls cT := hal.assignable _ _
  cases hb : s.vm.assignable cell.cls cT <;> rw [hb] at hfit <;> simp [findHandler.go, hx, h0, g1, g2, hcell, hobj, hk3, hk4, hfit, VmOp.dirties, VmOp.acts]
section TWK
variable {p : Program} {l : Launch} {e : Env} {R : Room} {s : State} {m : MethodId} {args : Array Value} {below : List Frame} {meth : Method} {c : Code} {H : Heap} {locs : List Loc} {cells slots : Nat} {Q : State → Prop}
variable {cc : ByteArray} {pc nL : Nat} {ls : Array Slot} {rest : List Value} {rt : Option FieldType} {own nm : String}
/-- from what the search gives to the walk at the handler -/
theorem tw_caught {f : JFrame} (hfm : f.method = m) {x hp : Nat} (hfind : ∀ T : State, T.heap = H → Stand p l e R s m args below meth c T locs cells slots → ∃ vm', s.WarmedH vm' ∧ ∀ (Qh : Handler → Pre) (Ec : CtlPost) (d : Bool) (acts : List Action), wp (findHandler f x) Qh Ec e d acts ((T.setTop f).pushFrame (.throwing x)) ↔ Qh (.found hp) d acts (((T.setTop f).pushFrame (.throwing x)).setVm vm'))
    (kk : W p l e R s m args below meth c H locs cells slots Q { f with pc := hp, stack := [.ref x] }) : tw_WT p l e R s m args below meth c H locs cells slots Q f x := by
  intro T hT X
  subst hfm
  obtain ⟨vm', hW', hf⟩ := hfind T hT X
  obtain ⟨t, a1, b1⟩ := kk (T.setVm vm') hT (X.noted hW')
  refine ⟨t, ?_, b1⟩
  have h : At T f.method c below := X.here
  obtain ⟨hgo, hw⟩ := h.throwing x
  refine Steps.head hgo hw ?_
  have hstep : (stepThrowing e ((T.setTop f).pushFrame (.throwing x)) x (.java f :: T.frames.tail)).1 = (((T.setTop f).pushFrame (.throwing x)).setVm vm').setFrames (.java { f with pc := hp, stack := [.ref x] } :: T.frames.tail) := by
    simp only [stepThrowing, searchFrame, vmDo]
    generalize hr : Sem.go _ e false [] _ = res
    obtain ⟨as, rfl, ha⟩ := Sem.eq_ok_of hr (a := Handler.found hp) (s' := ((T.setTop f).pushFrame (.throwing x)).setVm vm') (acts' := []) (by simp [hf _ _ _ _])
    rfl
  rw [stepThread_throwing (frames_entered h.top _), hstep]
  obtain ⟨g₀, hg⟩ := Option.isSome_iff_exists.mp h.top
  obtain ⟨r, hr⟩ := State.topJava?_eq_some.mp hg
  have hr' : (T.setVm vm').frames = .java g₀ :: r := hr
  rw [State.setTop_of_frames _ hr'] at a1
  have e1 : ∀ (u : State) (F G : List Frame), ((u.setFrames F).setVm vm').setFrames G = (u.setVm vm').setFrames G := by
    intro u F G
    have h1 : (u.setFrames F).setVm vm' = (u.setVm vm').setFrames F := rfl
    rw [h1, State.setFrames_setFrames]
  rw [hr, List.tail_cons, State.pushFrame, e1, State.setTop_of_frames _ hr, e1]
  exact a1
/-- the first row takes it -/
theorem tw_catch1 {f : JFrame} (hfm : f.method = m) {x a0 b0 hp ct : Nat} {hh : List (Nat × Nat × Nat × Nat)} {Y : String} (hown : s.vm.findClass own = some m.cls) (htab : c.exceptionTable.toList.map (fun h => (h.startPc, h.endPc, h.handlerPc, h.catchType)) = (a0, b0, hp, ct) :: hh) (hcov : (decide (a0 ≤ f.pc) && decide (f.pc < b0)) = true) (hct : ct ≠ 0)
    (hlink : (Cond.classLink own ct Y).before args s = true) (hcast : (Cond.castable Y Y).before args s = true) (hce : ∃ ce : Cell, H[x]? = some ce ∧ ce.vm.isStatics = false ∧ s.vm.findClass Y = some ce.cls)
    (kk : W p l e R s m args below meth c H locs cells slots Q { f with pc := hp, stack := [.ref x] }) : tw_WT p l e R s m args below meth c H locs cells slots Q f x := by
  refine tw_caught hfm (fun T hT X => ?_) kk
  subst hfm
  obtain ⟨ce, hc1, hc2, hc3⟩ := hce
  have hpl : e.platform.magicAccessors = ({} : Platform).magicAccessors := by rw [X.admits.platform]
  obtain ⟨cT, hcT, hcl⟩ := Cond.classLink_spec hown hlink e.platform hpl
  obtain ⟨q1, q2, w1, w2, w3⟩ := Cond.castable_spec hcast
  cases hc3.symm.trans w1
  cases hc3.symm.trans w2
  cases hc3.symm.trans hcT
  obtain ⟨dk, _, _, kt, hd, _, _, _, _, hkt, _, hopen⟩ := hcl.here
  obtain ⟨kt', hkt', -⟩ := X.warmed.alike.2.2 _ _ hkt
  refine ⟨_, X.warmed.noted hd hopen (State.rightAt_cls hcl), fun Qh Ec d acts => ?_⟩
  rw [W.findHandler_eq (s := (T.setTop f).pushFrame (.throwing x)) X.method' X.code]
  cases ht : c.exceptionTable.toList with
  | nil => rw [ht] at htab; simp at htab
  | cons y ys =>
    rw [ht] at htab
    simp only [List.map_cons, List.cons.injEq, Prod.mk.injEq] at htab
    obtain ⟨⟨e1, e2, e3, e4⟩, -⟩ := htab
    subst e1; subst e2; subst e3; subst e4
    have hfit : ((T.setTop f).pushFrame (.throwing x)).vm.assignable ce.cls ce.cls = true := by
      show T.vm.assignable _ _ = true
      rw [X.warmed.alike.assignable]; exact w3
    rw [tw_go (s := (T.setTop f).pushFrame (.throwing x)) (cT := ce.cls) (cell := ce) hcov hct (X.warmed.classLinks hcl) (by show T.heap[x]? = _; rw [hT]; exact hc1) (VmData.ne_statics_of hc2) ⟨kt', hkt'⟩ ⟨kt', hkt'⟩, if_pos hfit]
    rfl
/-- the first row doesn't, the second does -/
theorem tw_catch2 {f : JFrame} (hfm : f.method = m) {x a0 b0 hp0 ct0 a1 b1 hp ct : Nat} {hh : List (Nat × Nat × Nat × Nat)} {Y Z : String} (hown : s.vm.findClass own = some m.cls) (htab : c.exceptionTable.toList.map (fun h => (h.startPc, h.endPc, h.handlerPc, h.catchType)) = (a0, b0, hp0, ct0) :: (a1, b1, hp, ct) :: hh) (hcov0 : (decide (a0 ≤ f.pc) && decide (f.pc < b0)) = true) (hcov : (decide (a1 ≤ f.pc) && decide (f.pc < b1)) = true) (hct0 : ct0 ≠ 0) (hct : ct ≠ 0)
    (hlink0 : (Cond.classLink own ct0 Z).before args s = true) (hlink : (Cond.classLink own ct Y).before args s = true) (hcast : (Cond.castable Y Y).before args s = true) (hno : (Cond.not (.castable Y Z)).before args s = true) (hce : ∃ ce : Cell, H[x]? = some ce ∧ ce.vm.isStatics = false ∧ s.vm.findClass Y = some ce.cls)
    (kk : W p l e R s m args below meth c H locs cells slots Q { f with pc := hp, stack := [.ref x] }) : tw_WT p l e R s m args below meth c H locs cells slots Q f x := by
  refine tw_caught hfm (fun T hT X => ?_) kk
  subst hfm
  obtain ⟨ce, hc1, hc2, hc3⟩ := hce
  have hpl : e.platform.magicAccessors = ({} : Platform).magicAccessors := by rw [X.admits.platform]
  obtain ⟨cZ, hcZ, hcl0⟩ := Cond.classLink_spec hown hlink0 e.platform hpl
  obtain ⟨cT, hcT, hcl⟩ := Cond.classLink_spec hown hlink e.platform hpl
  obtain ⟨q1, q2, w1, w2, w3⟩ := Cond.castable_spec hcast
  cases hc3.symm.trans w1
  cases hc3.symm.trans w2
  cases hc3.symm.trans hcT
  have hnz : s.vm.assignable ce.cls cZ = false := by
    have hv := Cond.holds_not_iff.mp hno
    simp only [Cond.value, hc3, hcZ] at hv
    exact Option.some.inj hv
  obtain ⟨dk, _, _, kt, hd, _, _, _, _, hkt, _, hopen⟩ := hcl.here
  obtain ⟨dk0, _, _, kt0, hd0, _, _, _, _, hkt0, _, hopen0⟩ := hcl0.here
  have hW0 := X.warmed.noted hd0 hopen0 (State.rightAt_cls hcl0)
  obtain ⟨kt', hkt', -⟩ := X.warmed.alike.2.2 _ _ hkt
  obtain ⟨kt0', hkt0', -⟩ := X.warmed.alike.2.2 _ _ hkt0
  obtain ⟨kt2, hkt2, -⟩ := hW0.alike.2.2 _ _ hkt
  refine ⟨_, hW0.noted hd hopen (State.rightAt_cls hcl), fun Qh Ec d acts => ?_⟩
  rw [W.findHandler_eq (s := (T.setTop f).pushFrame (.throwing x)) X.method' X.code]
  cases ht : c.exceptionTable.toList with
  | nil => rw [ht] at htab; simp at htab
  | cons y ys =>
    cases ys with
    | nil => rw [ht] at htab; simp at htab
    | cons z zs =>
      rw [ht] at htab
      simp only [List.map_cons, List.cons.injEq, Prod.mk.injEq] at htab
      obtain ⟨⟨e1, e2, e3, e4⟩, ⟨e5, e6, e7, e8⟩, -⟩ := htab
      subst e1; subst e2; subst e3; subst e4; subst e5; subst e6; subst e7; subst e8
      have hfit0 : ((T.setTop f).pushFrame (.throwing x)).vm.assignable ce.cls cZ = false := by
        show T.vm.assignable _ _ = false
        rw [X.warmed.alike.assignable]; exact hnz
      rw [tw_go (s := (T.setTop f).pushFrame (.throwing x)) (cT := cZ) (cell := ce) hcov0 hct0 (X.warmed.classLinks hcl0) (by show T.heap[x]? = _; rw [hT]; exact hc1) (VmData.ne_statics_of hc2) ⟨kt', hkt'⟩ ⟨kt0', hkt0'⟩, if_neg (by rw [hfit0]; exact fun h => by cases h)]
      have hfit : (((T.setTop f).pushFrame (.throwing x)).setVm (T.vm.noted f.method.cls y.catchType (.cls cZ))).vm.assignable ce.cls ce.cls = true := by
        show (T.vm.noted f.method.cls y.catchType (.cls cZ)).assignable _ _ = true
        rw [hW0.alike.assignable]; exact w3
      refine Iff.trans (tw_go (s := ((T.setTop f).pushFrame (.throwing x)).setVm (T.vm.noted f.method.cls y.catchType (.cls cZ))) (cT := ce.cls) (cell := ce) hcov hct (hW0.classLinks hcl) (by show T.heap[x]? = _; rw [hT]; exact hc1) (VmData.ne_statics_of hc2) ⟨kt2, hkt2⟩ ⟨kt2, hkt2⟩) ?_
      rw [if_pos hfit]
      rfl
end TWK
