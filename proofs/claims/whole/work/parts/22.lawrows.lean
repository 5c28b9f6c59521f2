/-! The law's own helpers catch: their contract's form and their call. -/
theorem tw_metL {l : Launch} {g : tw_G} {y : MethodName} {cc : ByteArray} {maxL : Nat} {ret : Option FieldType} {hh : List (Nat × Nat × Nat × Nat)} {av : List Value} {ws : va_W} {sz : Nat} {rm : Room} {Qc : (Nat → Prop) → Array Value → State → Outcome → State → Prop} {mc ms : Nat}
    (hy : plainName y.cls = true) (hn : (lg_sl av).length ≤ maxL)
    (body : ∀ (p : Program) (e : Env) (s : State) (m : MethodId) (below : List Frame) (meth : Method) (c : Code) (ls : Array Slot) (H : Heap) (A : Nat → Prop), tw_E p s m av.toArray meth c cc maxL ret y.cls y.name → tw_B s → va_K g.1 classes (tw_ty g) s → tw_CX g A s s.heap → va_P g.1 classes ws H → va_D A ws → va_S A s.heap H [] → (∀ q, s.heap.size ≤ q → A q) → lv_has ls maxL (lv_args 0 av) → c.exceptionTable.toList.map (fun h => (h.startPc, h.endPc, h.handlerPc, h.catchType)) = hh →
      W p l e rm s m av.toArray below meth c H [] 0 0 (MQ below (Qc A) av.toArray s mc ms A) (F0 m 0 ls [])) :
    Met l y [.codeWith y cc maxL ret hh] rm (tw_P g av ws sz) (Qc (va_A ws sz)) mc ms (va_A ws sz) := by
  refine va_MetW (cc := cc) (maxL := maxL) (ret := ret) (hh := hh) hy rfl ?_
  intro p e s m args below meth c s₁ B hml hv
  obtain ⟨rfl, hsz, hB, hK, hP, hD0, hZ⟩ := hv
  obtain ⟨hD, hA, hS⟩ := tw_own hsz hD0
  have hl := lv_entry av (n := maxL) hn
  obtain ⟨m9, meth', c', hn9, h1, h2, -, -, htab, -⟩ := Cond.codeWith_spec (atoms_spec (ws := [.codeWith y cc maxL ret hh]) B.pre _ List.mem_cons_self)
  cases B.named.symm.trans hn9
  cases B.method.symm.trans h1
  cases (Stand.of_body B).code.symm.trans h2
  rw [lg_entry_eq]
  exact body p e s m below meth c _ s.heap _ ⟨B.exec, B.bytes, hml, B.returns, findClass_of_methodNamed B.named, hB.at, B.notSynchronized, (name_of_methodNamed B.named B.method).1⟩ hB hK hZ hP hD hS hA hl htab
section TWL
variable {p : Program} {l : Launch} {e : Env} {R : Room} {s : State} {m : MethodId} {args : Array Value} {below : List Frame} {meth : Method} {c : Code} {H : Heap} {locs : List Loc} {cells slots : Nat} {Q : State → Prop}
variable {cc : ByteArray} {pc nL : Nat} {ls : Array Slot} {rest st0 : List Value} {A : Nat → Prop} {g : tw_G} {rt : Option FieldType} {own nm : String} {ws wc wr : va_W} {mc ms : Nat}
variable {y : MethodName} {bytes : ByteArray} {maxL idx n : Nat} {ret : Option FieldType} {hh : List (Nat × Nat × Nat × Nat)} {rm : Room} {Qc : Array Value → State → Outcome → State → Prop} {free : Addr → Prop} {As : List Value} {b : Nat}
/-- the call of a static method that catches -/
theorem tw_runL (E : tw_E p s m args meth c cc nL rt own nm) (hB : tw_B s) (hK : va_K g.1 classes (tw_ty g) s) (hZ : tw_CX g A s s.heap) (hM : Met l y [.codeWith y bytes maxL ret hh] rm (tw_P g As wc H.size) Qc mc ms free) (hcw : Cond.codeWith y bytes maxL ret hh ∈ tw_tbl) (hy : y.cls ≠ "java/lang/invoke/MethodHandle" ∧ y.cls ≠ "java/lang/invoke/VarHandle") (hst1 : Cond.static y ∈ tw_tbl) (hin1 : Cond.initialized y.cls ∈ tw_tbl) (hlk : Cond.methodLink own idx y ∈ tw_tbl)
    (hP : va_P g.1 classes ws H) (hD : va_D A ws) (hS : va_S A s.heap H locs) (hA : ∀ q, s.heap.size ≤ q → A q) (isC : List Nat) (hC : isC.map (fun i => ws[i]?) = wc.map some) (hnd : va_nd isC = true)
    (hrc : rm.cells = mc) (hrs : rm.slots = ms) (hR : rm.frames + 1 ≤ R.frames ∧ 8 + (maxL + 11) + rm.locals ≤ R.locals) (hn : (parseMethodDescriptor y.desc).map (fun d => d.parameters.length) = some As.length) (hls : ls.size = nL) (hst : st0 = As.reverse ++ rest) (hrm : (rest.map fun v => v.category).sum ≤ 8) (hf : cells + mc ≤ R.cells ∧ slots + ms ≤ R.slots) (hdg : decode cc pc = .ok (.invokestatic idx, 3)) :
    va_Run p l e R s m args below meth c H locs cells slots mc ms (F0 m pc ls st0) rest (Qc As.toArray) free := by
  obtain ⟨hx, hb, hml, -, hown, hts, -, -⟩ := E
  have hFc := va_free (wc := wc) hD hS hA isC hC
  have hK2 : Back l R p e below s args y 3 8 (PreOf R mc ms (tw_P g As wc H.size)) (PostOf Qc mc ms free) :=
    va_backW (hh := hh) (bytes := bytes) (maxL := maxL) (ret := ret) hM tw_blind hrc hrs hR.1 hR.2 (fun w hw a' U hW => by cases List.mem_singleton.mp hw; exact word_at hW (Or.inl rfl) (hts _ hcw)) List.mem_cons_self (fun a' U hW => word_at hW (Or.inl (by first | rfl | simp [Cond.onTables, Cond.keeps, Cond.steady])) (hts _ hin1))
  intro T hT X
  obtain ⟨mk, methM, cM, hnamed, hmethM, -, -, -, -, -, -, hsigM⟩ := Cond.codeWith_spec (hts _ hcw)
  have hstatic : methM.isStatic = true := Cond.static_spec hnamed hmethM (hts _ hst1)
  obtain ⟨kP, hkP, -⟩ := className_of_methodNamed hnamed
  have hinitP : kP.init = .initialized := Cond.initialized_spec (findClass_of_methodNamed hnamed) hkP (hts _ hin1)
  have hlen : As.length = methM.sig.parameters.length := by
    rw [hsigM] at hn
    exact (Option.some.inj hn).symm
  obtain ⟨vm₁, X₁, hstep₁⟩ := X.invokestatic hx hown (hts _ hlk) hnamed hmethM hstatic hkP hinitP hy (g := F0 m pc ls st0) rfl (argsL := As) (rest := rest) hlen hst (by rw [hb]; exact hdg)
  have hpre := tw_pre (av := As) hB hZ hS hA hK hP hD isC hC hnd (T.setVm vm₁) hT X₁.warmed
  obtain ⟨v, ⟨U', l2, c2, s2⟩, X', ⟨g', mk', t, L, e1, e2, hq, h1, hL, h2, h3⟩, hsteps⟩ := hK2 m meth c ⟨T.setVm vm₁, locs, cells, slots⟩ { F0 m pc ls st0 with stack := rest } (.invokestatic idx) mk As.toArray X₁ rfl (by show ls.size = _; rw [hls, hml]) (by rw [hb]; exact hdg) (by show 2 * 0 + _ ≤ 8; simpa using hrm) (X₁.named hnamed) ⟨hf.1, hf.2, hpre⟩
  dsimp only [Pt.U, Pt.locs, Pt.cells, Pt.slots] at X' e1 e2 h1 h2 h3 hsteps
  subst h1; subst h2; subst h3
  exact ⟨v, (T.setVm vm₁).calling g' mk' As.toArray, t, U', L, hT, X', hL, e1, e2, hq, fun target h => hstep₁ _ fun acts => by rw [doInvoke_state]; exact hsteps.trans h⟩
end TWL
theorem tw_PextL {D : va_G} {cl : List vw_C} {ws : va_W} {H : Heap} {a N : Nat} {cA : ClassId} {f f' : Nat → Int64} (hP : va_P D cl ws H) (p : Nat) (hp : ws[p]? = some (a, .inl (cA, N, .inr (.inl f)))) (h : ∀ j, j < N → f j = f' j) : va_P D cl (ws.set p (a, .inl (cA, N, .inr (.inl f')))) H := by
  have e : vp_cell cA (N, .inr (.inl f)) = vp_cell cA (N, .inr (.inl f')) := by
    rw [vp_cell_l, vp_cell_l]
    unfold arrV
    congr 1
    congr 1
    funext j
    show Value.long (f j.val) = Value.long (f' j.val)
    rw [h j.val j.isLt]
  intro k q hk
  by_cases hkp : k = p
  · subst hkp
    rw [List.getElem?_set_self (List.getElem?_eq_some_iff.mp hp).1] at hk
    cases hk
    show H[a]? = some (vp_cell cA (N, .inr (.inl f')))
    rw [← e]
    exact hP k _ hp
  · rw [List.getElem?_set_ne (Ne.symm hkp)] at hk
    exact hP k q hk
theorem tn_out (o v : Int64) (j : Nat) (h : j < 1) : vp_updL (fun _ => o) (0 : Int32).toNatClampNeg v j = v := by
  obtain rfl : j = 0 := by omega
  simp [vp_updL, tn_0]
