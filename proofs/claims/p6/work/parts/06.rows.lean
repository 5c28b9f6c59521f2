/-! A contract's start and end in one form, and rows that make a call with its cut and its join in one. -/
abbrev tw_ty (g : tw_G) : List (ClassId × FieldType) := [(g.2.1 0, .int), (g.2.1 1, .byte), (g.2.1 2, .long), (g.2.1 3, .boolean)]
abbrev aI (g : tw_G) (n : Nat) (f : Nat → Int32) : va_E := .inl (g.2.1 0, n, .inl f)
abbrev aB (g : tw_G) (n : Nat) (f : Nat → Int32) : va_E := .inl (g.2.1 1, n, .inl f)
abbrev aJ (g : tw_G) (n : Nat) (f : Nat → Int64) : va_E := .inl (g.2.1 2, n, .inr (.inl f))
abbrev aZ (g : tw_G) (n : Nat) (f : Nat → Int32) : va_E := .inl (g.2.1 3, n, .inl f)
/-- what a walk knows of its method and of the tables -/
def tw_E (p : Program) (s : State) (m : MethodId) (args : Array Value) (meth : Method) (c : Code) (cc : ByteArray) (nL : Nat) (ret : Option FieldType) (own nm : String) : Prop :=
  p.tables.exec = Jvm.exec ∧ c.code = cc ∧ c.maxLocals = nL ∧ meth.sig.returnType = ret ∧ s.vm.findClass own = some m.cls ∧ (∀ w ∈ tw_tbl, w.before args s = true) ∧ meth.locks = false ∧ meth.name = nm
def tw_P (g : tw_G) (av : List Value) (ws : va_W) (sz : Nat) : Array Value → State → Prop := va_Pc av (fun U => U.heap.size = sz ∧ tw_B U ∧ va_K g.1 classes (tw_ty g) U ∧ va_P g.1 classes ws U.heap ∧ va_D (fun _ => True) ws ∧ tw_CX g (va_A ws sz) U U.heap)
theorem tw_blind {g : tw_G} {av : List Value} {ws : va_W} {sz : Nat} : FrameBlind (tw_P g av ws sz) := by
  intro a U f mk h
  obtain ⟨q0, q1, qB, qK, qP, qD, qZ⟩ := h
  exact ⟨q0, q1, qB.warm (s := U) (U := U.calling f mk a) (State.WarmedH.refl U), va_K.moved (u := U) (U := U.calling f mk a) (Vm.Alike.refl U.vm) qK, qP, qD, qZ.warm (s := U) (U := U.calling f mk a) (State.WarmedH.refl U)⟩
theorem tw_pre {g : tw_G} {av : List Value} {ws wc : va_W} {s : State} {H : Heap} {A : Nat → Prop} {locs : List Loc} (hB : tw_B s) (hZ : tw_CX g A s s.heap) (hS : va_S A s.heap H locs) (hA : ∀ q, s.heap.size ≤ q → A q) (hK : va_K g.1 classes (tw_ty g) s) (hP : va_P g.1 classes ws H) (hD : va_D A ws) (isC : List Nat) (hC : isC.map (fun i => ws[i]?) = wc.map some) (hn : va_nd isC = true) :
    ∀ U : State, U.heap = H → s.WarmedH U.vm → tw_P g av wc H.size av.toArray U := by
  intro U hU hW
  refine ⟨rfl, by rw [hU], hB.warm hW, va_K.moved hW.alike hK, ?_, (hD.sub isC hn hC).weaken (fun _ _ _ _ => trivial), ?_⟩
  case refine_2 =>
    rw [hU]
    exact ((hZ.warm hW).kept (fun q h1 h2 => hS.2.1 q h1 h2)).narrow (va_free (wc := wc) hD hS hA isC hC)
  rw [hU]
  refine hP.sub isC ?_
  have h2 : ∀ (l : List Nat) (w : va_W), l.map (fun i => ws[i]?) = w.map some → l.filterMap (fun i => ws[i]?) = w := by
    intro l
    induction l with
    | nil => intro w h; cases w with
      | nil => rfl
      | cons a b => simp at h
    | cons i l ih => intro w h; cases w with
      | nil => simp at h
      | cons a b =>
        simp only [List.map_cons, List.cons.injEq] at h
        rw [List.filterMap_cons, h.1, ih b h.2]
  exact h2 isC wc hC
/-- the start of a method: its own cells, and those that it makes -/
theorem tw_own {s : State} {ws : va_W} {sz : Nat} (hsz : s.heap.size = sz) (hD0 : va_D (fun _ => True) ws) : va_D (va_A ws sz) ws ∧ (∀ q : Nat, s.heap.size ≤ q → va_A ws sz q) ∧ va_S (va_A ws sz) s.heap s.heap [] :=
  ⟨hD0.self, fun q h => Or.inr (by omega), va_S.rf⟩
theorem tw_met {l : Launch} {g : tw_G} {y : MethodName} {cc : ByteArray} {maxL : Nat} {ret : Option FieldType} {av : List Value} {ws : va_W} {sz : Nat} {rm : Room} {Qc : (Nat → Prop) → Array Value → State → Outcome → State → Prop} {free : (Nat → Prop) → Addr → Prop} {mc ms : Nat}
    (hy : plainName y.cls = true) (hn : (lg_sl av).length ≤ maxL)
    (body : ∀ (p : Program) (e : Env) (s : State) (m : MethodId) (below : List Frame) (meth : Method) (c : Code) (ls : Array Slot) (A : Nat → Prop), tw_E p s m av.toArray meth c cc maxL ret y.cls y.name → tw_B s → va_K g.1 classes (tw_ty g) s → tw_CX g A s s.heap → va_P g.1 classes ws s.heap → va_D A ws → va_S A s.heap s.heap [] → (∀ q, s.heap.size ≤ q → A q) → lv_has ls maxL (lv_args 0 av) →
      W p l e rm s m av.toArray below meth c s.heap [] 0 0 (MQ below (Qc A) av.toArray s mc ms (free A)) (F0 m 0 ls [])) :
    Met l y [.code y cc maxL ret] rm (tw_P g av ws sz) (Qc (va_A ws sz)) mc ms (free (va_A ws sz)) := by
  refine Met.ofW (cc := cc) (maxL := maxL) (ret := ret) hy rfl ?_
  intro p e s m args below meth c s₁ B hml hv
  obtain ⟨rfl, hsz, hB, hK, hP, hD0, hZ⟩ := hv
  obtain ⟨hD, hA, hS⟩ := tw_own hsz hD0
  have hl := lv_entry av (n := maxL) hn
  rw [lg_entry_eq]
  exact body p e s m below meth c _ _ ⟨B.exec, B.bytes, hml, B.returns, findClass_of_methodNamed B.named, hB.at, B.notSynchronized, (name_of_methodNamed B.named B.method).1⟩ hB hK hZ hP hD hS hA hl
abbrev tw_Qi {S : Type} (g : tw_G) (post : Int32 → S → Prop) (W1 : S → va_W) (A : Nat → Prop) : Array Value → State → Outcome → State → Prop := va_Qi post (fun u t => va_P g.1 classes (W1 u) t.heap ∧ va_D A (W1 u)) A
abbrev tw_Ql {S : Type} (g : tw_G) (post : Int64 → S → Prop) (W1 : S → va_W) (A : Nat → Prop) : Array Value → State → Outcome → State → Prop := va_Ql post (fun u t => va_P g.1 classes (W1 u) t.heap ∧ va_D A (W1 u)) A
abbrev tw_Qv {S : Type} (g : tw_G) (post : S → Prop) (W1 : S → va_W) (A : Nat → Prop) : Array Value → State → Outcome → State → Prop := va_Qv post (fun u t => va_P g.1 classes (W1 u) t.heap ∧ va_D A (W1 u)) A
section TWR
variable {p : Program} {l : Launch} {e : Env} {R : Room} {s : State} {m : MethodId} {args : Array Value} {below : List Frame} {meth : Method} {c : Code} {H : Heap} {locs : List Loc} {cells slots : Nat} {Q : State → Prop}
variable {cc : ByteArray} {pc nL : Nat} {ls : Array Slot} {rest st0 : List Value} {A : Nat → Prop} {g : tw_G} {rt : Option FieldType} {own nm : String} {ws wc wr : va_W} {mc ms : Nat}
variable {y : MethodName} {bytes : ByteArray} {maxL idx n : Nat} {ret : Option FieldType} {rm : Room} {Qc : Array Value → State → Outcome → State → Prop} {free : Addr → Prop} {As : List Value} {b : Nat}
theorem tw_runV (E : tw_E p s m args meth c cc nL rt own nm) (hB : tw_B s) (hK : va_K g.1 classes (tw_ty g) s) (hZ : tw_CX g A s s.heap) (hM : Met l y [.code y bytes maxL ret] rm (tw_P g (.ref b :: As) wc H.size) Qc mc ms free) (hm : tw_MC y bytes maxL ret n) (hmi : Cond.instanceMethod y ∈ tw_tbl) (hms : Cond.selects y.cls y y ∈ tw_tbl) (hlk : Cond.methodLink own idx y ∈ tw_tbl)
    (hP : va_P g.1 classes ws H) (hD : va_D A ws) (hS : va_S A s.heap H locs) (hA : ∀ q, s.heap.size ≤ q → A q) (isC : List Nat) (hC : isC.map (fun i => ws[i]?) = wc.map some) (hnd : va_nd isC = true) (k0 : Nat) {ci : Nat} {fs : List Value} {q : vw_C} (hrec : wc[k0]? = some (b, .inr (ci, fs))) (hcl : classes[ci]? = some q) (hq : q.1 = y.cls)
    (hrc : rm.cells = mc) (hrs : rm.slots = ms) (hR : rm.frames + 1 ≤ R.frames ∧ 8 + (maxL + 11) + rm.locals ≤ R.locals) (hn : As.length = n) (hls : ls.size = nL) (hst : st0 = As.reverse ++ .ref b :: rest) (hrm : (rest.map fun v => v.category).sum ≤ 8) (hf : cells + mc ≤ R.cells ∧ slots + ms ≤ R.slots) (hdg : decode cc pc = .ok (.invokevirtual idx, 3)) :
    va_Run p l e R s m args below meth c H locs cells slots mc ms (F0 m pc ls st0) rest (Qc (Value.ref b :: As).toArray) free := by
  obtain ⟨hx, hb, hml, -, hown, hts, -, -⟩ := E
  obtain ⟨h1, h2, h3, h4⟩ := hm
  have hP' : va_P g.1 classes wc H := (tw_pre (av := []) hB hZ hS hA hK hP hD isC hC hnd { s with heap := H } rfl (State.WarmedH.refl s)).2.2.2.2.1
  have hPs := va_recv hK hP' hcl hrec
  rw [hq] at hPs
  exact va_runV (Ts := tw_tbl) ⟨hx, hb, hml, hown, hts⟩ hM ⟨callB_of n hts (tw_good h1 rfl) rfl hrc hrs (hts _ h2) (hts _ hlk) ⟨h3.1, h3.2, h4⟩ hR, hts _ hmi, hts _ hms⟩
    ⟨tw_blind, hPs, tw_pre (av := .ref b :: As) hB hZ hS hA hK hP hD isC hC hnd⟩ rfl hn hls hst (lv_room hrm) hdg hf
theorem tw_runS (E : tw_E p s m args meth c cc nL rt own nm) (hB : tw_B s) (hK : va_K g.1 classes (tw_ty g) s) (hZ : tw_CX g A s s.heap) (hM : Met l y [.code y bytes maxL ret] rm (tw_P g As wc H.size) Qc mc ms free) (hm : tw_MC y bytes maxL ret n) (hst1 : Cond.static y ∈ tw_tbl) (hlk : Cond.methodLink own idx y ∈ tw_tbl)
    (hP : va_P g.1 classes ws H) (hD : va_D A ws) (hS : va_S A s.heap H locs) (hA : ∀ q, s.heap.size ≤ q → A q) (isC : List Nat) (hC : isC.map (fun i => ws[i]?) = wc.map some) (hnd : va_nd isC = true)
    (hrc : rm.cells = mc) (hrs : rm.slots = ms) (hR : rm.frames + 1 ≤ R.frames ∧ 8 + (maxL + 11) + rm.locals ≤ R.locals) (hn : As.length = n) (hls : ls.size = nL) (hst : st0 = As.reverse ++ rest) (hrm : (rest.map fun v => v.category).sum ≤ 8) (hf : cells + mc ≤ R.cells ∧ slots + ms ≤ R.slots) (hdg : decode cc pc = .ok (.invokestatic idx, 3)) :
    va_Run p l e R s m args below meth c H locs cells slots mc ms (F0 m pc ls st0) rest (Qc As.toArray) free := by
  obtain ⟨hx, hb, hml, -, hown, hts, -, -⟩ := E
  obtain ⟨h1, h2, h3, h4⟩ := hm
  exact va_runS (Ts := tw_tbl) ⟨hx, hb, hml, hown, hts⟩ hM ⟨callB_of n hts (tw_good h1 rfl) rfl hrc hrs (hts _ h2) (hts _ hlk) ⟨h3.1, h3.2, h4⟩ hR, hts _ hst1⟩
    ⟨tw_blind, tw_pre (av := As) hB hZ hS hA hK hP hD isC hC hnd⟩ rfl hn hls hst (lv_room hrm) hdg hf
theorem tw_runI (E : tw_E p s m args meth c cc nL rt own nm) (hB : tw_B s) (hK : va_K g.1 classes (tw_ty g) s) (hZ : tw_CX g A s s.heap) (hM : Met l y [.code y bytes maxL none] rm (tw_P g (.ref b :: As) wc H.size) Qc mc ms free) (hm : tw_MC y bytes maxL none n) (hmi : Cond.instanceMethod y ∈ tw_tbl) (hyn : y.name = "<init>") (hlk : Cond.methodLink own idx y ∈ tw_tbl)
    (hP : va_P g.1 classes ws H) (hD : va_D A ws) (hS : va_S A s.heap H locs) (hA : ∀ q, s.heap.size ≤ q → A q) (isC : List Nat) (hC : isC.map (fun i => ws[i]?) = wc.map some) (hnd : va_nd isC = true)
    (hrc : rm.cells = mc) (hrs : rm.slots = ms) (hR : rm.frames + 1 ≤ R.frames ∧ 8 + (maxL + 11) + rm.locals ≤ R.locals) (hn : As.length = n) (hls : ls.size = nL) (hst : st0 = As.reverse ++ .ref b :: rest) (hrm : (rest.map fun v => v.category).sum ≤ 8) (hf : cells + mc ≤ R.cells ∧ slots + ms ≤ R.slots) (hdg : decode cc pc = .ok (.invokespecial idx, 3)) :
    va_Run p l e R s m args below meth c H locs cells slots mc ms (F0 m pc ls st0) rest (Qc (Value.ref b :: As).toArray) free := by
  obtain ⟨hx, hb, hml, -, hown, hts, -, -⟩ := E
  obtain ⟨h1, h2, h3, h4⟩ := hm
  exact va_runI (Ts := tw_tbl) ⟨hx, hb, hml, hown, hts⟩ hM ⟨callB_of n hts (tw_good h1 rfl) rfl hrc hrs (hts _ h2) (hts _ hlk) ⟨h3.1, h3.2, h4⟩ hR, hyn, hts _ hmi⟩
    ⟨tw_blind, tw_pre (av := .ref b :: As) hB hZ hS hA hK hP hD isC hC hnd⟩ rfl hn hls hst (lv_room hrm) hdg hf
theorem tw_runN {host : String} (E : tw_E p s m args meth c cc nL rt own nm) (hB : tw_B s) (hK : va_K g.1 classes (tw_ty g) s) (hZ : tw_CX g A s s.heap) (hM : Met l y [.code y bytes maxL none] rm (tw_P g (.ref b :: As) wc H.size) Qc mc ms free) (hm : tw_MC y bytes maxL none n) (hmi : Cond.instanceMethod y ∈ tw_tbl) (hyn : y.name = "<init>") (hlk : Cond.methodLinkNest own idx y host ∈ tw_tbl)
    (hP : va_P g.1 classes ws H) (hD : va_D A ws) (hS : va_S A s.heap H locs) (hA : ∀ q, s.heap.size ≤ q → A q) (isC : List Nat) (hC : isC.map (fun i => ws[i]?) = wc.map some) (hnd : va_nd isC = true)
    (hrc : rm.cells = mc) (hrs : rm.slots = ms) (hR : rm.frames + 1 ≤ R.frames ∧ 8 + (maxL + 11) + rm.locals ≤ R.locals) (hn : As.length = n) (hls : ls.size = nL) (hst : st0 = As.reverse ++ .ref b :: rest) (hrm : (rest.map fun v => v.category).sum ≤ 8) (hf : cells + mc ≤ R.cells ∧ slots + ms ≤ R.slots) (hdg : decode cc pc = .ok (.invokespecial idx, 3)) :
    va_Run p l e R s m args below meth c H locs cells slots mc ms (F0 m pc ls st0) rest (Qc (Value.ref b :: As).toArray) free := by
  obtain ⟨hx, hb, hml, -, hown, hts, -, -⟩ := E
  obtain ⟨h1, h2, h3, h4⟩ := hm
  exact va_runIN (Ts := tw_tbl) ⟨hx, hb, hml, hown, hts⟩ hM ⟨va_cnB n hts (tw_good h1 rfl) rfl hrc hrs (va_Nw.of rfl (hts _ hlk)) (hts _ h2) ⟨h3.1, h3.2, h4⟩ hR, hyn, hts _ hmi⟩
    ⟨tw_blind, tw_pre (av := .ref b :: As) hB hZ hS hA hK hP hD isC hC hnd⟩ rfl hn hls hst (lv_room hrm) hdg hf
/-- behind a reader -/
theorem tw_si {post : Int32 → Prop} {a : Array Value} (hr : va_Run p l e R s m args below meth c H locs cells slots 0 0 (F0 m pc ls st0) rest (vp_Si post a) (fun _ => False))
    (kk : ∀ r : Int32, post r → W p l e R s m args below meth c H locs cells slots Q (F0 m (pc + 3) ls (.int r :: rest))) : W p l e R s m args below meth c H locs cells slots Q (F0 m pc ls st0) := by
  intro T hT X
  obtain ⟨v, st₀, t, T', L, h0, X', hL, e1, e2, ⟨r, hv, hp, hh⟩, st⟩ := hr T hT X
  cases hv
  obtain ⟨t2, a1, b1⟩ := kk r hp T' (by rw [e1, hh, h0]) (Stand.forget X' (fun q h => (hL q h).elim))
  exact ⟨t2, st t2 a1, b1⟩
theorem tw_sl {post : Int64 → Prop} {a : Array Value} (hr : va_Run p l e R s m args below meth c H locs cells slots 0 0 (F0 m pc ls st0) rest (vp_Sl post a) (fun _ => False))
    (kk : ∀ r : Int64, post r → W p l e R s m args below meth c H locs cells slots Q (F0 m (pc + 3) ls (.long r :: rest))) : W p l e R s m args below meth c H locs cells slots Q (F0 m pc ls st0) := by
  intro T hT X
  obtain ⟨v, st₀, t, T', L, h0, X', hL, e1, e2, ⟨r, hv, hp, hh⟩, st⟩ := hr T hT X
  cases hv
  obtain ⟨t2, a1, b1⟩ := kk r hp T' (by rw [e1, hh, h0]) (Stand.forget X' (fun q h => (hL q h).elim))
  exact ⟨t2, st t2 a1, b1⟩
/-- behind a writer: the rest of the world, and what came back -/
theorem tw_wv {S : Type} {post : S → Prop} {W1 : S → va_W} {a : Array Value} (hr : va_Run p l e R s m args below meth c H locs cells slots mc ms (F0 m pc ls st0) rest (tw_Qv g post W1 (va_A wc H.size) a) (va_A wc H.size))
    (hP : va_P g.1 classes ws H) (hD : va_D A ws) (hS : va_S A s.heap H locs) (hA : ∀ q, s.heap.size ≤ q → A q) (isC isR : List Nat) (hC : isC.map (fun i => ws[i]?) = wc.map some) (hR : isR.map (fun i => ws[i]?) = wr.map some) (hn : va_nd isR = true) (hdis : ∀ i ∈ isR, i ∉ isC)
    (kk : ∀ (u : S) (H1 : Heap) (locs1 : List Loc), post u → va_P g.1 classes (wr ++ W1 u) H1 → va_D A (wr ++ W1 u) → va_S A s.heap H1 locs1 → W p l e R s m args below meth c H1 locs1 (cells + mc) (slots + ms) Q (F0 m (pc + 3) ls rest)) : W p l e R s m args below meth c H locs cells slots Q (F0 m pc ls st0) := by
  have hFc := va_free (wc := wc) hD hS hA isC hC
  refine va_callv hr hS (fun q _ h => hFc q h) hFc (fun u t H1 locs1 ht hvm hp hB hz1 hk1 hS1 => ?_)
  obtain ⟨hP1, hD1⟩ := hB
  rw [ht] at hP1
  obtain ⟨hP2, hD2⟩ := va_join hP hD isC isR hC hR hn hdis hk1 hFc hP1 hD1
  exact kk u H1 locs1 hp hP2 hD2 hS1
theorem tw_wi {S : Type} {post : Int32 → S → Prop} {W1 : S → va_W} {a : Array Value} (hr : va_Run p l e R s m args below meth c H locs cells slots mc ms (F0 m pc ls st0) rest (tw_Qi g post W1 (va_A wc H.size) a) (va_A wc H.size))
    (hP : va_P g.1 classes ws H) (hD : va_D A ws) (hS : va_S A s.heap H locs) (hA : ∀ q, s.heap.size ≤ q → A q) (isC isR : List Nat) (hC : isC.map (fun i => ws[i]?) = wc.map some) (hR : isR.map (fun i => ws[i]?) = wr.map some) (hn : va_nd isR = true) (hdis : ∀ i ∈ isR, i ∉ isC)
    (kk : ∀ (r : Int32) (u : S) (H1 : Heap) (locs1 : List Loc), post r u → va_P g.1 classes (wr ++ W1 u) H1 → va_D A (wr ++ W1 u) → va_S A s.heap H1 locs1 → W p l e R s m args below meth c H1 locs1 (cells + mc) (slots + ms) Q (F0 m (pc + 3) ls (.int r :: rest))) : W p l e R s m args below meth c H locs cells slots Q (F0 m pc ls st0) := by
  have hFc := va_free (wc := wc) hD hS hA isC hC
  refine va_calli hr hS (fun q _ h => hFc q h) hFc (fun r u t H1 locs1 ht hvm hp hB hz1 hk1 hS1 => ?_)
  obtain ⟨hP1, hD1⟩ := hB
  rw [ht] at hP1
  obtain ⟨hP2, hD2⟩ := va_join hP hD isC isR hC hR hn hdis hk1 hFc hP1 hD1
  exact kk r u H1 locs1 hp hP2 hD2 hS1
theorem tw_wl {S : Type} {post : Int64 → S → Prop} {W1 : S → va_W} {a : Array Value} (hr : va_Run p l e R s m args below meth c H locs cells slots mc ms (F0 m pc ls st0) rest (tw_Ql g post W1 (va_A wc H.size) a) (va_A wc H.size))
    (hP : va_P g.1 classes ws H) (hD : va_D A ws) (hS : va_S A s.heap H locs) (hA : ∀ q, s.heap.size ≤ q → A q) (isC isR : List Nat) (hC : isC.map (fun i => ws[i]?) = wc.map some) (hR : isR.map (fun i => ws[i]?) = wr.map some) (hn : va_nd isR = true) (hdis : ∀ i ∈ isR, i ∉ isC)
    (kk : ∀ (r : Int64) (u : S) (H1 : Heap) (locs1 : List Loc), post r u → va_P g.1 classes (wr ++ W1 u) H1 → va_D A (wr ++ W1 u) → va_S A s.heap H1 locs1 → W p l e R s m args below meth c H1 locs1 (cells + mc) (slots + ms) Q (F0 m (pc + 3) ls (.long r :: rest))) : W p l e R s m args below meth c H locs cells slots Q (F0 m pc ls st0) := by
  have hFc := va_free (wc := wc) hD hS hA isC hC
  refine va_calll hr hS (fun q _ h => hFc q h) hFc (fun r u t H1 locs1 ht hvm hp hB hz1 hk1 hS1 => ?_)
  obtain ⟨hP1, hD1⟩ := hB
  rw [ht] at hP1
  obtain ⟨hP2, hD2⟩ := va_join hP hD isC isR hC hR hn hdis hk1 hFc hP1 hD1
  exact kk r u H1 locs1 hp hP2 hD2 hS1
/-- a new array, of the class that the world knows -/
theorem tw_newa (E : tw_E p s m args meth c cc nL rt own nm) {atype : ArrayType} {ty : FieldType} {cA : ClassId} (hty : newarray.typeOf atype = ty) (harr : Cond.arrayClass ty ∈ tw_tbl) (hra : ∀ (U : State) (q : ClassId), va_RA U q ty = (U.vm.findClass ("[" ++ ty.toString) = some q)) (hK : va_K g.1 classes (tw_ty g) s) (t0 : Nat) (ht : (tw_ty g)[t0]? = some (cA, ty))
    (hP : va_P g.1 classes ws H) (hD : va_D A ws) (hS : va_S A s.heap H locs) (hA : ∀ q, s.heap.size ≤ q → A q)
    {k : Int32} {N' : Nat} {a0 : vp_A} (ha : ∀ cA : ClassId, vp_cell cA a0 = arrV cA N' (fun _ => defaultValue ty)) (hn : ¬ k < 0) (hN : k.toNatClampNeg = N') (hbytes : N' * componentBytes ty ≤ 536870912) (hcells : cells + 1 ≤ R.cells) (hslots : slots + N' ≤ R.slots) (hdg : decode cc pc = .ok (.newarray atype, 2))
    (kk : ∀ (q : Nat) (H1 : Heap), va_P g.1 classes (ws ++ [(q, .inl (cA, a0))]) H1 → va_D A (ws ++ [(q, .inl (cA, a0))]) → va_S A s.heap H1 locs →
      W p l e R s m args below meth c H1 locs (cells + 1) (slots + N') Q (F0 m (pc + 2) ls (.ref q :: rest))) : W p l e R s m args below meth c H locs cells slots Q (F0 m pc ls (.int k :: rest)) := by
  obtain ⟨hx, hb, hml, -, hown, hts, -, -⟩ := E
  refine va_newa hx hb (by rw [hty]; exact hts _ harr) hty hK hP hD hS hA ha hn hN hbytes hcells hslots hdg (fun q cA' H1 hK1 hP1 hD1 hS1 => ?_)
  have h1 := (hK.2 t0 _ ht).2
  have h2 := (hK1.2 (tw_ty g).length (cA', ty) (by simp)).2
  rw [hra] at h1 h2
  cases h1.symm.trans h2
  exact kk q H1 hP1 hD1 hS1
/-- ends -/
theorem tw_iret {S : Type} {post : Int32 → S → Prop} {W1 : S → va_W} {v : Int32} (E : tw_E p s m args meth c cc nL (some .int) own nm) (hS : va_S A s.heap H locs) (u : S) (hq : post v u) (hP : va_P g.1 classes (W1 u) H) (hD : va_D A (W1 u)) (hdg : decode cc pc = .ok (.ireturn, 1)) :
    W p l e R s m args below meth c H locs cells slots (MQ below (tw_Qi g post W1 A) args s cells slots A) (F0 m pc ls [.int v]) :=
  W.iret E.1 E.2.1 E.2.2.2.1 (fun t ht _ => ⟨⟨v, u, rfl, hq, by rw [ht]; exact hP, hD⟩, hS.F ht⟩) hS.2.2 hdg E.2.2.2.2.2.2.1
theorem tw_zret {S : Type} {post : Int32 → S → Prop} {W1 : S → va_W} {v : Int32} {ty : FieldType} (E : tw_E p s m args meth c cc nL (some ty) own nm) (hS : va_S A s.heap H locs) (u : S) (hnar : narrow ty (.int v) = .int v) (hq : post v u) (hP : va_P g.1 classes (W1 u) H) (hD : va_D A (W1 u)) (hdg : decode cc pc = .ok (.ireturn, 1)) :
    W p l e R s m args below meth c H locs cells slots (MQ below (tw_Qi g post W1 A) args s cells slots A) (F0 m pc ls [.int v]) :=
  W.zret E.1 E.2.1 E.2.2.2.1 hnar (fun t ht _ => ⟨⟨v, u, rfl, hq, by rw [ht]; exact hP, hD⟩, hS.F ht⟩) hS.2.2 hdg E.2.2.2.2.2.2.1
theorem tw_lret {S : Type} {post : Int64 → S → Prop} {W1 : S → va_W} {v : Int64} (E : tw_E p s m args meth c cc nL (some .long) own nm) (hS : va_S A s.heap H locs) (u : S) (hq : post v u) (hP : va_P g.1 classes (W1 u) H) (hD : va_D A (W1 u)) (hdg : decode cc pc = .ok (.lreturn, 1)) :
    W p l e R s m args below meth c H locs cells slots (MQ below (tw_Ql g post W1 A) args s cells slots A) (F0 m pc ls [.long v]) :=
  W.lret E.1 E.2.1 E.2.2.2.1 (fun t ht _ => ⟨⟨v, u, rfl, hq, by rw [ht]; exact hP, hD⟩, hS.F ht⟩) hS.2.2 hdg E.2.2.2.2.2.2.1
theorem tw_vret {S : Type} {post : S → Prop} {W1 : S → va_W} (E : tw_E p s m args meth c cc nL none own nm) (hS : va_S A s.heap H locs) (u : S) (hq : post u) (hP : va_P g.1 classes (W1 u) H) (hD : va_D A (W1 u)) (hdg : decode cc pc = .ok (.return_, 1)) :
    W p l e R s m args below meth c H locs cells slots (MQ below (tw_Qv g post W1 A) args s cells slots A) (F0 m pc ls []) :=
  W.vret E.1 E.2.1 E.2.2.2.1 (fun t ht _ => ⟨⟨u, rfl, hq, by rw [ht]; exact hP, hD⟩, hS.F ht⟩) hS.2.2 hdg E.2.2.2.2.2.2.1
theorem tw_isret {post : Int32 → Prop} {v : Int32} (E : tw_E p s m args meth c cc nL (some .int) own nm) (hq : post v) (hdg : decode cc pc = .ok (.ireturn, 1)) :
    W p l e R s m args below meth c s.heap [] 0 0 (MQ below (vp_Si post) args s 0 0 (fun _ => False)) (F0 m pc ls [.int v]) :=
  W.iret E.1 E.2.1 E.2.2.2.1 (fun t ht _ => ⟨v, rfl, hq, ht⟩) (fun _ h => by cases h) hdg E.2.2.2.2.2.2.1
theorem tw_zsret {post : Int32 → Prop} {v : Int32} {ty : FieldType} (E : tw_E p s m args meth c cc nL (some ty) own nm) (hnar : narrow ty (.int v) = .int v) (hq : post v) (hdg : decode cc pc = .ok (.ireturn, 1)) :
    W p l e R s m args below meth c s.heap [] 0 0 (MQ below (vp_Si post) args s 0 0 (fun _ => False)) (F0 m pc ls [.int v]) :=
  W.zret E.1 E.2.1 E.2.2.2.1 hnar (fun t ht _ => ⟨v, rfl, hq, ht⟩) (fun _ h => by cases h) hdg E.2.2.2.2.2.2.1
theorem tw_lsret {post : Int64 → Prop} {v : Int64} (E : tw_E p s m args meth c cc nL (some .long) own nm) (hq : post v) (hdg : decode cc pc = .ok (.lreturn, 1)) :
    W p l e R s m args below meth c s.heap [] 0 0 (MQ below (vp_Sl post) args s 0 0 (fun _ => False)) (F0 m pc ls [.long v]) :=
  W.lret E.1 E.2.1 E.2.2.2.1 (fun t ht _ => ⟨v, rfl, hq, ht⟩) (fun _ h => by cases h) hdg E.2.2.2.2.2.2.1
theorem tw_objInit (E : tw_E p s m args meth c cc nL rt own nm) (hlk : Cond.methodLink own idx Lib.objectInit ∈ tw_tbl) (hmi : Cond.instanceMethod Lib.objectInit ∈ tw_tbl) (hcd : Cond.code Lib.objectInit ⟨#[0xb1]⟩ 1 none ∈ tw_tbl) (hls : ls.size = nL) (hfr : 1 ≤ R.frames) (hlo : (rest.map fun v => v.category).sum + 12 ≤ R.locals) (hdg : decode cc pc = .ok (.invokespecial idx, 3))
    (kk : W p l e R s m args below meth c H locs cells slots Q (F0 m (pc + 3) ls rest)) : W p l e R s m args below meth c H locs cells slots Q (F0 m pc ls (.ref b :: rest)) :=
  W.objInit E.1 E.2.1 E.2.2.2.2.1 (E.2.2.2.2.2.1 _ hlk) (E.2.2.2.2.2.1 _ hmi) (E.2.2.2.2.2.1 _ hcd) rfl (by rw [E.2.2.1]; exact hls) rfl hdg hfr (by show 2 * 0 + _ + _ ≤ _; omega) kk
end TWR
theorem tw_metW {l : Launch} {g : tw_G} {y : MethodName} {cc : ByteArray} {maxL : Nat} {ret : Option FieldType} {av : List Value} {ws : va_W} {sz : Nat} {rm : Room} {Qc : (Nat → Prop) → Array Value → State → Outcome → State → Prop} {mc ms : Nat}
    (hy : plainName y.cls = true) (hn : (lg_sl av).length ≤ maxL)
    (body : ∀ (p : Program) (e : Env) (s : State) (m : MethodId) (below : List Frame) (meth : Method) (c : Code) (ls : Array Slot) (H : Heap) (A : Nat → Prop), tw_E p s m av.toArray meth c cc maxL ret y.cls y.name → tw_B s → va_K g.1 classes (tw_ty g) s → tw_CX g A s s.heap → va_P g.1 classes ws H → va_D A ws → va_S A s.heap H [] → (∀ q, s.heap.size ≤ q → A q) → lv_has ls maxL (lv_args 0 av) →
      W p l e rm s m av.toArray below meth c H [] 0 0 (MQ below (Qc A) av.toArray s mc ms A) (F0 m 0 ls [])) :
    Met l y [.code y cc maxL ret] rm (tw_P g av ws sz) (Qc (va_A ws sz)) mc ms (va_A ws sz) :=
  tw_met (free := fun A => A) hy hn fun p e s m below meth c ls A E hB hK hZ hP hD hS hA hl => body p e s m below meth c ls s.heap A E hB hK hZ hP hD hS hA hl
section TWQ
variable {p : Program} {l : Launch} {e : Env} {R : Room} {s : State} {m : MethodId} {args : Array Value} {below : List Frame} {meth : Method} {c : Code} {H : Heap} {locs : List Loc} {cells slots : Nat} {Q : State → Prop} {pc : Nat} {ls : Array Slot} {rest : List Value}
theorem tw_ri {e1 e2 : Int32} (h : e1 = e2) (kk : W p l e R s m args below meth c H locs cells slots Q (F0 m pc ls (.int e2 :: rest))) : W p l e R s m args below meth c H locs cells slots Q (F0 m pc ls (.int e1 :: rest)) := h ▸ kk
theorem tw_rl {e1 e2 : Int64} (h : e1 = e2) (kk : W p l e R s m args below meth c H locs cells slots Q (F0 m pc ls (.long e2 :: rest))) : W p l e R s m args below meth c H locs cells slots Q (F0 m pc ls (.long e1 :: rest)) := h ▸ kk
end TWQ
