/-! String constants: their length, and rows for calls on them. -/
abbrev sl (i : Nat) : Nat := (st_own i).2.2.2.length
theorem sl_le : ∀ i, i < 25 → sl i ≤ 8 := by decide +kernel
/-- a reader that answers nothing -/
def vp_Sv : Array Value → State → Outcome → State → Prop := fun _ st o t => o = .returned none ∧ t.heap = st.heap
/-- a reader that answers a reference -/
def vp_Sr (post : Nat → Prop) : Array Value → State → Outcome → State → Prop := fun _ st o t => ∃ r : Nat, o = .returned (some (.ref r)) ∧ post r ∧ t.heap = st.heap
section TWS
variable {p : Program} {l : Launch} {e : Env} {R : Room} {s : State} {m : MethodId} {args : Array Value} {below : List Frame} {meth : Method} {c : Code} {H : Heap} {locs : List Loc} {cells slots : Nat} {Q : State → Prop}
variable {cc : ByteArray} {pc nL : Nat} {ls : Array Slot} {rest st0 : List Value} {A : Nat → Prop} {g : tw_G} {rt : Option FieldType} {own nm : String} {ws wc wr : va_W} {mc ms : Nat}
variable {y : MethodName} {bytes : ByteArray} {maxL idx n : Nat} {ret : Option FieldType} {rm : Room} {Qc : Array Value → State → Outcome → State → Prop} {free : Addr → Prop} {As : List Value} {b : Nat}
theorem tw_runK (E : tw_E p s m args meth c cc nL rt own nm) (hB : tw_B s) (hK : va_K g.1 classes (tw_ty g) s) (hZ : tw_CX g A s s.heap) (hM : Met l y [.code y bytes maxL ret] rm (tw_P g (.ref b :: As) [] H.size) Qc mc ms free) (hm : tw_MC y bytes maxL ret n) (hmi : Cond.instanceMethod y ∈ tw_tbl) (hms : Cond.selects y.cls y y ∈ tw_tbl) (hlk : Cond.methodLink own idx y ∈ tw_tbl)
    (hP : va_P g.1 classes ws H) (hD : va_D A ws) (hS : va_S A s.heap H locs) (hA : ∀ q, s.heap.size ≤ q → A q) (hPs : ∃ cell : Cell, H[b]? = some cell ∧ cell.vm.isStatics = false ∧ s.vm.findClass y.cls = some cell.cls)
    (hrc : rm.cells = mc) (hrs : rm.slots = ms) (hR : rm.frames + 1 ≤ R.frames ∧ 8 + (maxL + 11) + rm.locals ≤ R.locals) (hn : As.length = n) (hls : ls.size = nL) (hst : st0 = As.reverse ++ .ref b :: rest) (hrm : (rest.map fun v => v.category).sum ≤ 8) (hf : cells + mc ≤ R.cells ∧ slots + ms ≤ R.slots) (hdg : decode cc pc = .ok (.invokevirtual idx, 3)) :
    va_Run p l e R s m args below meth c H locs cells slots mc ms (F0 m pc ls st0) rest (Qc (Value.ref b :: As).toArray) free := by
  obtain ⟨hx, hb, hml, -, hown, hts, -, -⟩ := E
  obtain ⟨h1, h2, h3, h4⟩ := hm
  exact va_runV (Ts := tw_tbl) ⟨hx, hb, hml, hown, hts⟩ hM ⟨callB_of n hts (tw_good h1 rfl) rfl hrc hrs (hts _ h2) (hts _ hlk) ⟨h3.1, h3.2, h4⟩ hR, hts _ hmi, hts _ hms⟩
    ⟨tw_blind, hPs, tw_pre (av := .ref b :: As) hB hZ hS hA hK hP hD [] rfl rfl⟩ rfl hn hls hst (lv_room hrm) hdg hf
theorem tw_sv {a : Array Value} (hr : va_Run p l e R s m args below meth c H locs cells slots 0 0 (F0 m pc ls st0) rest (vp_Sv a) (fun _ => False))
    (kk : W p l e R s m args below meth c H locs cells slots Q (F0 m (pc + 3) ls rest)) : W p l e R s m args below meth c H locs cells slots Q (F0 m pc ls st0) := by
  intro T hT X
  obtain ⟨v, st₀, t, T', L, h0, X', hL, e1, e2, ⟨hv, hh⟩, st⟩ := hr T hT X
  cases hv
  obtain ⟨t2, a1, b1⟩ := kk T' (by rw [e1, hh, h0]) (Stand.forget X' (fun q h => (hL q h).elim))
  exact ⟨t2, st t2 a1, b1⟩
theorem tw_sr {post : Nat → Prop} {a : Array Value} (hr : va_Run p l e R s m args below meth c H locs cells slots 0 0 (F0 m pc ls st0) rest (vp_Sr post a) (fun _ => False))
    (kk : ∀ r : Nat, post r → W p l e R s m args below meth c H locs cells slots Q (F0 m (pc + 3) ls (.ref r :: rest))) : W p l e R s m args below meth c H locs cells slots Q (F0 m pc ls st0) := by
  intro T hT X
  obtain ⟨v, st₀, t, T', L, h0, X', hL, e1, e2, ⟨r, hv, hp, hh⟩, st⟩ := hr T hT X
  cases hv
  obtain ⟨t2, a1, b1⟩ := kk r hp T' (by rw [e1, hh, h0]) (Stand.forget X' (fun q h => (hL q h).elim))
  exact ⟨t2, st t2 a1, b1⟩
theorem tw_svret (E : tw_E p s m args meth c cc nL none own nm) (hdg : decode cc pc = .ok (.return_, 1)) :
    W p l e R s m args below meth c s.heap [] 0 0 (MQ below vp_Sv args s 0 0 (fun _ => False)) (F0 m pc ls []) :=
  W.vret E.1 E.2.1 E.2.2.2.1 (fun t ht _ => ⟨rfl, ht⟩) (fun _ h => by cases h) hdg E.2.2.2.2.2.2.1
end TWS
theorem tn_char (x : Int32) : narrow .char (.int ((x.toUInt32 % 65536).toInt32)) = .int ((x.toUInt32 % 65536).toInt32) := by
  show Value.int _ = Value.int _
  congr 1
  apply Int32.toBitVec_inj.mp
  apply BitVec.eq_of_toNat_eq
  simp [UInt32.toNat_mod]
theorem tn_sh0 (x : Int32) : x >>> (0 &&& 31) = x := by
  apply Int32.toBitVec_inj.mp
  rw [Int32.toBitVec_shiftRight]
  have e : ((0 : Int32) &&& 31).toBitVec.smod 32 = 0#32 := by decide
  rw [e]
  simp
theorem sf_lt75 {m : Nat} (h1 : m ≤ 75) (h : ¬ 75 ≤ nI m) : m + 1 ≤ 75 := tn_nle (a := 75) h (by decide) (by omega)
theorem sf_in75 {m : Nat} (h1 : m ≤ 75) (h : ¬ 75 ≤ nI m) : vp_in (nI m) 75 := vp_in_nI (sf_lt75 h1 h) (by decide)
theorem sf_pass {n at1 fa fp : Int32} {k : Int64} {r : Int32} {u : Int32 × Int32 × Int32} (h : (im_h n at1 k = 1 ∧ r = 1 ∧ u = (at1 + k.toInt32, fa, fp)) ∨ (im_h n at1 k = 0 ∧ r = 0 ∧ u = (at1, 1, at1))) : r = 0 ∨ r = 1 := by
  rcases h with ⟨-, h, -⟩ | ⟨-, h, -⟩
  · exact Or.inr h
  · exact Or.inl h
