theorem tw_srret {p : Program} {l : Launch} {e : Env} {R : Room} {s : State} {m : MethodId} {args : Array Value} {below : List Frame} {meth : Method} {c : Code} {cc : ByteArray} {pc nL : Nat} {ls : Array Slot} {own nm n : String} {post : Nat → Prop} {a : Nat} (E : tw_E p s m args meth c cc nL (some (.object n)) own nm) (hq : post a) (hdg : decode cc pc = .ok (.areturn, 1)) :
    W p l e R s m args below meth c s.heap [] 0 0 (MQ below (vp_Sr post) args s 0 0 (fun _ => False)) (F0 m pc ls [.ref a]) :=
  W.aret E.1 E.2.1 E.2.2.2.1 (Or.inl ⟨n, rfl⟩) (Or.inr ⟨a, rfl⟩) (fun t ht _ => ⟨a, rfl, hq, ht⟩) (fun _ h => by cases h) hdg E.2.2.2.2.2.2.1
theorem sf_b256 {f : Nat → Int32} {n : Nat} {i r : Int32} (h : r = im_b f n i) : ∃ j, j < 256 ∧ r = nI j := by
  obtain ⟨j, hj, e⟩ := im_b_lt f n i
  exact ⟨j, hj, h.trans e⟩
