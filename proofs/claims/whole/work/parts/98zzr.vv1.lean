set_option maxHeartbeats 4000000 in
set_option maxRecDepth 100000 in
theorem g_Mod_goOnN (l : Launch) (g : tw_G) (sz : Nat) (h0 : Nat) (q : Nat → Nat) (rf : Int32) (n : Nat) (mm : Int32) (mb : Int32) (av : Nat) (ev : Nat) (wi : Int32) (mn : Nat) (tp : Int32) (tc : Int32) (sc : Int32) (nf : Nat) (fd : Nat) (me : Nat) (mp : Int32) (xn : Nat) (mt : Nat) (wh : Nat) (tq : Nat) (ag : Nat) (an : Int32) (ig : Int32) (nw : Nat → Int32) (fa : Int32) (fp : Int32) (dp : Nat → Int32) (iw : Nat → Int32) (kd : Nat → Int32) (tt : Nat) (dd : Nat) (ht6 : tt < 600) (hd64 : dd ≤ 64) (hFR : FRG dp iw kd) (hr3 : ¬ nw 0 = 3) (hn3 : ¬ nw 64 = 3) : Met l y_Mod_goOn [.code y_Mod_goOn b_Mod_goOn 10 none] ({ frames := 1, cells := 0, slots := 0, locals := 22 }) (tw_P g [.ref h0, .int (nI tt), .ref (q 47), .int (nI dd)] [(h0, .inr (10, mob q rf n mm mb fa fp av ev wi mn tp tc sc nf fd me mp xn mt wh tq ag an ig)), ((q 41), aI g 600 dp), ((q 42), aZ g 600 iw), ((q 43), aI g 76800 kd), ((q 47), aI g 128 nw)] sz) (tw_Qv g (fun (u : Int32 × Int32 × (Nat → Int32) × (Nat → Int32) × (Nat → Int32)) => (u.1 = 0 → fa = 0) ∧ (FRG u.2.2.1 u.2.2.2.1 u.2.2.2.2) ∧ (MU u.2.2.1 u.2.2.2.1 u.2.2.2.2 ≤ MU dp iw kd)) (fun u : Int32 × Int32 × (Nat → Int32) × (Nat → Int32) × (Nat → Int32) => [(h0, .inr (10, mob q rf n mm mb u.1 u.2.1 av ev wi mn tp tc sc nf fd me mp xn mt wh tq ag an ig)), ((q 41), aI g 600 u.2.2.1), ((q 42), aZ g 600 u.2.2.2.1), ((q 43), aI g 76800 u.2.2.2.2), ((q 47), aI g 128 nw)]) (va_A [(h0, .inr (10, mob q rf n mm mb fa fp av ev wi mn tp tc sc nf fd me mp xn mt wh tq ag an ig)), ((q 41), aI g 600 dp), ((q 42), aZ g 600 iw), ((q 43), aI g 76800 kd), ((q 47), aI g 128 nw)] sz)) 0 0 (va_A [(h0, .inr (10, mob q rf n mm mb fa fp av ev wi mn tp tc sc nf fd me mp xn mt wh tq ag an ig)), ((q 41), aI g 600 dp), ((q 42), aZ g 600 iw), ((q 43), aI g 76800 kd), ((q 47), aI g 128 nw)] sz) := by
  refine tw_metW (l := l) (g := g) (y := y_Mod_goOn) (cc := b_Mod_goOn) (maxL := 10) (ret := none) (rm := { frames := 1, cells := 0, slots := 0, locals := 22 }) (mc := 0) (ms := 0) (av := [.ref h0, .int (nI tt), .ref (q 47), .int (nI dd)]) (ws := [(h0, .inr (10, mob q rf n mm mb fa fp av ev wi mn tp tc sc nf fd me mp xn mt wh tq ag an ig)), ((q 41), aI g 600 dp), ((q 42), aZ g 600 iw), ((q 43), aI g 76800 kd), ((q 47), aI g 128 nw)]) (sz := sz) (Qc := fun A => (tw_Qv g (fun (u : Int32 × Int32 × (Nat → Int32) × (Nat → Int32) × (Nat → Int32)) => (u.1 = 0 → fa = 0) ∧ (FRG u.2.2.1 u.2.2.2.1 u.2.2.2.2) ∧ (MU u.2.2.1 u.2.2.2.1 u.2.2.2.2 ≤ MU dp iw kd)) (fun u : Int32 × Int32 × (Nat → Int32) × (Nat → Int32) × (Nat → Int32) => [(h0, .inr (10, mob q rf n mm mb u.1 u.2.1 av ev wi mn tp tc sc nf fd me mp xn mt wh tq ag an ig)), ((q 41), aI g 600 u.2.2.1), ((q 42), aZ g 600 u.2.2.2.1), ((q 43), aI g 76800 u.2.2.2.2), ((q 47), aI g 128 nw)]) A)) (by decide) (Nat.le_of_ble_eq_true rfl) ?_
  intro p e s m below meth c ls H A E hB hK hZ hP hD hS hA hl
  obtain ⟨hx, hb, hml, hr, hown, hts, hlocks, hin⟩ := id E
  have hl : lv_has ls 10 [(0, .ref h0), (1, .int (nI tt)), (2, .ref (q 47)), (3, .int (nI dd))] := hl
  refine lv_sipush (v := 128) hx hb d_Mod_goOn_0 (by decide) ?_
  refine lv_iload_n hx hb d_Mod_goOn_3 rfl (lv_at hl 1 rfl) ?_
  refine lv_imul hx hb d_Mod_goOn_4 ?_
  refine tw_ri (e2 := nI (128 * tt)) (pk_mul 128 tt) ?_
  refine lv_istore hx hb d_Mod_goOn_5 hl (by decide) rfl (fun ls hl => ?_)
  have hl : lv_has ls 10 [(4, .int (nI (128 * tt))), (0, .ref h0), (1, .int (nI tt)), (2, .ref (q 47)), (3, .int (nI dd))] := hl
  refine lv_aload_n hx hb d_Mod_goOn_7 rfl (lv_at hl 1 rfl) ?_
  refine va_get (D := g.1) (ci := 10) (v := .ref (q 41)) (C := R_Mod) (T := F_Mod) (N := 61) hx hb hts in_Mod hown hK hP 0 rfl rfl 41 (by decide) (hts _ wd_1291) (fun _ h9 => h9) rfl d_Mod_goOn_8 ?_
  refine lv_iload_n hx hb d_Mod_goOn_11 rfl (lv_at hl 2 rfl) ?_
  refine va_iald hx hb hK hP 1 0 rfl rfl (vp_in_nI (by omega) (by decide)) d_Mod_goOn_12 ?_
  refine tw_ri (e2 := dp tt) (by rw [nI_clamp (by omega)]) ?_
  refine lv_if_ge (tgt := 94) hx hb d_Mod_goOn_13 (by decide) (fun h13 => ?_) (fun h13 => ?_)
  · refine lv_aload_n hx hb d_Mod_goOn_94 rfl (lv_at hl 1 rfl) ?_
    refine va_get (D := g.1) (ci := 10) (v := .ref (q 41)) (C := R_Mod) (T := F_Mod) (N := 61) hx hb hts in_Mod hown hK hP 0 rfl rfl 41 (by decide) (hts _ wd_1291) (fun _ h9 => h9) rfl d_Mod_goOn_95 ?_
    refine lv_iload_n hx hb d_Mod_goOn_98 rfl (lv_at hl 2 rfl) ?_
    refine va_iald hx hb hK hP 1 0 rfl rfl (vp_in_nI (by omega) (by decide)) d_Mod_goOn_99 ?_
    refine tw_ri (e2 := dp tt) (by rw [nI_clamp (by omega)]) ?_
    refine lv_iload_n hx hb d_Mod_goOn_100 rfl (lv_at hl 4 rfl) ?_
    refine lv_icmp_ne (tgt := 108) hx hb d_Mod_goOn_101 (by decide) (fun h101 => ?_) (fun h101 => ?_)
    · refine lv_iconst (v := 0) hx hb d_Mod_goOn_108 (by decide) ?_
      refine lv_istore hx hb d_Mod_goOn_109 hl (by decide) rfl (fun ls hl => ?_)
      have hl : lv_has ls 10 [(5, .int 0), (4, .int (nI (128 * tt))), (0, .ref h0), (1, .int (nI tt)), (2, .ref (q 47)), (3, .int (nI dd))] := hl
      refine lv_iconst (v := 0) hx hb d_Mod_goOn_111 (by decide) ?_
      refine lv_istore hx hb d_Mod_goOn_112 hl (by decide) rfl (fun ls hl => ?_)
      have hl : lv_has ls 10 [(6, .int 0), (5, .int 0), (4, .int (nI (128 * tt))), (0, .ref h0), (1, .int (nI tt)), (2, .ref (q 47)), (3, .int (nI dd))] := hl
      have loop114 : ∀ (kq : Nat) (s9 : Int32) (k : Nat) (ls : Array Slot) (H : Heap) (locs : List Loc) , dd - k = kq → (hkd : k ≤ dd) → lv_has ls 10 [(6, .int (nI k)), (5, .int s9), (4, .int (nI (128 * tt))), (0, .ref h0), (1, .int (nI tt)), (2, .ref (q 47)), (3, .int (nI dd))] → va_P g.1 classes [(h0, .inr (10, mob q rf n mm mb fa fp av ev wi mn tp tc sc nf fd me mp xn mt wh tq ag an ig)), ((q 41), aI g 600 dp), ((q 42), aZ g 600 iw), ((q 43), aI g 76800 kd), ((q 47), aI g 128 nw)] H → va_D A [(h0, .inr (10, mob q rf n mm mb fa fp av ev wi mn tp tc sc nf fd me mp xn mt wh tq ag an ig)), ((q 41), aI g 600 dp), ((q 42), aZ g 600 iw), ((q 43), aI g 76800 kd), ((q 47), aI g 128 nw)] → va_S A s.heap H locs → W p l e ({ frames := 1, cells := 0, slots := 0, locals := 22 }) s m [.ref h0, .int (nI tt), .ref (q 47), .int (nI dd)].toArray below meth c H locs 0 0 (MQ below (tw_Qv g (fun (u : Int32 × Int32 × (Nat → Int32) × (Nat → Int32) × (Nat → Int32)) => (u.1 = 0 → fa = 0) ∧ (FRG u.2.2.1 u.2.2.2.1 u.2.2.2.2) ∧ (MU u.2.2.1 u.2.2.2.1 u.2.2.2.2 ≤ MU dp iw kd)) (fun u : Int32 × Int32 × (Nat → Int32) × (Nat → Int32) × (Nat → Int32) => [(h0, .inr (10, mob q rf n mm mb u.1 u.2.1 av ev wi mn tp tc sc nf fd me mp xn mt wh tq ag an ig)), ((q 41), aI g 600 u.2.2.1), ((q 42), aZ g 600 u.2.2.2.1), ((q 43), aI g 76800 u.2.2.2.2), ((q 47), aI g 128 nw)]) A) [.ref h0, .int (nI tt), .ref (q 47), .int (nI dd)].toArray s 0 0 A) (F0 m 114 ls []) := by
        intro kq
        induction kq using Nat.strongRecOn with
        | _ kq ih =>
          intro s9 k ls H locs hk hkd hl hP hD hS
          refine lv_iload hx hb d_Mod_goOn_114 (lv_at hl 1 rfl) ?_
          refine lv_if_eq (tgt := 164) hx hb d_Mod_goOn_116 (by decide) (fun h116 => ?_) (fun h116 => ?_)
          · refine lv_iload hx hb d_Mod_goOn_164 (lv_at hl 1 rfl) ?_
            refine lv_if_ne (tgt := 180) hx hb d_Mod_goOn_166 (by decide) (fun h166 => ?_) (fun h166 => ?_)
            · exact absurd h116 h166
            · refine lv_aload_n hx hb d_Mod_goOn_169 rfl (lv_at hl 3 rfl) ?_
              refine lv_bipush (v := 25) hx hb d_Mod_goOn_170 (by decide) ?_
              refine lv_aload_n hx hb d_Mod_goOn_172 rfl (lv_at hl 3 rfl) ?_
              refine va_get (D := g.1) (ci := 10) (v := .int (nI wh)) (C := R_Mod) (T := F_Mod) (N := 61) hx hb hts in_Mod hown hK hP 0 rfl rfl 45 (by decide) (hts _ wd_1295) (fun _ h9 => h9) rfl d_Mod_goOn_173 ?_
              refine tw_wv (wr := [((q 41), aI g 600 dp), ((q 42), aZ g 600 iw), ((q 43), aI g 76800 kd), ((q 47), aI g 128 nw)]) (tw_runV (ws := [(h0, .inr (10, mob q rf n mm mb fa fp av ev wi mn tp tc sc nf fd me mp xn mt wh tq ag an ig)), ((q 41), aI g 600 dp), ((q 42), aZ g 600 iw), ((q 43), aI g 76800 kd), ((q 47), aI g 128 nw)]) (wc := [(h0, .inr (10, mob q rf n mm mb fa fp av ev wi mn tp tc sc nf fd me mp xn mt wh tq ag an ig))]) (As := [.int 25, .int (nI wh)]) (rest := []) E hB hK hZ (g_Mod_fail l g H.size h0 q rf n mm mb av ev wi mn tp tc sc nf fd me mp xn mt wh tq ag an ig fa fp 25 (nI wh) (by decide)) mc_Mod_fail mi_Mod_fail me_Mod_fail wd_1478 hP hD hS hA [0] rfl (by decide) 0 rfl rfl rfl rfl rfl (by decide) rfl hl.1 rfl (Nat.le_of_ble_eq_true rfl) (by decide) d_Mod_goOn_176) hP hD hS hA [0] [1, 2, 3, 4] rfl rfl (by decide) (by decide) (fun u2 H locs hr1 hP hD hS => ?_)
              try dsimp only at hr1
              have hP : va_P g.1 classes [((q 41), aI g 600 dp), ((q 42), aZ g 600 iw), ((q 43), aI g 76800 kd), ((q 47), aI g 128 nw), (h0, .inr (10, mob q rf n mm mb u2.1 u2.2 av ev wi mn tp tc sc nf fd me mp xn mt wh tq ag an ig))] H := hP
              have hD : va_D A [((q 41), aI g 600 dp), ((q 42), aZ g 600 iw), ((q 43), aI g 76800 kd), ((q 47), aI g 128 nw), (h0, .inr (10, mob q rf n mm mb u2.1 u2.2 av ev wi mn tp tc sc nf fd me mp xn mt wh tq ag an ig))] := hD
              have hP : va_P g.1 classes [(h0, .inr (10, mob q rf n mm mb u2.1 u2.2 av ev wi mn tp tc sc nf fd me mp xn mt wh tq ag an ig)), ((q 41), aI g 600 dp), ((q 42), aZ g 600 iw), ((q 43), aI g 76800 kd), ((q 47), aI g 128 nw)] H := hP.sub [4, 0, 1, 2, 3] rfl
              have hD : va_D A [(h0, .inr (10, mob q rf n mm mb u2.1 u2.2 av ev wi mn tp tc sc nf fd me mp xn mt wh tq ag an ig)), ((q 41), aI g 600 dp), ((q 42), aZ g 600 iw), ((q 43), aI g 76800 kd), ((q 47), aI g 128 nw)] := hD.sub [4, 0, 1, 2, 3] (by decide) rfl
              have hp2_0 := hr1
              exact tw_vret E hS (u2.1, u2.2, dp, iw, kd) (⟨(fun h => absurd h hp2_0), hFR, (Nat.le_refl _)⟩) hP hD d_Mod_goOn_179
          · refine lv_iload hx hb d_Mod_goOn_119 (lv_at hl 0 rfl) ?_
            refine lv_iload_n hx hb d_Mod_goOn_121 rfl (lv_at hl 6 rfl) ?_
            refine lv_icmp_ge (tgt := 164) hx hb d_Mod_goOn_122 (by decide) (fun h122 => ?_) (fun h122 => ?_)
            · refine lv_iload hx hb d_Mod_goOn_164 (lv_at hl 1 rfl) ?_
              refine lv_if_ne (tgt := 180) hx hb d_Mod_goOn_166 (by decide) (fun h166 => ?_) (fun h166 => ?_)
              · refine lv_iconst (v := 0) hx hb d_Mod_goOn_180 (by decide) ?_
                refine lv_istore hx hb d_Mod_goOn_181 hl (by decide) rfl (fun ls hl => ?_)
                have hl : lv_has ls 10 [(6, .int 0), (5, .int s9), (4, .int (nI (128 * tt))), (0, .ref h0), (1, .int (nI tt)), (2, .ref (q 47)), (3, .int (nI dd))] := hl
                refine lv_iconst (v := 0) hx hb d_Mod_goOn_183 (by decide) ?_
                refine lv_istore hx hb d_Mod_goOn_184 hl (by decide) rfl (fun ls hl => ?_)
                have hl : lv_has ls 10 [(7, .int 0), (6, .int 0), (5, .int s9), (4, .int (nI (128 * tt))), (0, .ref h0), (1, .int (nI tt)), (2, .ref (q 47)), (3, .int (nI dd))] := hl
                have loop186 : ∀ (kq : Nat) (c9 : Int32) (k : Nat) (kd9 : Nat → Int32) (ls : Array Slot) (H : Heap) (locs : List Loc) , 64 - k = kq → (hk4 : k ≤ 64) → (hKD : KD3 kd9) → (hCN : CHN c9 (NK kd9) (NK kd)) → lv_has ls 10 [(7, .int (nI k)), (6, .int c9), (5, .int s9), (4, .int (nI (128 * tt))), (0, .ref h0), (1, .int (nI tt)), (2, .ref (q 47)), (3, .int (nI dd))] → va_P g.1 classes [(h0, .inr (10, mob q rf n mm mb fa fp av ev wi mn tp tc sc nf fd me mp xn mt wh tq ag an ig)), ((q 41), aI g 600 dp), ((q 42), aZ g 600 iw), ((q 43), aI g 76800 kd9), ((q 47), aI g 128 nw)] H → va_D A [(h0, .inr (10, mob q rf n mm mb fa fp av ev wi mn tp tc sc nf fd me mp xn mt wh tq ag an ig)), ((q 41), aI g 600 dp), ((q 42), aZ g 600 iw), ((q 43), aI g 76800 kd9), ((q 47), aI g 128 nw)] → va_S A s.heap H locs → W p l e ({ frames := 1, cells := 0, slots := 0, locals := 22 }) s m [.ref h0, .int (nI tt), .ref (q 47), .int (nI dd)].toArray below meth c H locs 0 0 (MQ below (tw_Qv g (fun (u : Int32 × Int32 × (Nat → Int32) × (Nat → Int32) × (Nat → Int32)) => (u.1 = 0 → fa = 0) ∧ (FRG u.2.2.1 u.2.2.2.1 u.2.2.2.2) ∧ (MU u.2.2.1 u.2.2.2.1 u.2.2.2.2 ≤ MU dp iw kd)) (fun u : Int32 × Int32 × (Nat → Int32) × (Nat → Int32) × (Nat → Int32) => [(h0, .inr (10, mob q rf n mm mb u.1 u.2.1 av ev wi mn tp tc sc nf fd me mp xn mt wh tq ag an ig)), ((q 41), aI g 600 u.2.2.1), ((q 42), aZ g 600 u.2.2.2.1), ((q 43), aI g 76800 u.2.2.2.2), ((q 47), aI g 128 nw)]) A) [.ref h0, .int (nI tt), .ref (q 47), .int (nI dd)].toArray s 0 0 A) (F0 m 186 ls []) := by
                  intro kq
                  induction kq using Nat.strongRecOn with
                  | _ kq ih186 =>
                    intro c9 k kd9 ls H locs hk186 hk4 hKD hCN hl hP hD hS
                    refine lv_iload hx hb d_Mod_goOn_186 (lv_at hl 0 rfl) ?_
                    refine lv_bipush (v := 64) hx hb d_Mod_goOn_188 (by decide) ?_
                    refine lv_icmp_ge (tgt := 243) hx hb d_Mod_goOn_190 (by decide) (fun h190 => ?_) (fun h190 => ?_)
                    · have h190 := tn_le (a := 64) h190 (by decide) (by omega)
                      refine lv_iconst (v := 0) hx hb d_Mod_goOn_243 (by decide) ?_
                      refine lv_istore hx hb d_Mod_goOn_244 hl (by decide) rfl (fun ls hl => ?_)
                      have hl : lv_has ls 10 [(7, .int 0), (6, .int c9), (5, .int s9), (4, .int (nI (128 * tt))), (0, .ref h0), (1, .int (nI tt)), (2, .ref (q 47)), (3, .int (nI dd))] := hl
                      have loop246 : ∀ (kq : Nat) (c8 : Int32) (k : Nat) (kd8 : Nat → Int32) (ls : Array Slot) (H : Heap) (locs : List Loc) , 64 - k = kq → (hk48 : k ≤ 64) → (hKD8 : KD3 kd8) → (hCN8 : CHN c8 (NK kd8) (NK kd)) → lv_has ls 10 [(7, .int (nI k)), (6, .int c8), (4, .int (nI (128 * tt))), (0, .ref h0), (1, .int (nI tt)), (2, .ref (q 47)), (3, .int (nI dd))] → va_P g.1 classes [(h0, .inr (10, mob q rf n mm mb fa fp av ev wi mn tp tc sc nf fd me mp xn mt wh tq ag an ig)), ((q 41), aI g 600 dp), ((q 42), aZ g 600 iw), ((q 43), aI g 76800 kd8), ((q 47), aI g 128 nw)] H → va_D A [(h0, .inr (10, mob q rf n mm mb fa fp av ev wi mn tp tc sc nf fd me mp xn mt wh tq ag an ig)), ((q 41), aI g 600 dp), ((q 42), aZ g 600 iw), ((q 43), aI g 76800 kd8), ((q 47), aI g 128 nw)] → va_S A s.heap H locs → W p l e ({ frames := 1, cells := 0, slots := 0, locals := 22 }) s m [.ref h0, .int (nI tt), .ref (q 47), .int (nI dd)].toArray below meth c H locs 0 0 (MQ below (tw_Qv g (fun (u : Int32 × Int32 × (Nat → Int32) × (Nat → Int32) × (Nat → Int32)) => (u.1 = 0 → fa = 0) ∧ (FRG u.2.2.1 u.2.2.2.1 u.2.2.2.2) ∧ (MU u.2.2.1 u.2.2.2.1 u.2.2.2.2 ≤ MU dp iw kd)) (fun u : Int32 × Int32 × (Nat → Int32) × (Nat → Int32) × (Nat → Int32) => [(h0, .inr (10, mob q rf n mm mb u.1 u.2.1 av ev wi mn tp tc sc nf fd me mp xn mt wh tq ag an ig)), ((q 41), aI g 600 u.2.2.1), ((q 42), aZ g 600 u.2.2.2.1), ((q 43), aI g 76800 u.2.2.2.2), ((q 47), aI g 128 nw)]) A) [.ref h0, .int (nI tt), .ref (q 47), .int (nI dd)].toArray s 0 0 A) (F0 m 246 ls []) := by
                        intro kq
                        induction kq using Nat.strongRecOn with
                        | _ kq ih246 =>
                          intro c8 k kd8 ls H locs hk246 hk48 hKD8 hCN8 hl hP hD hS
                          refine lv_iload hx hb d_Mod_goOn_246 (lv_at hl 0 rfl) ?_
                          refine lv_bipush (v := 64) hx hb d_Mod_goOn_248 (by decide) ?_
                          refine lv_icmp_ge (tgt := 353) hx hb d_Mod_goOn_250 (by decide) (fun h250 => ?_) (fun h250 => ?_)
                          · have h250 := tn_le (a := 64) h250 (by decide) (by omega)
                            refine lv_aload_n hx hb d_Mod_goOn_353 rfl (lv_at hl 3 rfl) ?_
                            refine va_get (D := g.1) (ci := 10) (v := .ref (q 42)) (C := R_Mod) (T := F_Mod) (N := 61) hx hb hts in_Mod hown hK hP 0 rfl rfl 42 (by decide) (hts _ wd_1292) (fun _ h9 => h9) rfl d_Mod_goOn_354 ?_
                            refine lv_iload_n hx hb d_Mod_goOn_357 rfl (lv_at hl 4 rfl) ?_
                            refine lv_aload_n hx hb d_Mod_goOn_358 rfl (lv_at hl 3 rfl) ?_
                            refine va_get (D := g.1) (ci := 10) (v := .ref (q 42)) (C := R_Mod) (T := F_Mod) (N := 61) hx hb hts in_Mod hown hK hP 0 rfl rfl 42 (by decide) (hts _ wd_1292) (fun _ h9 => h9) rfl d_Mod_goOn_359 ?_
                            refine lv_iload_n hx hb d_Mod_goOn_362 rfl (lv_at hl 4 rfl) ?_
                            refine va_zald hx hb hK hP 2 3 rfl rfl (vp_in_nI (by omega) (by decide)) d_Mod_goOn_363 ?_
                            refine tw_ri (e2 := iw tt) (by rw [nI_clamp (by omega)]) ?_
                            refine lv_if_ne (tgt := 372) hx hb d_Mod_goOn_364 (by decide) (fun h364 => ?_) (fun h364 => ?_)
                            · refine lv_iconst (v := 1) hx hb d_Mod_goOn_372 (by decide) ?_
                              refine lv_goto (tgt := 377) hx hb d_Mod_goOn_373 (by decide) ?_
                              refine va_zast hx hb hK hP hD hS 2 3 rfl rfl (vp_in_nI (by omega) (by decide)) d_Mod_goOn_377 (fun H locs hP hD hS => ?_)
                              have hP : va_P g.1 classes [(h0, .inr (10, mob q rf n mm mb fa fp av ev wi mn tp tc sc nf fd me mp xn mt wh tq ag an ig)), ((q 41), aI g 600 dp), ((q 42), aZ g 600 (upd iw (nI tt).toNatClampNeg (vp_nar .boolean 1))), ((q 43), aI g 76800 kd8), ((q 47), aI g 128 nw)] H := hP
                              have hD : va_D A [(h0, .inr (10, mob q rf n mm mb fa fp av ev wi mn tp tc sc nf fd me mp xn mt wh tq ag an ig)), ((q 41), aI g 600 dp), ((q 42), aZ g 600 (upd iw (nI tt).toNatClampNeg (vp_nar .boolean 1))), ((q 43), aI g 76800 kd8), ((q 47), aI g 128 nw)] := hD
                              have e9 : upd iw (nI tt).toNatClampNeg (vp_nar .boolean 1) = upd iw tt 1 := by rw [nI_clamp (by omega)]; rfl
                              rw [e9] at hP hD
                              exact tw_vret E hS (fa, fp, dp, upd iw tt 1, kd8) (⟨(fun h => h), (hFR.again h13 hKD8), (mu_keep ht6 (Or.inl ⟨by rw [wC_1 h364]; exact Nat.le_refl _, chn_le hCN8⟩))⟩) hP hD d_Mod_goOn_378
                            · refine lv_iload hx hb d_Mod_goOn_367 (lv_at hl 1 rfl) ?_
                              refine lv_if_eq (tgt := 376) hx hb d_Mod_goOn_369 (by decide) (fun h369 => ?_) (fun h369 => ?_)
                              · refine lv_iconst (v := 0) hx hb d_Mod_goOn_376 (by decide) ?_
                                refine va_zast hx hb hK hP hD hS 2 3 rfl rfl (vp_in_nI (by omega) (by decide)) d_Mod_goOn_377 (fun H locs hP hD hS => ?_)
                                have hP : va_P g.1 classes [(h0, .inr (10, mob q rf n mm mb fa fp av ev wi mn tp tc sc nf fd me mp xn mt wh tq ag an ig)), ((q 41), aI g 600 dp), ((q 42), aZ g 600 (upd iw (nI tt).toNatClampNeg (vp_nar .boolean 0))), ((q 43), aI g 76800 kd8), ((q 47), aI g 128 nw)] H := hP
                                have hD : va_D A [(h0, .inr (10, mob q rf n mm mb fa fp av ev wi mn tp tc sc nf fd me mp xn mt wh tq ag an ig)), ((q 41), aI g 600 dp), ((q 42), aZ g 600 (upd iw (nI tt).toNatClampNeg (vp_nar .boolean 0))), ((q 43), aI g 76800 kd8), ((q 47), aI g 128 nw)] := hD
                                have e9 : upd iw (nI tt).toNatClampNeg (vp_nar .boolean 0) = upd iw tt 0 := by rw [nI_clamp (by omega)]; rfl
                                rw [e9] at hP hD
                                exact tw_vret E hS (fa, fp, dp, upd iw tt 0, kd8) (⟨(fun h => h), (hFR.again h13 hKD8), (mu_keep ht6 (Or.inl ⟨Nat.zero_le _, chn_le hCN8⟩))⟩) hP hD d_Mod_goOn_378
                              · refine lv_iconst (v := 1) hx hb d_Mod_goOn_372 (by decide) ?_
                                refine lv_goto (tgt := 377) hx hb d_Mod_goOn_373 (by decide) ?_
                                refine va_zast hx hb hK hP hD hS 2 3 rfl rfl (vp_in_nI (by omega) (by decide)) d_Mod_goOn_377 (fun H locs hP hD hS => ?_)
                                have hP : va_P g.1 classes [(h0, .inr (10, mob q rf n mm mb fa fp av ev wi mn tp tc sc nf fd me mp xn mt wh tq ag an ig)), ((q 41), aI g 600 dp), ((q 42), aZ g 600 (upd iw (nI tt).toNatClampNeg (vp_nar .boolean 1))), ((q 43), aI g 76800 kd8), ((q 47), aI g 128 nw)] H := hP
                                have hD : va_D A [(h0, .inr (10, mob q rf n mm mb fa fp av ev wi mn tp tc sc nf fd me mp xn mt wh tq ag an ig)), ((q 41), aI g 600 dp), ((q 42), aZ g 600 (upd iw (nI tt).toNatClampNeg (vp_nar .boolean 1))), ((q 43), aI g 76800 kd8), ((q 47), aI g 128 nw)] := hD
                                have e9 : upd iw (nI tt).toNatClampNeg (vp_nar .boolean 1) = upd iw tt 1 := by rw [nI_clamp (by omega)]; rfl
                                rw [e9] at hP hD
                                exact tw_vret E hS (fa, fp, dp, upd iw tt 1, kd8) (⟨(fun h => h), (hFR.again h13 hKD8), (mu_keep ht6 (Or.inr (chn_lt hCN8 h369)))⟩) hP hD d_Mod_goOn_378
                          · have h250 := tn_nle (a := 64) h250 (by decide) (by omega)
                            refine lv_aload_n hx hb d_Mod_goOn_253 rfl (lv_at hl 3 rfl) ?_
                            refine va_get (D := g.1) (ci := 10) (v := .ref (q 43)) (C := R_Mod) (T := F_Mod) (N := 61) hx hb hts in_Mod hown hK hP 0 rfl rfl 43 (by decide) (hts _ wd_1293) (fun _ h9 => h9) rfl d_Mod_goOn_254 ?_
                            refine lv_iload hx hb d_Mod_goOn_257 (lv_at hl 2 rfl) ?_
                            refine lv_iload hx hb d_Mod_goOn_259 (lv_at hl 0 rfl) ?_
                            refine lv_iadd hx hb d_Mod_goOn_261 ?_
                            refine tw_ri (e2 := nI (128 * tt + k)) (nI_add _ _) ?_
                            refine va_iald hx hb hK hP 3 0 rfl rfl (vp_in_nI (by omega) (by decide)) d_Mod_goOn_262 ?_
                            refine tw_ri (e2 := kd8 (128 * tt + k)) (by rw [nI_clamp (by omega)]) ?_
                            refine lv_istore hx hb d_Mod_goOn_263 hl (by decide) rfl (fun ls hl => ?_)
                            have hl : lv_has ls 10 [(8, .int (kd8 (128 * tt + k))), (7, .int (nI k)), (6, .int c8), (4, .int (nI (128 * tt))), (0, .ref h0), (1, .int (nI tt)), (2, .ref (q 47)), (3, .int (nI dd))] := hl
                            refine lv_iload hx hb d_Mod_goOn_265 (lv_at hl 0 rfl) ?_
                            refine lv_iconst (v := 2) hx hb d_Mod_goOn_267 (by decide) ?_
                            refine lv_icmp_ne (tgt := 294) hx hb d_Mod_goOn_268 (by decide) (fun h268 => ?_) (fun h268 => ?_)
                            · refine lv_iload hx hb d_Mod_goOn_294 (lv_at hl 0 rfl) ?_
                              refine lv_iconst (v := 3) hx hb d_Mod_goOn_296 (by decide) ?_
                              refine lv_icmp_ne (tgt := 325) hx hb d_Mod_goOn_297 (by decide) (fun h297 => ?_) (fun h297 => ?_)
                              · refine lv_iconst (v := 0) hx hb d_Mod_goOn_325 (by decide) ?_
                                refine lv_istore hx hb d_Mod_goOn_326 hl (by decide) rfl (fun ls hl => ?_)
                                have hl : lv_has ls 10 [(9, .int 0), (8, .int (kd8 (128 * tt + k))), (7, .int (nI k)), (6, .int c8), (4, .int (nI (128 * tt))), (0, .ref h0), (1, .int (nI tt)), (2, .ref (q 47)), (3, .int (nI dd))] := hl
                                refine lv_iload hx hb d_Mod_goOn_328 (lv_at hl 0 rfl) ?_
                                refine lv_if_eq (tgt := 347) hx hb d_Mod_goOn_330 (by decide) (fun h330 => ?_) (fun h330 => ?_)
                                · refine lv_iinc (k := 2) (v := nI (k + 1)) hx hb d_Mod_goOn_347 hl rfl ((nI_succ k).symm) (by decide) rfl (fun ls hl => ?_)
                                  have hl : lv_has ls 10 [(7, .int (nI (k + 1))), (9, .int 0), (8, .int (kd8 (128 * tt + k))), (6, .int c8), (4, .int (nI (128 * tt))), (0, .ref h0), (1, .int (nI tt)), (2, .ref (q 47)), (3, .int (nI dd))] := hl
                                  refine lv_goto (tgt := 246) hx hb d_Mod_goOn_350 (by decide) ?_
                                  have hP : va_P g.1 classes [(h0, .inr (10, mob q rf n mm mb fa fp av ev wi mn tp tc sc nf fd me mp xn mt wh tq ag an ig)), ((q 41), aI g 600 dp), ((q 42), aZ g 600 iw), ((q 43), aI g 76800 kd8), ((q 47), aI g 128 nw)] H := hP.sub [0, 1, 2, 3, 4] rfl
                                  have hD : va_D A [(h0, .inr (10, mob q rf n mm mb fa fp av ev wi mn tp tc sc nf fd me mp xn mt wh tq ag an ig)), ((q 41), aI g 600 dp), ((q 42), aZ g 600 iw), ((q 43), aI g 76800 kd8), ((q 47), aI g 128 nw)] := hD.sub [0, 1, 2, 3, 4] (by decide) rfl
                                  exact ih246 _ (by omega) c8 (k + 1) kd8 ls _ _ rfl (by omega) hKD8 hCN8 (lv_sub hl [0, 3, 4, 5, 6, 7, 8] rfl) hP hD hS
                                · first | exact absurd h330 (by decide) | exact absurd (by decide) h330
                              · refine lv_iload hx hb d_Mod_goOn_300 (lv_at hl 1 rfl) ?_
                                refine lv_if_eq (tgt := 321) hx hb d_Mod_goOn_302 (by decide) (fun h302 => ?_) (fun h302 => ?_)
                                · refine lv_iconst (v := 1) hx hb d_Mod_goOn_321 (by decide) ?_
                                  refine lv_goto (tgt := 326) hx hb d_Mod_goOn_322 (by decide) ?_
                                  refine lv_istore hx hb d_Mod_goOn_326 hl (by decide) rfl (fun ls hl => ?_)
                                  have hl : lv_has ls 10 [(9, .int 1), (8, .int (kd8 (128 * tt + k))), (7, .int (nI k)), (6, .int c8), (4, .int (nI (128 * tt))), (0, .ref h0), (1, .int (nI tt)), (2, .ref (q 47)), (3, .int (nI dd))] := hl
                                  refine lv_iload hx hb d_Mod_goOn_328 (lv_at hl 0 rfl) ?_
                                  refine lv_if_eq (tgt := 347) hx hb d_Mod_goOn_330 (by decide) (fun h330 => ?_) (fun h330 => ?_)
                                  · first | exact absurd h330 (by decide) | exact absurd (by decide) h330
                                  · refine lv_aload_n hx hb d_Mod_goOn_333 rfl (lv_at hl 5 rfl) ?_
                                    refine va_get (D := g.1) (ci := 10) (v := .ref (q 43)) (C := R_Mod) (T := F_Mod) (N := 61) hx hb hts in_Mod hown hK hP 0 rfl rfl 43 (by decide) (hts _ wd_1293) (fun _ h9 => h9) rfl d_Mod_goOn_334 ?_
                                    refine lv_iload hx hb d_Mod_goOn_337 (lv_at hl 4 rfl) ?_
                                    refine lv_iload hx hb d_Mod_goOn_339 (lv_at hl 2 rfl) ?_
                                    refine lv_iadd hx hb d_Mod_goOn_341 ?_
                                    refine tw_ri (e2 := nI (128 * tt + k)) (nI_add _ _) ?_
                                    refine lv_iconst (v := 0) hx hb d_Mod_goOn_342 (by decide) ?_
                                    refine va_iast hx hb hK hP hD hS 3 0 rfl rfl (vp_in_nI (by omega) (by decide)) d_Mod_goOn_343 (fun H locs hP hD hS => ?_)
                                    have hP : va_P g.1 classes [(h0, .inr (10, mob q rf n mm mb fa fp av ev wi mn tp tc sc nf fd me mp xn mt wh tq ag an ig)), ((q 41), aI g 600 dp), ((q 42), aZ g 600 iw), ((q 43), aI g 76800 (upd kd8 (nI (128 * tt + k)).toNatClampNeg 0)), ((q 47), aI g 128 nw)] H := hP
                                    have hD : va_D A [(h0, .inr (10, mob q rf n mm mb fa fp av ev wi mn tp tc sc nf fd me mp xn mt wh tq ag an ig)), ((q 41), aI g 600 dp), ((q 42), aZ g 600 iw), ((q 43), aI g 76800 (upd kd8 (nI (128 * tt + k)).toNatClampNeg 0)), ((q 47), aI g 128 nw)] := hD
                                    have e9 : upd kd8 (nI (128 * tt + k)).toNatClampNeg 0 = upd kd8 (128 * tt + k) 0 := by rw [nI_clamp (by omega)]
                                    rw [e9] at hP hD
                                    refine lv_iconst (v := 1) hx hb d_Mod_goOn_344 (by decide) ?_
                                    refine lv_istore hx hb d_Mod_goOn_345 hl (by decide) rfl (fun ls hl => ?_)
                                    have hl : lv_has ls 10 [(6, .int 1), (9, .int 1), (8, .int (kd8 (128 * tt + k))), (7, .int (nI k)), (4, .int (nI (128 * tt))), (0, .ref h0), (1, .int (nI tt)), (2, .ref (q 47)), (3, .int (nI dd))] := hl
                                    refine lv_iinc (k := 3) (v := nI (k + 1)) hx hb d_Mod_goOn_347 hl rfl ((nI_succ k).symm) (by decide) rfl (fun ls hl => ?_)
                                    have hl : lv_has ls 10 [(7, .int (nI (k + 1))), (6, .int 1), (9, .int 1), (8, .int (kd8 (128 * tt + k))), (4, .int (nI (128 * tt))), (0, .ref h0), (1, .int (nI tt)), (2, .ref (q 47)), (3, .int (nI dd))] := hl
                                    refine lv_goto (tgt := 246) hx hb d_Mod_goOn_350 (by decide) ?_
                                    have hP : va_P g.1 classes [(h0, .inr (10, mob q rf n mm mb fa fp av ev wi mn tp tc sc nf fd me mp xn mt wh tq ag an ig)), ((q 41), aI g 600 dp), ((q 42), aZ g 600 iw), ((q 43), aI g 76800 (upd kd8 (128 * tt + k) 0)), ((q 47), aI g 128 nw)] H := hP.sub [0, 1, 2, 3, 4] rfl
                                    have hD : va_D A [(h0, .inr (10, mob q rf n mm mb fa fp av ev wi mn tp tc sc nf fd me mp xn mt wh tq ag an ig)), ((q 41), aI g 600 dp), ((q 42), aZ g 600 iw), ((q 43), aI g 76800 (upd kd8 (128 * tt + k) 0)), ((q 47), aI g 128 nw)] := hD.sub [0, 1, 2, 3, 4] (by decide) rfl
                                    exact ih246 _ (by omega) 1 (k + 1) (upd kd8 (128 * tt + k) 0) ls _ _ rfl (by omega) (hKD8.put (fun _ => by decide)) (nk_dn hCN8 (by omega) (by omega) (by rw [h297]; decide)) (lv_sub hl [0, 1, 4, 5, 6, 7, 8] rfl) hP hD hS
                                · have h302 := tn_ne (b := 0) h302
                                  refine lv_aload_n hx hb d_Mod_goOn_305 rfl (lv_at hl 4 rfl) ?_
                                  refine va_get (D := g.1) (ci := 10) (v := .ref (q 43)) (C := R_Mod) (T := F_Mod) (N := 61) hx hb hts in_Mod hown hK hP 0 rfl rfl 43 (by decide) (hts _ wd_1293) (fun _ h9 => h9) rfl d_Mod_goOn_306 ?_
                                  refine lv_iload hx hb d_Mod_goOn_309 (lv_at hl 3 rfl) ?_
                                  refine lv_iload hx hb d_Mod_goOn_311 (lv_at hl 1 rfl) ?_
                                  refine lv_iadd hx hb d_Mod_goOn_313 ?_
                                  refine tw_ri (e2 := nI (128 * tt + k)) (nI_add _ _) ?_
                                  refine lv_iconst (v := 1) hx hb d_Mod_goOn_314 (by decide) ?_
                                  refine lv_isub hx hb d_Mod_goOn_315 ?_
                                  refine tw_ri (e2 := nI (128 * tt + k - 1)) (pk_sub (b := 1) (by omega)) ?_
                                  refine va_iald hx hb hK hP 3 0 rfl rfl (vp_in_nI (by omega) (by decide)) d_Mod_goOn_316 ?_
                                  obtain ⟨x3, ex3⟩ : ∃ z : Int32, kd8 ((nI (128 * tt + k - 1)).toNatClampNeg) = z := ⟨_, rfl⟩
                                  refine tw_ri (e2 := x3) ex3 ?_
                                  refine lv_iconst (v := 2) hx hb d_Mod_goOn_317 (by decide) ?_
                                  refine lv_icmp_eq (tgt := 325) hx hb d_Mod_goOn_318 (by decide) (fun h318 => ?_) (fun h318 => ?_)
                                  · refine lv_iconst (v := 0) hx hb d_Mod_goOn_325 (by decide) ?_
                                    refine lv_istore hx hb d_Mod_goOn_326 hl (by decide) rfl (fun ls hl => ?_)
                                    have hl : lv_has ls 10 [(9, .int 0), (8, .int (kd8 (128 * tt + k))), (7, .int (nI k)), (6, .int c8), (4, .int (nI (128 * tt))), (0, .ref h0), (1, .int (nI tt)), (2, .ref (q 47)), (3, .int (nI dd))] := hl
                                    refine lv_iload hx hb d_Mod_goOn_328 (lv_at hl 0 rfl) ?_
                                    refine lv_if_eq (tgt := 347) hx hb d_Mod_goOn_330 (by decide) (fun h330 => ?_) (fun h330 => ?_)
                                    · refine lv_iinc (k := 2) (v := nI (k + 1)) hx hb d_Mod_goOn_347 hl rfl ((nI_succ k).symm) (by decide) rfl (fun ls hl => ?_)
                                      have hl : lv_has ls 10 [(7, .int (nI (k + 1))), (9, .int 0), (8, .int (kd8 (128 * tt + k))), (6, .int c8), (4, .int (nI (128 * tt))), (0, .ref h0), (1, .int (nI tt)), (2, .ref (q 47)), (3, .int (nI dd))] := hl
                                      refine lv_goto (tgt := 246) hx hb d_Mod_goOn_350 (by decide) ?_
                                      have hP : va_P g.1 classes [(h0, .inr (10, mob q rf n mm mb fa fp av ev wi mn tp tc sc nf fd me mp xn mt wh tq ag an ig)), ((q 41), aI g 600 dp), ((q 42), aZ g 600 iw), ((q 43), aI g 76800 kd8), ((q 47), aI g 128 nw)] H := hP.sub [0, 1, 2, 3, 4] rfl
                                      have hD : va_D A [(h0, .inr (10, mob q rf n mm mb fa fp av ev wi mn tp tc sc nf fd me mp xn mt wh tq ag an ig)), ((q 41), aI g 600 dp), ((q 42), aZ g 600 iw), ((q 43), aI g 76800 kd8), ((q 47), aI g 128 nw)] := hD.sub [0, 1, 2, 3, 4] (by decide) rfl
                                      exact ih246 _ (by omega) c8 (k + 1) kd8 ls _ _ rfl (by omega) hKD8 hCN8 (lv_sub hl [0, 3, 4, 5, 6, 7, 8] rfl) hP hD hS
                                    · first | exact absurd h330 (by decide) | exact absurd (by decide) h330
                                  · refine lv_iconst (v := 1) hx hb d_Mod_goOn_321 (by decide) ?_
                                    refine lv_goto (tgt := 326) hx hb d_Mod_goOn_322 (by decide) ?_
                                    refine lv_istore hx hb d_Mod_goOn_326 hl (by decide) rfl (fun ls hl => ?_)
                                    have hl : lv_has ls 10 [(9, .int 1), (8, .int (kd8 (128 * tt + k))), (7, .int (nI k)), (6, .int c8), (4, .int (nI (128 * tt))), (0, .ref h0), (1, .int (nI tt)), (2, .ref (q 47)), (3, .int (nI dd))] := hl
                                    refine lv_iload hx hb d_Mod_goOn_328 (lv_at hl 0 rfl) ?_
                                    refine lv_if_eq (tgt := 347) hx hb d_Mod_goOn_330 (by decide) (fun h330 => ?_) (fun h330 => ?_)
                                    · first | exact absurd h330 (by decide) | exact absurd (by decide) h330
                                    · refine lv_aload_n hx hb d_Mod_goOn_333 rfl (lv_at hl 5 rfl) ?_
                                      refine va_get (D := g.1) (ci := 10) (v := .ref (q 43)) (C := R_Mod) (T := F_Mod) (N := 61) hx hb hts in_Mod hown hK hP 0 rfl rfl 43 (by decide) (hts _ wd_1293) (fun _ h9 => h9) rfl d_Mod_goOn_334 ?_
                                      refine lv_iload hx hb d_Mod_goOn_337 (lv_at hl 4 rfl) ?_
                                      refine lv_iload hx hb d_Mod_goOn_339 (lv_at hl 2 rfl) ?_
                                      refine lv_iadd hx hb d_Mod_goOn_341 ?_
                                      refine tw_ri (e2 := nI (128 * tt + k)) (nI_add _ _) ?_
                                      refine lv_iconst (v := 0) hx hb d_Mod_goOn_342 (by decide) ?_
                                      refine va_iast hx hb hK hP hD hS 3 0 rfl rfl (vp_in_nI (by omega) (by decide)) d_Mod_goOn_343 (fun H locs hP hD hS => ?_)
                                      have hP : va_P g.1 classes [(h0, .inr (10, mob q rf n mm mb fa fp av ev wi mn tp tc sc nf fd me mp xn mt wh tq ag an ig)), ((q 41), aI g 600 dp), ((q 42), aZ g 600 iw), ((q 43), aI g 76800 (upd kd8 (nI (128 * tt + k)).toNatClampNeg 0)), ((q 47), aI g 128 nw)] H := hP
                                      have hD : va_D A [(h0, .inr (10, mob q rf n mm mb fa fp av ev wi mn tp tc sc nf fd me mp xn mt wh tq ag an ig)), ((q 41), aI g 600 dp), ((q 42), aZ g 600 iw), ((q 43), aI g 76800 (upd kd8 (nI (128 * tt + k)).toNatClampNeg 0)), ((q 47), aI g 128 nw)] := hD
                                      have e9 : upd kd8 (nI (128 * tt + k)).toNatClampNeg 0 = upd kd8 (128 * tt + k) 0 := by rw [nI_clamp (by omega)]
                                      rw [e9] at hP hD
                                      refine lv_iconst (v := 1) hx hb d_Mod_goOn_344 (by decide) ?_
                                      refine lv_istore hx hb d_Mod_goOn_345 hl (by decide) rfl (fun ls hl => ?_)
                                      have hl : lv_has ls 10 [(6, .int 1), (9, .int 1), (8, .int (kd8 (128 * tt + k))), (7, .int (nI k)), (4, .int (nI (128 * tt))), (0, .ref h0), (1, .int (nI tt)), (2, .ref (q 47)), (3, .int (nI dd))] := hl
                                      refine lv_iinc (k := 3) (v := nI (k + 1)) hx hb d_Mod_goOn_347 hl rfl ((nI_succ k).symm) (by decide) rfl (fun ls hl => ?_)
                                      have hl : lv_has ls 10 [(7, .int (nI (k + 1))), (6, .int 1), (9, .int 1), (8, .int (kd8 (128 * tt + k))), (4, .int (nI (128 * tt))), (0, .ref h0), (1, .int (nI tt)), (2, .ref (q 47)), (3, .int (nI dd))] := hl
                                      refine lv_goto (tgt := 246) hx hb d_Mod_goOn_350 (by decide) ?_
                                      have hP : va_P g.1 classes [(h0, .inr (10, mob q rf n mm mb fa fp av ev wi mn tp tc sc nf fd me mp xn mt wh tq ag an ig)), ((q 41), aI g 600 dp), ((q 42), aZ g 600 iw), ((q 43), aI g 76800 (upd kd8 (128 * tt + k) 0)), ((q 47), aI g 128 nw)] H := hP.sub [0, 1, 2, 3, 4] rfl
                                      have hD : va_D A [(h0, .inr (10, mob q rf n mm mb fa fp av ev wi mn tp tc sc nf fd me mp xn mt wh tq ag an ig)), ((q 41), aI g 600 dp), ((q 42), aZ g 600 iw), ((q 43), aI g 76800 (upd kd8 (128 * tt + k) 0)), ((q 47), aI g 128 nw)] := hD.sub [0, 1, 2, 3, 4] (by decide) rfl
                                      exact ih246 _ (by omega) 1 (k + 1) (upd kd8 (128 * tt + k) 0) ls _ _ rfl (by omega) (hKD8.put (fun _ => by decide)) (nk_dn hCN8 (by omega) (by omega) (by rw [h297]; decide)) (lv_sub hl [0, 1, 4, 5, 6, 7, 8] rfl) hP hD hS
                            · refine lv_iload hx hb d_Mod_goOn_271 (lv_at hl 1 rfl) ?_
                              refine lv_bipush (v := 63) hx hb d_Mod_goOn_273 (by decide) ?_
                              refine lv_icmp_eq (tgt := 321) hx hb d_Mod_goOn_275 (by decide) (fun h275 => ?_) (fun h275 => ?_)
                              · refine lv_iconst (v := 1) hx hb d_Mod_goOn_321 (by decide) ?_
                                refine lv_goto (tgt := 326) hx hb d_Mod_goOn_322 (by decide) ?_
                                refine lv_istore hx hb d_Mod_goOn_326 hl (by decide) rfl (fun ls hl => ?_)
                                have hl : lv_has ls 10 [(9, .int 1), (8, .int (kd8 (128 * tt + k))), (7, .int (nI k)), (6, .int c8), (4, .int (nI (128 * tt))), (0, .ref h0), (1, .int (nI tt)), (2, .ref (q 47)), (3, .int (nI dd))] := hl
                                refine lv_iload hx hb d_Mod_goOn_328 (lv_at hl 0 rfl) ?_
                                refine lv_if_eq (tgt := 347) hx hb d_Mod_goOn_330 (by decide) (fun h330 => ?_) (fun h330 => ?_)
                                · first | exact absurd h330 (by decide) | exact absurd (by decide) h330
                                · refine lv_aload_n hx hb d_Mod_goOn_333 rfl (lv_at hl 5 rfl) ?_
                                  refine va_get (D := g.1) (ci := 10) (v := .ref (q 43)) (C := R_Mod) (T := F_Mod) (N := 61) hx hb hts in_Mod hown hK hP 0 rfl rfl 43 (by decide) (hts _ wd_1293) (fun _ h9 => h9) rfl d_Mod_goOn_334 ?_
                                  refine lv_iload hx hb d_Mod_goOn_337 (lv_at hl 4 rfl) ?_
                                  refine lv_iload hx hb d_Mod_goOn_339 (lv_at hl 2 rfl) ?_
                                  refine lv_iadd hx hb d_Mod_goOn_341 ?_
                                  refine tw_ri (e2 := nI (128 * tt + k)) (nI_add _ _) ?_
                                  refine lv_iconst (v := 0) hx hb d_Mod_goOn_342 (by decide) ?_
                                  refine va_iast hx hb hK hP hD hS 3 0 rfl rfl (vp_in_nI (by omega) (by decide)) d_Mod_goOn_343 (fun H locs hP hD hS => ?_)
                                  have hP : va_P g.1 classes [(h0, .inr (10, mob q rf n mm mb fa fp av ev wi mn tp tc sc nf fd me mp xn mt wh tq ag an ig)), ((q 41), aI g 600 dp), ((q 42), aZ g 600 iw), ((q 43), aI g 76800 (upd kd8 (nI (128 * tt + k)).toNatClampNeg 0)), ((q 47), aI g 128 nw)] H := hP
                                  have hD : va_D A [(h0, .inr (10, mob q rf n mm mb fa fp av ev wi mn tp tc sc nf fd me mp xn mt wh tq ag an ig)), ((q 41), aI g 600 dp), ((q 42), aZ g 600 iw), ((q 43), aI g 76800 (upd kd8 (nI (128 * tt + k)).toNatClampNeg 0)), ((q 47), aI g 128 nw)] := hD
                                  have e9 : upd kd8 (nI (128 * tt + k)).toNatClampNeg 0 = upd kd8 (128 * tt + k) 0 := by rw [nI_clamp (by omega)]
                                  rw [e9] at hP hD
                                  refine lv_iconst (v := 1) hx hb d_Mod_goOn_344 (by decide) ?_
                                  refine lv_istore hx hb d_Mod_goOn_345 hl (by decide) rfl (fun ls hl => ?_)
                                  have hl : lv_has ls 10 [(6, .int 1), (9, .int 1), (8, .int (kd8 (128 * tt + k))), (7, .int (nI k)), (4, .int (nI (128 * tt))), (0, .ref h0), (1, .int (nI tt)), (2, .ref (q 47)), (3, .int (nI dd))] := hl
                                  refine lv_iinc (k := 3) (v := nI (k + 1)) hx hb d_Mod_goOn_347 hl rfl ((nI_succ k).symm) (by decide) rfl (fun ls hl => ?_)
                                  have hl : lv_has ls 10 [(7, .int (nI (k + 1))), (6, .int 1), (9, .int 1), (8, .int (kd8 (128 * tt + k))), (4, .int (nI (128 * tt))), (0, .ref h0), (1, .int (nI tt)), (2, .ref (q 47)), (3, .int (nI dd))] := hl
                                  refine lv_goto (tgt := 246) hx hb d_Mod_goOn_350 (by decide) ?_
                                  have hP : va_P g.1 classes [(h0, .inr (10, mob q rf n mm mb fa fp av ev wi mn tp tc sc nf fd me mp xn mt wh tq ag an ig)), ((q 41), aI g 600 dp), ((q 42), aZ g 600 iw), ((q 43), aI g 76800 (upd kd8 (128 * tt + k) 0)), ((q 47), aI g 128 nw)] H := hP.sub [0, 1, 2, 3, 4] rfl
                                  have hD : va_D A [(h0, .inr (10, mob q rf n mm mb fa fp av ev wi mn tp tc sc nf fd me mp xn mt wh tq ag an ig)), ((q 41), aI g 600 dp), ((q 42), aZ g 600 iw), ((q 43), aI g 76800 (upd kd8 (128 * tt + k) 0)), ((q 47), aI g 128 nw)] := hD.sub [0, 1, 2, 3, 4] (by decide) rfl
                                  exact ih246 _ (by omega) 1 (k + 1) (upd kd8 (128 * tt + k) 0) ls _ _ rfl (by omega) (hKD8.put (fun _ => by decide)) (nk_dn hCN8 (by omega) (by omega) (by rw [h268]; decide)) (lv_sub hl [0, 1, 4, 5, 6, 7, 8] rfl) hP hD hS
                              · refine lv_aload_n hx hb d_Mod_goOn_278 rfl (lv_at hl 4 rfl) ?_
                                refine va_get (D := g.1) (ci := 10) (v := .ref (q 43)) (C := R_Mod) (T := F_Mod) (N := 61) hx hb hts in_Mod hown hK hP 0 rfl rfl 43 (by decide) (hts _ wd_1293) (fun _ h9 => h9) rfl d_Mod_goOn_279 ?_
                                refine lv_iload hx hb d_Mod_goOn_282 (lv_at hl 3 rfl) ?_
                                refine lv_iload hx hb d_Mod_goOn_284 (lv_at hl 1 rfl) ?_
                                refine lv_iadd hx hb d_Mod_goOn_286 ?_
                                refine tw_ri (e2 := nI (128 * tt + k)) (nI_add _ _) ?_
                                refine lv_iconst (v := 1) hx hb d_Mod_goOn_287 (by decide) ?_
                                refine lv_iadd hx hb d_Mod_goOn_288 ?_
                                refine tw_ri (e2 := nI (128 * tt + k + 1)) (nI_add _ 1) ?_
                                refine va_iald hx hb hK hP 3 0 rfl rfl (vp_in_nI (by omega) (by decide)) d_Mod_goOn_289 ?_
                                obtain ⟨x4, ex4⟩ : ∃ z : Int32, kd8 ((nI (128 * tt + k + 1)).toNatClampNeg) = z := ⟨_, rfl⟩
                                refine tw_ri (e2 := x4) ex4 ?_
                                refine lv_iconst (v := 3) hx hb d_Mod_goOn_290 (by decide) ?_
                                refine lv_icmp_ne (tgt := 321) hx hb d_Mod_goOn_291 (by decide) (fun h291 => ?_) (fun h291 => ?_)
                                · refine lv_iconst (v := 1) hx hb d_Mod_goOn_321 (by decide) ?_
                                  refine lv_goto (tgt := 326) hx hb d_Mod_goOn_322 (by decide) ?_
                                  refine lv_istore hx hb d_Mod_goOn_326 hl (by decide) rfl (fun ls hl => ?_)
                                  have hl : lv_has ls 10 [(9, .int 1), (8, .int (kd8 (128 * tt + k))), (7, .int (nI k)), (6, .int c8), (4, .int (nI (128 * tt))), (0, .ref h0), (1, .int (nI tt)), (2, .ref (q 47)), (3, .int (nI dd))] := hl
                                  refine lv_iload hx hb d_Mod_goOn_328 (lv_at hl 0 rfl) ?_
                                  refine lv_if_eq (tgt := 347) hx hb d_Mod_goOn_330 (by decide) (fun h330 => ?_) (fun h330 => ?_)
                                  · first | exact absurd h330 (by decide) | exact absurd (by decide) h330
                                  · refine lv_aload_n hx hb d_Mod_goOn_333 rfl (lv_at hl 5 rfl) ?_
                                    refine va_get (D := g.1) (ci := 10) (v := .ref (q 43)) (C := R_Mod) (T := F_Mod) (N := 61) hx hb hts in_Mod hown hK hP 0 rfl rfl 43 (by decide) (hts _ wd_1293) (fun _ h9 => h9) rfl d_Mod_goOn_334 ?_
                                    refine lv_iload hx hb d_Mod_goOn_337 (lv_at hl 4 rfl) ?_
                                    refine lv_iload hx hb d_Mod_goOn_339 (lv_at hl 2 rfl) ?_
                                    refine lv_iadd hx hb d_Mod_goOn_341 ?_
                                    refine tw_ri (e2 := nI (128 * tt + k)) (nI_add _ _) ?_
                                    refine lv_iconst (v := 0) hx hb d_Mod_goOn_342 (by decide) ?_
                                    refine va_iast hx hb hK hP hD hS 3 0 rfl rfl (vp_in_nI (by omega) (by decide)) d_Mod_goOn_343 (fun H locs hP hD hS => ?_)
                                    have hP : va_P g.1 classes [(h0, .inr (10, mob q rf n mm mb fa fp av ev wi mn tp tc sc nf fd me mp xn mt wh tq ag an ig)), ((q 41), aI g 600 dp), ((q 42), aZ g 600 iw), ((q 43), aI g 76800 (upd kd8 (nI (128 * tt + k)).toNatClampNeg 0)), ((q 47), aI g 128 nw)] H := hP
                                    have hD : va_D A [(h0, .inr (10, mob q rf n mm mb fa fp av ev wi mn tp tc sc nf fd me mp xn mt wh tq ag an ig)), ((q 41), aI g 600 dp), ((q 42), aZ g 600 iw), ((q 43), aI g 76800 (upd kd8 (nI (128 * tt + k)).toNatClampNeg 0)), ((q 47), aI g 128 nw)] := hD
                                    have e9 : upd kd8 (nI (128 * tt + k)).toNatClampNeg 0 = upd kd8 (128 * tt + k) 0 := by rw [nI_clamp (by omega)]
                                    rw [e9] at hP hD
                                    refine lv_iconst (v := 1) hx hb d_Mod_goOn_344 (by decide) ?_
                                    refine lv_istore hx hb d_Mod_goOn_345 hl (by decide) rfl (fun ls hl => ?_)
                                    have hl : lv_has ls 10 [(6, .int 1), (9, .int 1), (8, .int (kd8 (128 * tt + k))), (7, .int (nI k)), (4, .int (nI (128 * tt))), (0, .ref h0), (1, .int (nI tt)), (2, .ref (q 47)), (3, .int (nI dd))] := hl
                                    refine lv_iinc (k := 3) (v := nI (k + 1)) hx hb d_Mod_goOn_347 hl rfl ((nI_succ k).symm) (by decide) rfl (fun ls hl => ?_)
                                    have hl : lv_has ls 10 [(7, .int (nI (k + 1))), (6, .int 1), (9, .int 1), (8, .int (kd8 (128 * tt + k))), (4, .int (nI (128 * tt))), (0, .ref h0), (1, .int (nI tt)), (2, .ref (q 47)), (3, .int (nI dd))] := hl
                                    refine lv_goto (tgt := 246) hx hb d_Mod_goOn_350 (by decide) ?_
                                    have hP : va_P g.1 classes [(h0, .inr (10, mob q rf n mm mb fa fp av ev wi mn tp tc sc nf fd me mp xn mt wh tq ag an ig)), ((q 41), aI g 600 dp), ((q 42), aZ g 600 iw), ((q 43), aI g 76800 (upd kd8 (128 * tt + k) 0)), ((q 47), aI g 128 nw)] H := hP.sub [0, 1, 2, 3, 4] rfl
                                    have hD : va_D A [(h0, .inr (10, mob q rf n mm mb fa fp av ev wi mn tp tc sc nf fd me mp xn mt wh tq ag an ig)), ((q 41), aI g 600 dp), ((q 42), aZ g 600 iw), ((q 43), aI g 76800 (upd kd8 (128 * tt + k) 0)), ((q 47), aI g 128 nw)] := hD.sub [0, 1, 2, 3, 4] (by decide) rfl
                                    exact ih246 _ (by omega) 1 (k + 1) (upd kd8 (128 * tt + k) 0) ls _ _ rfl (by omega) (hKD8.put (fun _ => by decide)) (nk_dn hCN8 (by omega) (by omega) (by rw [h268]; decide)) (lv_sub hl [0, 1, 4, 5, 6, 7, 8] rfl) hP hD hS
                                · refine lv_iload hx hb d_Mod_goOn_294 (lv_at hl 0 rfl) ?_
                                  refine lv_iconst (v := 3) hx hb d_Mod_goOn_296 (by decide) ?_
                                  refine lv_icmp_ne (tgt := 325) hx hb d_Mod_goOn_297 (by decide) (fun h297 => ?_) (fun h297 => ?_)
                                  · refine lv_iconst (v := 0) hx hb d_Mod_goOn_325 (by decide) ?_
                                    refine lv_istore hx hb d_Mod_goOn_326 hl (by decide) rfl (fun ls hl => ?_)
                                    have hl : lv_has ls 10 [(9, .int 0), (8, .int (kd8 (128 * tt + k))), (7, .int (nI k)), (6, .int c8), (4, .int (nI (128 * tt))), (0, .ref h0), (1, .int (nI tt)), (2, .ref (q 47)), (3, .int (nI dd))] := hl
                                    refine lv_iload hx hb d_Mod_goOn_328 (lv_at hl 0 rfl) ?_
                                    refine lv_if_eq (tgt := 347) hx hb d_Mod_goOn_330 (by decide) (fun h330 => ?_) (fun h330 => ?_)
                                    · refine lv_iinc (k := 2) (v := nI (k + 1)) hx hb d_Mod_goOn_347 hl rfl ((nI_succ k).symm) (by decide) rfl (fun ls hl => ?_)
                                      have hl : lv_has ls 10 [(7, .int (nI (k + 1))), (9, .int 0), (8, .int (kd8 (128 * tt + k))), (6, .int c8), (4, .int (nI (128 * tt))), (0, .ref h0), (1, .int (nI tt)), (2, .ref (q 47)), (3, .int (nI dd))] := hl
                                      refine lv_goto (tgt := 246) hx hb d_Mod_goOn_350 (by decide) ?_
                                      have hP : va_P g.1 classes [(h0, .inr (10, mob q rf n mm mb fa fp av ev wi mn tp tc sc nf fd me mp xn mt wh tq ag an ig)), ((q 41), aI g 600 dp), ((q 42), aZ g 600 iw), ((q 43), aI g 76800 kd8), ((q 47), aI g 128 nw)] H := hP.sub [0, 1, 2, 3, 4] rfl
                                      have hD : va_D A [(h0, .inr (10, mob q rf n mm mb fa fp av ev wi mn tp tc sc nf fd me mp xn mt wh tq ag an ig)), ((q 41), aI g 600 dp), ((q 42), aZ g 600 iw), ((q 43), aI g 76800 kd8), ((q 47), aI g 128 nw)] := hD.sub [0, 1, 2, 3, 4] (by decide) rfl
                                      exact ih246 _ (by omega) c8 (k + 1) kd8 ls _ _ rfl (by omega) hKD8 hCN8 (lv_sub hl [0, 3, 4, 5, 6, 7, 8] rfl) hP hD hS
                                    · first | exact absurd h330 (by decide) | exact absurd (by decide) h330
                                  · refine lv_iload hx hb d_Mod_goOn_300 (lv_at hl 1 rfl) ?_
                                    refine lv_if_eq (tgt := 321) hx hb d_Mod_goOn_302 (by decide) (fun h302 => ?_) (fun h302 => ?_)
                                    · refine lv_iconst (v := 1) hx hb d_Mod_goOn_321 (by decide) ?_
                                      refine lv_goto (tgt := 326) hx hb d_Mod_goOn_322 (by decide) ?_
                                      refine lv_istore hx hb d_Mod_goOn_326 hl (by decide) rfl (fun ls hl => ?_)
                                      have hl : lv_has ls 10 [(9, .int 1), (8, .int (kd8 (128 * tt + k))), (7, .int (nI k)), (6, .int c8), (4, .int (nI (128 * tt))), (0, .ref h0), (1, .int (nI tt)), (2, .ref (q 47)), (3, .int (nI dd))] := hl
                                      refine lv_iload hx hb d_Mod_goOn_328 (lv_at hl 0 rfl) ?_
                                      refine lv_if_eq (tgt := 347) hx hb d_Mod_goOn_330 (by decide) (fun h330 => ?_) (fun h330 => ?_)
                                      · first | exact absurd h330 (by decide) | exact absurd (by decide) h330
                                      · refine lv_aload_n hx hb d_Mod_goOn_333 rfl (lv_at hl 5 rfl) ?_
                                        refine va_get (D := g.1) (ci := 10) (v := .ref (q 43)) (C := R_Mod) (T := F_Mod) (N := 61) hx hb hts in_Mod hown hK hP 0 rfl rfl 43 (by decide) (hts _ wd_1293) (fun _ h9 => h9) rfl d_Mod_goOn_334 ?_
                                        refine lv_iload hx hb d_Mod_goOn_337 (lv_at hl 4 rfl) ?_
                                        refine lv_iload hx hb d_Mod_goOn_339 (lv_at hl 2 rfl) ?_
                                        refine lv_iadd hx hb d_Mod_goOn_341 ?_
                                        refine tw_ri (e2 := nI (128 * tt + k)) (nI_add _ _) ?_
                                        refine lv_iconst (v := 0) hx hb d_Mod_goOn_342 (by decide) ?_
                                        refine va_iast hx hb hK hP hD hS 3 0 rfl rfl (vp_in_nI (by omega) (by decide)) d_Mod_goOn_343 (fun H locs hP hD hS => ?_)
                                        have hP : va_P g.1 classes [(h0, .inr (10, mob q rf n mm mb fa fp av ev wi mn tp tc sc nf fd me mp xn mt wh tq ag an ig)), ((q 41), aI g 600 dp), ((q 42), aZ g 600 iw), ((q 43), aI g 76800 (upd kd8 (nI (128 * tt + k)).toNatClampNeg 0)), ((q 47), aI g 128 nw)] H := hP
                                        have hD : va_D A [(h0, .inr (10, mob q rf n mm mb fa fp av ev wi mn tp tc sc nf fd me mp xn mt wh tq ag an ig)), ((q 41), aI g 600 dp), ((q 42), aZ g 600 iw), ((q 43), aI g 76800 (upd kd8 (nI (128 * tt + k)).toNatClampNeg 0)), ((q 47), aI g 128 nw)] := hD
                                        have e9 : upd kd8 (nI (128 * tt + k)).toNatClampNeg 0 = upd kd8 (128 * tt + k) 0 := by rw [nI_clamp (by omega)]
                                        rw [e9] at hP hD
                                        refine lv_iconst (v := 1) hx hb d_Mod_goOn_344 (by decide) ?_
                                        refine lv_istore hx hb d_Mod_goOn_345 hl (by decide) rfl (fun ls hl => ?_)
                                        have hl : lv_has ls 10 [(6, .int 1), (9, .int 1), (8, .int (kd8 (128 * tt + k))), (7, .int (nI k)), (4, .int (nI (128 * tt))), (0, .ref h0), (1, .int (nI tt)), (2, .ref (q 47)), (3, .int (nI dd))] := hl
                                        refine lv_iinc (k := 3) (v := nI (k + 1)) hx hb d_Mod_goOn_347 hl rfl ((nI_succ k).symm) (by decide) rfl (fun ls hl => ?_)
                                        have hl : lv_has ls 10 [(7, .int (nI (k + 1))), (6, .int 1), (9, .int 1), (8, .int (kd8 (128 * tt + k))), (4, .int (nI (128 * tt))), (0, .ref h0), (1, .int (nI tt)), (2, .ref (q 47)), (3, .int (nI dd))] := hl
                                        refine lv_goto (tgt := 246) hx hb d_Mod_goOn_350 (by decide) ?_
                                        have hP : va_P g.1 classes [(h0, .inr (10, mob q rf n mm mb fa fp av ev wi mn tp tc sc nf fd me mp xn mt wh tq ag an ig)), ((q 41), aI g 600 dp), ((q 42), aZ g 600 iw), ((q 43), aI g 76800 (upd kd8 (128 * tt + k) 0)), ((q 47), aI g 128 nw)] H := hP.sub [0, 1, 2, 3, 4] rfl
                                        have hD : va_D A [(h0, .inr (10, mob q rf n mm mb fa fp av ev wi mn tp tc sc nf fd me mp xn mt wh tq ag an ig)), ((q 41), aI g 600 dp), ((q 42), aZ g 600 iw), ((q 43), aI g 76800 (upd kd8 (128 * tt + k) 0)), ((q 47), aI g 128 nw)] := hD.sub [0, 1, 2, 3, 4] (by decide) rfl
                                        exact ih246 _ (by omega) 1 (k + 1) (upd kd8 (128 * tt + k) 0) ls _ _ rfl (by omega) (hKD8.put (fun _ => by decide)) (nk_dn hCN8 (by omega) (by omega) (by rw [h297]; decide)) (lv_sub hl [0, 1, 4, 5, 6, 7, 8] rfl) hP hD hS
                                    · have h302 := tn_ne (b := 0) h302
                                      refine lv_aload_n hx hb d_Mod_goOn_305 rfl (lv_at hl 4 rfl) ?_
                                      refine va_get (D := g.1) (ci := 10) (v := .ref (q 43)) (C := R_Mod) (T := F_Mod) (N := 61) hx hb hts in_Mod hown hK hP 0 rfl rfl 43 (by decide) (hts _ wd_1293) (fun _ h9 => h9) rfl d_Mod_goOn_306 ?_
                                      refine lv_iload hx hb d_Mod_goOn_309 (lv_at hl 3 rfl) ?_
                                      refine lv_iload hx hb d_Mod_goOn_311 (lv_at hl 1 rfl) ?_
                                      refine lv_iadd hx hb d_Mod_goOn_313 ?_
                                      refine tw_ri (e2 := nI (128 * tt + k)) (nI_add _ _) ?_
                                      refine lv_iconst (v := 1) hx hb d_Mod_goOn_314 (by decide) ?_
                                      refine lv_isub hx hb d_Mod_goOn_315 ?_
                                      refine tw_ri (e2 := nI (128 * tt + k - 1)) (pk_sub (b := 1) (by omega)) ?_
                                      refine va_iald hx hb hK hP 3 0 rfl rfl (vp_in_nI (by omega) (by decide)) d_Mod_goOn_316 ?_
                                      obtain ⟨x5, ex5⟩ : ∃ z : Int32, kd8 ((nI (128 * tt + k - 1)).toNatClampNeg) = z := ⟨_, rfl⟩
                                      refine tw_ri (e2 := x5) ex5 ?_
                                      refine lv_iconst (v := 2) hx hb d_Mod_goOn_317 (by decide) ?_
                                      refine lv_icmp_eq (tgt := 325) hx hb d_Mod_goOn_318 (by decide) (fun h318 => ?_) (fun h318 => ?_)
                                      · refine lv_iconst (v := 0) hx hb d_Mod_goOn_325 (by decide) ?_
                                        refine lv_istore hx hb d_Mod_goOn_326 hl (by decide) rfl (fun ls hl => ?_)
                                        have hl : lv_has ls 10 [(9, .int 0), (8, .int (kd8 (128 * tt + k))), (7, .int (nI k)), (6, .int c8), (4, .int (nI (128 * tt))), (0, .ref h0), (1, .int (nI tt)), (2, .ref (q 47)), (3, .int (nI dd))] := hl
                                        refine lv_iload hx hb d_Mod_goOn_328 (lv_at hl 0 rfl) ?_
                                        refine lv_if_eq (tgt := 347) hx hb d_Mod_goOn_330 (by decide) (fun h330 => ?_) (fun h330 => ?_)
                                        · refine lv_iinc (k := 2) (v := nI (k + 1)) hx hb d_Mod_goOn_347 hl rfl ((nI_succ k).symm) (by decide) rfl (fun ls hl => ?_)
                                          have hl : lv_has ls 10 [(7, .int (nI (k + 1))), (9, .int 0), (8, .int (kd8 (128 * tt + k))), (6, .int c8), (4, .int (nI (128 * tt))), (0, .ref h0), (1, .int (nI tt)), (2, .ref (q 47)), (3, .int (nI dd))] := hl
                                          refine lv_goto (tgt := 246) hx hb d_Mod_goOn_350 (by decide) ?_
                                          have hP : va_P g.1 classes [(h0, .inr (10, mob q rf n mm mb fa fp av ev wi mn tp tc sc nf fd me mp xn mt wh tq ag an ig)), ((q 41), aI g 600 dp), ((q 42), aZ g 600 iw), ((q 43), aI g 76800 kd8), ((q 47), aI g 128 nw)] H := hP.sub [0, 1, 2, 3, 4] rfl
                                          have hD : va_D A [(h0, .inr (10, mob q rf n mm mb fa fp av ev wi mn tp tc sc nf fd me mp xn mt wh tq ag an ig)), ((q 41), aI g 600 dp), ((q 42), aZ g 600 iw), ((q 43), aI g 76800 kd8), ((q 47), aI g 128 nw)] := hD.sub [0, 1, 2, 3, 4] (by decide) rfl
                                          exact ih246 _ (by omega) c8 (k + 1) kd8 ls _ _ rfl (by omega) hKD8 hCN8 (lv_sub hl [0, 3, 4, 5, 6, 7, 8] rfl) hP hD hS
                                        · first | exact absurd h330 (by decide) | exact absurd (by decide) h330
                                      · refine lv_iconst (v := 1) hx hb d_Mod_goOn_321 (by decide) ?_
                                        refine lv_goto (tgt := 326) hx hb d_Mod_goOn_322 (by decide) ?_
                                        refine lv_istore hx hb d_Mod_goOn_326 hl (by decide) rfl (fun ls hl => ?_)
                                        have hl : lv_has ls 10 [(9, .int 1), (8, .int (kd8 (128 * tt + k))), (7, .int (nI k)), (6, .int c8), (4, .int (nI (128 * tt))), (0, .ref h0), (1, .int (nI tt)), (2, .ref (q 47)), (3, .int (nI dd))] := hl
                                        refine lv_iload hx hb d_Mod_goOn_328 (lv_at hl 0 rfl) ?_
                                        refine lv_if_eq (tgt := 347) hx hb d_Mod_goOn_330 (by decide) (fun h330 => ?_) (fun h330 => ?_)
                                        · first | exact absurd h330 (by decide) | exact absurd (by decide) h330
                                        · refine lv_aload_n hx hb d_Mod_goOn_333 rfl (lv_at hl 5 rfl) ?_
                                          refine va_get (D := g.1) (ci := 10) (v := .ref (q 43)) (C := R_Mod) (T := F_Mod) (N := 61) hx hb hts in_Mod hown hK hP 0 rfl rfl 43 (by decide) (hts _ wd_1293) (fun _ h9 => h9) rfl d_Mod_goOn_334 ?_
                                          refine lv_iload hx hb d_Mod_goOn_337 (lv_at hl 4 rfl) ?_
                                          refine lv_iload hx hb d_Mod_goOn_339 (lv_at hl 2 rfl) ?_
                                          refine lv_iadd hx hb d_Mod_goOn_341 ?_
                                          refine tw_ri (e2 := nI (128 * tt + k)) (nI_add _ _) ?_
                                          refine lv_iconst (v := 0) hx hb d_Mod_goOn_342 (by decide) ?_
                                          refine va_iast hx hb hK hP hD hS 3 0 rfl rfl (vp_in_nI (by omega) (by decide)) d_Mod_goOn_343 (fun H locs hP hD hS => ?_)
                                          have hP : va_P g.1 classes [(h0, .inr (10, mob q rf n mm mb fa fp av ev wi mn tp tc sc nf fd me mp xn mt wh tq ag an ig)), ((q 41), aI g 600 dp), ((q 42), aZ g 600 iw), ((q 43), aI g 76800 (upd kd8 (nI (128 * tt + k)).toNatClampNeg 0)), ((q 47), aI g 128 nw)] H := hP
                                          have hD : va_D A [(h0, .inr (10, mob q rf n mm mb fa fp av ev wi mn tp tc sc nf fd me mp xn mt wh tq ag an ig)), ((q 41), aI g 600 dp), ((q 42), aZ g 600 iw), ((q 43), aI g 76800 (upd kd8 (nI (128 * tt + k)).toNatClampNeg 0)), ((q 47), aI g 128 nw)] := hD
                                          have e9 : upd kd8 (nI (128 * tt + k)).toNatClampNeg 0 = upd kd8 (128 * tt + k) 0 := by rw [nI_clamp (by omega)]
                                          rw [e9] at hP hD
                                          refine lv_iconst (v := 1) hx hb d_Mod_goOn_344 (by decide) ?_
                                          refine lv_istore hx hb d_Mod_goOn_345 hl (by decide) rfl (fun ls hl => ?_)
                                          have hl : lv_has ls 10 [(6, .int 1), (9, .int 1), (8, .int (kd8 (128 * tt + k))), (7, .int (nI k)), (4, .int (nI (128 * tt))), (0, .ref h0), (1, .int (nI tt)), (2, .ref (q 47)), (3, .int (nI dd))] := hl
                                          refine lv_iinc (k := 3) (v := nI (k + 1)) hx hb d_Mod_goOn_347 hl rfl ((nI_succ k).symm) (by decide) rfl (fun ls hl => ?_)
                                          have hl : lv_has ls 10 [(7, .int (nI (k + 1))), (6, .int 1), (9, .int 1), (8, .int (kd8 (128 * tt + k))), (4, .int (nI (128 * tt))), (0, .ref h0), (1, .int (nI tt)), (2, .ref (q 47)), (3, .int (nI dd))] := hl
                                          refine lv_goto (tgt := 246) hx hb d_Mod_goOn_350 (by decide) ?_
                                          have hP : va_P g.1 classes [(h0, .inr (10, mob q rf n mm mb fa fp av ev wi mn tp tc sc nf fd me mp xn mt wh tq ag an ig)), ((q 41), aI g 600 dp), ((q 42), aZ g 600 iw), ((q 43), aI g 76800 (upd kd8 (128 * tt + k) 0)), ((q 47), aI g 128 nw)] H := hP.sub [0, 1, 2, 3, 4] rfl
                                          have hD : va_D A [(h0, .inr (10, mob q rf n mm mb fa fp av ev wi mn tp tc sc nf fd me mp xn mt wh tq ag an ig)), ((q 41), aI g 600 dp), ((q 42), aZ g 600 iw), ((q 43), aI g 76800 (upd kd8 (128 * tt + k) 0)), ((q 47), aI g 128 nw)] := hD.sub [0, 1, 2, 3, 4] (by decide) rfl
                                          exact ih246 _ (by omega) 1 (k + 1) (upd kd8 (128 * tt + k) 0) ls _ _ rfl (by omega) (hKD8.put (fun _ => by decide)) (nk_dn hCN8 (by omega) (by omega) (by rw [h297]; decide)) (lv_sub hl [0, 1, 4, 5, 6, 7, 8] rfl) hP hD hS
                      exact loop246 _ c9 0 kd9 ls _ _ rfl (Nat.zero_le _) hKD hCN (lv_sub hl [0, 1, 3, 4, 5, 6, 7] rfl) hP hD hS
                    · have h190 := tn_nle (a := 64) h190 (by decide) (by omega)
                      refine lv_aload_n hx hb d_Mod_goOn_193 rfl (lv_at hl 4 rfl) ?_
                      refine va_get (D := g.1) (ci := 10) (v := .ref (q 43)) (C := R_Mod) (T := F_Mod) (N := 61) hx hb hts in_Mod hown hK hP 0 rfl rfl 43 (by decide) (hts _ wd_1293) (fun _ h9 => h9) rfl d_Mod_goOn_194 ?_
                      refine lv_iload hx hb d_Mod_goOn_197 (lv_at hl 3 rfl) ?_
                      refine lv_iload hx hb d_Mod_goOn_199 (lv_at hl 0 rfl) ?_
                      refine lv_iadd hx hb d_Mod_goOn_201 ?_
                      refine tw_ri (e2 := nI (128 * tt + k)) (nI_add _ _) ?_
                      refine va_iald hx hb hK hP 3 0 rfl rfl (vp_in_nI (by omega) (by decide)) d_Mod_goOn_202 ?_
                      refine tw_ri (e2 := kd9 (128 * tt + k)) (by rw [nI_clamp (by omega)]) ?_
                      refine lv_aload_n hx hb d_Mod_goOn_203 rfl (lv_at hl 6 rfl) ?_
                      refine lv_iload hx hb d_Mod_goOn_204 (lv_at hl 0 rfl) ?_
                      refine va_iald hx hb hK hP 4 0 rfl rfl (vp_in_nI (by omega) (by decide)) d_Mod_goOn_206 ?_
                      refine tw_ri (e2 := nw k) (by rw [nI_clamp (by omega)]) ?_
                      refine lv_icmp_eq (tgt := 237) hx hb d_Mod_goOn_207 (by decide) (fun h207 => ?_) (fun h207 => ?_)
                      · refine lv_iinc (k := 0) (v := nI (k + 1)) hx hb d_Mod_goOn_237 hl rfl ((nI_succ k).symm) (by decide) rfl (fun ls hl => ?_)
                        have hl : lv_has ls 10 [(7, .int (nI (k + 1))), (6, .int c9), (5, .int s9), (4, .int (nI (128 * tt))), (0, .ref h0), (1, .int (nI tt)), (2, .ref (q 47)), (3, .int (nI dd))] := hl
                        refine lv_goto (tgt := 186) hx hb d_Mod_goOn_240 (by decide) ?_
                        have hP : va_P g.1 classes [(h0, .inr (10, mob q rf n mm mb fa fp av ev wi mn tp tc sc nf fd me mp xn mt wh tq ag an ig)), ((q 41), aI g 600 dp), ((q 42), aZ g 600 iw), ((q 43), aI g 76800 kd9), ((q 47), aI g 128 nw)] H := hP.sub [0, 1, 2, 3, 4] rfl
                        have hD : va_D A [(h0, .inr (10, mob q rf n mm mb fa fp av ev wi mn tp tc sc nf fd me mp xn mt wh tq ag an ig)), ((q 41), aI g 600 dp), ((q 42), aZ g 600 iw), ((q 43), aI g 76800 kd9), ((q 47), aI g 128 nw)] := hD.sub [0, 1, 2, 3, 4] (by decide) rfl
                        exact ih186 _ (by omega) c9 (k + 1) kd9 ls _ _ rfl (by omega) hKD hCN (lv_sub hl [0, 1, 2, 3, 4, 5, 6, 7] rfl) hP hD hS
                      · refine lv_aload_n hx hb d_Mod_goOn_210 rfl (lv_at hl 4 rfl) ?_
                        refine va_get (D := g.1) (ci := 10) (v := .ref (q 43)) (C := R_Mod) (T := F_Mod) (N := 61) hx hb hts in_Mod hown hK hP 0 rfl rfl 43 (by decide) (hts _ wd_1293) (fun _ h9 => h9) rfl d_Mod_goOn_211 ?_
                        refine lv_iload hx hb d_Mod_goOn_214 (lv_at hl 3 rfl) ?_
                        refine lv_iload hx hb d_Mod_goOn_216 (lv_at hl 0 rfl) ?_
                        refine lv_iadd hx hb d_Mod_goOn_218 ?_
                        refine tw_ri (e2 := nI (128 * tt + k)) (nI_add _ _) ?_
                        refine va_iald hx hb hK hP 3 0 rfl rfl (vp_in_nI (by omega) (by decide)) d_Mod_goOn_219 ?_
                        refine tw_ri (e2 := kd9 (128 * tt + k)) (by rw [nI_clamp (by omega)]) ?_
                        refine lv_if_eq (tgt := 237) hx hb d_Mod_goOn_220 (by decide) (fun h220 => ?_) (fun h220 => ?_)
                        · refine lv_iinc (k := 0) (v := nI (k + 1)) hx hb d_Mod_goOn_237 hl rfl ((nI_succ k).symm) (by decide) rfl (fun ls hl => ?_)
                          have hl : lv_has ls 10 [(7, .int (nI (k + 1))), (6, .int c9), (5, .int s9), (4, .int (nI (128 * tt))), (0, .ref h0), (1, .int (nI tt)), (2, .ref (q 47)), (3, .int (nI dd))] := hl
                          refine lv_goto (tgt := 186) hx hb d_Mod_goOn_240 (by decide) ?_
                          have hP : va_P g.1 classes [(h0, .inr (10, mob q rf n mm mb fa fp av ev wi mn tp tc sc nf fd me mp xn mt wh tq ag an ig)), ((q 41), aI g 600 dp), ((q 42), aZ g 600 iw), ((q 43), aI g 76800 kd9), ((q 47), aI g 128 nw)] H := hP.sub [0, 1, 2, 3, 4] rfl
                          have hD : va_D A [(h0, .inr (10, mob q rf n mm mb fa fp av ev wi mn tp tc sc nf fd me mp xn mt wh tq ag an ig)), ((q 41), aI g 600 dp), ((q 42), aZ g 600 iw), ((q 43), aI g 76800 kd9), ((q 47), aI g 128 nw)] := hD.sub [0, 1, 2, 3, 4] (by decide) rfl
                          exact ih186 _ (by omega) c9 (k + 1) kd9 ls _ _ rfl (by omega) hKD hCN (lv_sub hl [0, 1, 2, 3, 4, 5, 6, 7] rfl) hP hD hS
                        · refine lv_aload_n hx hb d_Mod_goOn_223 rfl (lv_at hl 4 rfl) ?_
                          refine va_get (D := g.1) (ci := 10) (v := .ref (q 43)) (C := R_Mod) (T := F_Mod) (N := 61) hx hb hts in_Mod hown hK hP 0 rfl rfl 43 (by decide) (hts _ wd_1293) (fun _ h9 => h9) rfl d_Mod_goOn_224 ?_
                          refine lv_iload hx hb d_Mod_goOn_227 (lv_at hl 3 rfl) ?_
                          refine lv_iload hx hb d_Mod_goOn_229 (lv_at hl 0 rfl) ?_
                          refine lv_iadd hx hb d_Mod_goOn_231 ?_
                          refine tw_ri (e2 := nI (128 * tt + k)) (nI_add _ _) ?_
                          refine lv_iconst (v := 0) hx hb d_Mod_goOn_232 (by decide) ?_
                          refine va_iast hx hb hK hP hD hS 3 0 rfl rfl (vp_in_nI (by omega) (by decide)) d_Mod_goOn_233 (fun H locs hP hD hS => ?_)
                          have hP : va_P g.1 classes [(h0, .inr (10, mob q rf n mm mb fa fp av ev wi mn tp tc sc nf fd me mp xn mt wh tq ag an ig)), ((q 41), aI g 600 dp), ((q 42), aZ g 600 iw), ((q 43), aI g 76800 (upd kd9 (nI (128 * tt + k)).toNatClampNeg 0)), ((q 47), aI g 128 nw)] H := hP
                          have hD : va_D A [(h0, .inr (10, mob q rf n mm mb fa fp av ev wi mn tp tc sc nf fd me mp xn mt wh tq ag an ig)), ((q 41), aI g 600 dp), ((q 42), aZ g 600 iw), ((q 43), aI g 76800 (upd kd9 (nI (128 * tt + k)).toNatClampNeg 0)), ((q 47), aI g 128 nw)] := hD
                          have e9 : upd kd9 (nI (128 * tt + k)).toNatClampNeg 0 = upd kd9 (128 * tt + k) 0 := by rw [nI_clamp (by omega)]
                          rw [e9] at hP hD
                          refine lv_iconst (v := 1) hx hb d_Mod_goOn_234 (by decide) ?_
                          refine lv_istore hx hb d_Mod_goOn_235 hl (by decide) rfl (fun ls hl => ?_)
                          have hl : lv_has ls 10 [(6, .int 1), (7, .int (nI k)), (5, .int s9), (4, .int (nI (128 * tt))), (0, .ref h0), (1, .int (nI tt)), (2, .ref (q 47)), (3, .int (nI dd))] := hl
                          refine lv_iinc (k := 1) (v := nI (k + 1)) hx hb d_Mod_goOn_237 hl rfl ((nI_succ k).symm) (by decide) rfl (fun ls hl => ?_)
                          have hl : lv_has ls 10 [(7, .int (nI (k + 1))), (6, .int 1), (5, .int s9), (4, .int (nI (128 * tt))), (0, .ref h0), (1, .int (nI tt)), (2, .ref (q 47)), (3, .int (nI dd))] := hl
                          refine lv_goto (tgt := 186) hx hb d_Mod_goOn_240 (by decide) ?_
                          have hP : va_P g.1 classes [(h0, .inr (10, mob q rf n mm mb fa fp av ev wi mn tp tc sc nf fd me mp xn mt wh tq ag an ig)), ((q 41), aI g 600 dp), ((q 42), aZ g 600 iw), ((q 43), aI g 76800 (upd kd9 (128 * tt + k) 0)), ((q 47), aI g 128 nw)] H := hP.sub [0, 1, 2, 3, 4] rfl
                          have hD : va_D A [(h0, .inr (10, mob q rf n mm mb fa fp av ev wi mn tp tc sc nf fd me mp xn mt wh tq ag an ig)), ((q 41), aI g 600 dp), ((q 42), aZ g 600 iw), ((q 43), aI g 76800 (upd kd9 (128 * tt + k) 0)), ((q 47), aI g 128 nw)] := hD.sub [0, 1, 2, 3, 4] (by decide) rfl
                          exact ih186 _ (by omega) 1 (k + 1) (upd kd9 (128 * tt + k) 0) ls _ _ rfl (by omega) (hKD.put (fun _ => by decide)) (nk_dn hCN (by omega) (by omega) h220) (lv_sub hl [0, 1, 2, 3, 4, 5, 6, 7] rfl) hP hD hS
                exact loop186 _ 0 0 kd ls _ _ rfl (Nat.zero_le _) hFR.2.2 (Or.inl ⟨rfl, rfl⟩) (hl) hP hD hS
              · exact absurd h166 h116
            · have h122 := tn_nle h122 (by omega) (by omega)
              refine lv_aload_n hx hb d_Mod_goOn_125 rfl (lv_at hl 3 rfl) ?_
              refine va_get (D := g.1) (ci := 10) (v := .ref (q 43)) (C := R_Mod) (T := F_Mod) (N := 61) hx hb hts in_Mod hown hK hP 0 rfl rfl 43 (by decide) (hts _ wd_1293) (fun _ h9 => h9) rfl d_Mod_goOn_126 ?_
              refine lv_iload hx hb d_Mod_goOn_129 (lv_at hl 2 rfl) ?_
              refine lv_bipush (v := 64) hx hb d_Mod_goOn_131 (by decide) ?_
              refine lv_iadd hx hb d_Mod_goOn_133 ?_
              refine tw_ri (e2 := nI (128 * tt + 64)) (nI_add _ 64) ?_
              refine lv_iload hx hb d_Mod_goOn_134 (lv_at hl 0 rfl) ?_
              refine lv_iadd hx hb d_Mod_goOn_136 ?_
              refine tw_ri (e2 := nI (128 * tt + 64 + k)) (nI_add _ _) ?_
              refine va_iald hx hb hK hP 3 0 rfl rfl (vp_in_nI (by omega) (by decide)) d_Mod_goOn_137 ?_
              obtain ⟨x6, ex6⟩ : ∃ z : Int32, kd ((nI (128 * tt + 64 + k)).toNatClampNeg) = z := ⟨_, rfl⟩
              refine tw_ri (e2 := x6) ex6 ?_
              refine lv_aload_n hx hb d_Mod_goOn_138 rfl (lv_at hl 3 rfl) ?_
              refine va_get (D := g.1) (ci := 10) (v := .ref (q 47)) (C := R_Mod) (T := F_Mod) (N := 61) hx hb hts in_Mod hown hK hP 0 rfl rfl 47 (by decide) (hts _ wd_1297) (fun _ h9 => h9) rfl d_Mod_goOn_139 ?_
              refine lv_bipush (v := 64) hx hb d_Mod_goOn_142 (by decide) ?_
              refine lv_iload hx hb d_Mod_goOn_144 (lv_at hl 0 rfl) ?_
              refine lv_iadd hx hb d_Mod_goOn_146 ?_
              refine tw_ri (e2 := nI (64 + k)) (nI_add 64 k) ?_
              refine va_iald hx hb hK hP 4 0 rfl rfl (vp_in_nI (by omega) (by decide)) d_Mod_goOn_147 ?_
              obtain ⟨x7, ex7⟩ : ∃ z : Int32, nw ((nI (64 + k)).toNatClampNeg) = z := ⟨_, rfl⟩
              refine tw_ri (e2 := x7) ex7 ?_
              refine lv_icmp_ne (tgt := 155) hx hb d_Mod_goOn_148 (by decide) (fun h148 => ?_) (fun h148 => ?_)
              · refine lv_iconst (v := 0) hx hb d_Mod_goOn_155 (by decide) ?_
                refine lv_istore hx hb d_Mod_goOn_156 hl (by decide) rfl (fun ls hl => ?_)
                have hl : lv_has ls 10 [(5, .int 0), (6, .int (nI k)), (4, .int (nI (128 * tt))), (0, .ref h0), (1, .int (nI tt)), (2, .ref (q 47)), (3, .int (nI dd))] := hl
                refine lv_iinc (k := 1) (v := nI (k + 1)) hx hb d_Mod_goOn_158 hl rfl ((nI_succ k).symm) (by decide) rfl (fun ls hl => ?_)
                have hl : lv_has ls 10 [(6, .int (nI (k + 1))), (5, .int 0), (4, .int (nI (128 * tt))), (0, .ref h0), (1, .int (nI tt)), (2, .ref (q 47)), (3, .int (nI dd))] := hl
                refine lv_goto (tgt := 114) hx hb d_Mod_goOn_161 (by decide) ?_
                have hP : va_P g.1 classes [(h0, .inr (10, mob q rf n mm mb fa fp av ev wi mn tp tc sc nf fd me mp xn mt wh tq ag an ig)), ((q 41), aI g 600 dp), ((q 42), aZ g 600 iw), ((q 43), aI g 76800 kd), ((q 47), aI g 128 nw)] H := hP.sub [0, 1, 2, 3, 4] rfl
                have hD : va_D A [(h0, .inr (10, mob q rf n mm mb fa fp av ev wi mn tp tc sc nf fd me mp xn mt wh tq ag an ig)), ((q 41), aI g 600 dp), ((q 42), aZ g 600 iw), ((q 43), aI g 76800 kd), ((q 47), aI g 128 nw)] := hD.sub [0, 1, 2, 3, 4] (by decide) rfl
                exact ih _ (by omega) 0 (k + 1) ls _ _ rfl (by omega) (lv_sub hl [0, 1, 2, 3, 4, 5, 6] rfl) hP hD hS
              · refine lv_iconst (v := 1) hx hb d_Mod_goOn_151 (by decide) ?_
                refine lv_goto (tgt := 156) hx hb d_Mod_goOn_152 (by decide) ?_
                refine lv_istore hx hb d_Mod_goOn_156 hl (by decide) rfl (fun ls hl => ?_)
                have hl : lv_has ls 10 [(5, .int 1), (6, .int (nI k)), (4, .int (nI (128 * tt))), (0, .ref h0), (1, .int (nI tt)), (2, .ref (q 47)), (3, .int (nI dd))] := hl
                refine lv_iinc (k := 1) (v := nI (k + 1)) hx hb d_Mod_goOn_158 hl rfl ((nI_succ k).symm) (by decide) rfl (fun ls hl => ?_)
                have hl : lv_has ls 10 [(6, .int (nI (k + 1))), (5, .int 1), (4, .int (nI (128 * tt))), (0, .ref h0), (1, .int (nI tt)), (2, .ref (q 47)), (3, .int (nI dd))] := hl
                refine lv_goto (tgt := 114) hx hb d_Mod_goOn_161 (by decide) ?_
                have hP : va_P g.1 classes [(h0, .inr (10, mob q rf n mm mb fa fp av ev wi mn tp tc sc nf fd me mp xn mt wh tq ag an ig)), ((q 41), aI g 600 dp), ((q 42), aZ g 600 iw), ((q 43), aI g 76800 kd), ((q 47), aI g 128 nw)] H := hP.sub [0, 1, 2, 3, 4] rfl
                have hD : va_D A [(h0, .inr (10, mob q rf n mm mb fa fp av ev wi mn tp tc sc nf fd me mp xn mt wh tq ag an ig)), ((q 41), aI g 600 dp), ((q 42), aZ g 600 iw), ((q 43), aI g 76800 kd), ((q 47), aI g 128 nw)] := hD.sub [0, 1, 2, 3, 4] (by decide) rfl
                exact ih _ (by omega) 1 (k + 1) ls _ _ rfl (by omega) (lv_sub hl [0, 1, 2, 3, 4, 5, 6] rfl) hP hD hS
      exact loop114 _ 0 0 ls _ _ rfl (Nat.zero_le _) (hl) hP hD hS
    · refine lv_iconst (v := 1) hx hb d_Mod_goOn_104 (by decide) ?_
      refine lv_goto (tgt := 109) hx hb d_Mod_goOn_105 (by decide) ?_
      refine lv_istore hx hb d_Mod_goOn_109 hl (by decide) rfl (fun ls hl => ?_)
      have hl : lv_has ls 10 [(5, .int 1), (4, .int (nI (128 * tt))), (0, .ref h0), (1, .int (nI tt)), (2, .ref (q 47)), (3, .int (nI dd))] := hl
      refine lv_iconst (v := 0) hx hb d_Mod_goOn_111 (by decide) ?_
      refine lv_istore hx hb d_Mod_goOn_112 hl (by decide) rfl (fun ls hl => ?_)
      have hl : lv_has ls 10 [(6, .int 0), (5, .int 1), (4, .int (nI (128 * tt))), (0, .ref h0), (1, .int (nI tt)), (2, .ref (q 47)), (3, .int (nI dd))] := hl
      have loop114 : ∀ (kq : Nat) (s9 : Int32) (k : Nat) (ls : Array Slot) (H : Heap) (locs : List Loc) , dd - k = kq → (hkd : k ≤ dd) → lv_has ls 10 [(6, .int (nI k)), (5, .int s9), (4, .int (nI (128 * tt))), (0, .ref h0), (1, .int (nI tt)), (2, .ref (q 47)), (3, .int (nI dd))] → va_P g.1 classes [(h0, .inr (10, mob q rf n mm mb fa fp av ev wi mn tp tc sc nf fd me mp xn mt wh tq ag an ig)), ((q 41), aI g 600 dp), ((q 42), aZ g 600 iw), ((q 43), aI g 76800 kd), ((q 47), aI g 128 nw)] H → va_D A [(h0, .inr (10, mob q rf n mm mb fa fp av ev wi mn tp tc sc nf fd me mp xn mt wh tq ag an ig)), ((q 41), aI g 600 dp), ((q 42), aZ g 600 iw), ((q 43), aI g 76800 kd), ((q 47), aI g 128 nw)] → va_S A s.heap H locs → W p l e ({ frames := 1, cells := 0, slots := 0, locals := 22 }) s m [.ref h0, .int (nI tt), .ref (q 47), .int (nI dd)].toArray below meth c H locs 0 0 (MQ below (tw_Qv g (fun (u : Int32 × Int32 × (Nat → Int32) × (Nat → Int32) × (Nat → Int32)) => (u.1 = 0 → fa = 0) ∧ (FRG u.2.2.1 u.2.2.2.1 u.2.2.2.2) ∧ (MU u.2.2.1 u.2.2.2.1 u.2.2.2.2 ≤ MU dp iw kd)) (fun u : Int32 × Int32 × (Nat → Int32) × (Nat → Int32) × (Nat → Int32) => [(h0, .inr (10, mob q rf n mm mb u.1 u.2.1 av ev wi mn tp tc sc nf fd me mp xn mt wh tq ag an ig)), ((q 41), aI g 600 u.2.2.1), ((q 42), aZ g 600 u.2.2.2.1), ((q 43), aI g 76800 u.2.2.2.2), ((q 47), aI g 128 nw)]) A) [.ref h0, .int (nI tt), .ref (q 47), .int (nI dd)].toArray s 0 0 A) (F0 m 114 ls []) := by
        intro kq
        induction kq using Nat.strongRecOn with
        | _ kq ih =>
          intro s9 k ls H locs hk hkd hl hP hD hS
          refine lv_iload hx hb d_Mod_goOn_114 (lv_at hl 1 rfl) ?_
          refine lv_if_eq (tgt := 164) hx hb d_Mod_goOn_116 (by decide) (fun h116 => ?_) (fun h116 => ?_)
          · refine lv_iload hx hb d_Mod_goOn_164 (lv_at hl 1 rfl) ?_
            refine lv_if_ne (tgt := 180) hx hb d_Mod_goOn_166 (by decide) (fun h166 => ?_) (fun h166 => ?_)
            · exact absurd h116 h166
            · refine lv_aload_n hx hb d_Mod_goOn_169 rfl (lv_at hl 3 rfl) ?_
              refine lv_bipush (v := 25) hx hb d_Mod_goOn_170 (by decide) ?_
              refine lv_aload_n hx hb d_Mod_goOn_172 rfl (lv_at hl 3 rfl) ?_
              refine va_get (D := g.1) (ci := 10) (v := .int (nI wh)) (C := R_Mod) (T := F_Mod) (N := 61) hx hb hts in_Mod hown hK hP 0 rfl rfl 45 (by decide) (hts _ wd_1295) (fun _ h9 => h9) rfl d_Mod_goOn_173 ?_
              refine tw_wv (wr := [((q 41), aI g 600 dp), ((q 42), aZ g 600 iw), ((q 43), aI g 76800 kd), ((q 47), aI g 128 nw)]) (tw_runV (ws := [(h0, .inr (10, mob q rf n mm mb fa fp av ev wi mn tp tc sc nf fd me mp xn mt wh tq ag an ig)), ((q 41), aI g 600 dp), ((q 42), aZ g 600 iw), ((q 43), aI g 76800 kd), ((q 47), aI g 128 nw)]) (wc := [(h0, .inr (10, mob q rf n mm mb fa fp av ev wi mn tp tc sc nf fd me mp xn mt wh tq ag an ig))]) (As := [.int 25, .int (nI wh)]) (rest := []) E hB hK hZ (g_Mod_fail l g H.size h0 q rf n mm mb av ev wi mn tp tc sc nf fd me mp xn mt wh tq ag an ig fa fp 25 (nI wh) (by decide)) mc_Mod_fail mi_Mod_fail me_Mod_fail wd_1478 hP hD hS hA [0] rfl (by decide) 0 rfl rfl rfl rfl rfl (by decide) rfl hl.1 rfl (Nat.le_of_ble_eq_true rfl) (by decide) d_Mod_goOn_176) hP hD hS hA [0] [1, 2, 3, 4] rfl rfl (by decide) (by decide) (fun u9 H locs hr8 hP hD hS => ?_)
              try dsimp only at hr8
              have hP : va_P g.1 classes [((q 41), aI g 600 dp), ((q 42), aZ g 600 iw), ((q 43), aI g 76800 kd), ((q 47), aI g 128 nw), (h0, .inr (10, mob q rf n mm mb u9.1 u9.2 av ev wi mn tp tc sc nf fd me mp xn mt wh tq ag an ig))] H := hP
              have hD : va_D A [((q 41), aI g 600 dp), ((q 42), aZ g 600 iw), ((q 43), aI g 76800 kd), ((q 47), aI g 128 nw), (h0, .inr (10, mob q rf n mm mb u9.1 u9.2 av ev wi mn tp tc sc nf fd me mp xn mt wh tq ag an ig))] := hD
              have hP : va_P g.1 classes [(h0, .inr (10, mob q rf n mm mb u9.1 u9.2 av ev wi mn tp tc sc nf fd me mp xn mt wh tq ag an ig)), ((q 41), aI g 600 dp), ((q 42), aZ g 600 iw), ((q 43), aI g 76800 kd), ((q 47), aI g 128 nw)] H := hP.sub [4, 0, 1, 2, 3] rfl
              have hD : va_D A [(h0, .inr (10, mob q rf n mm mb u9.1 u9.2 av ev wi mn tp tc sc nf fd me mp xn mt wh tq ag an ig)), ((q 41), aI g 600 dp), ((q 42), aZ g 600 iw), ((q 43), aI g 76800 kd), ((q 47), aI g 128 nw)] := hD.sub [4, 0, 1, 2, 3] (by decide) rfl
              have hp9_0 := hr8
              exact tw_vret E hS (u9.1, u9.2, dp, iw, kd) (⟨(fun h => absurd h hp9_0), hFR, (Nat.le_refl _)⟩) hP hD d_Mod_goOn_179
          · refine lv_iload hx hb d_Mod_goOn_119 (lv_at hl 0 rfl) ?_
            refine lv_iload_n hx hb d_Mod_goOn_121 rfl (lv_at hl 6 rfl) ?_
            refine lv_icmp_ge (tgt := 164) hx hb d_Mod_goOn_122 (by decide) (fun h122 => ?_) (fun h122 => ?_)
            · refine lv_iload hx hb d_Mod_goOn_164 (lv_at hl 1 rfl) ?_
              refine lv_if_ne (tgt := 180) hx hb d_Mod_goOn_166 (by decide) (fun h166 => ?_) (fun h166 => ?_)
              · refine lv_iconst (v := 0) hx hb d_Mod_goOn_180 (by decide) ?_
                refine lv_istore hx hb d_Mod_goOn_181 hl (by decide) rfl (fun ls hl => ?_)
                have hl : lv_has ls 10 [(6, .int 0), (5, .int s9), (4, .int (nI (128 * tt))), (0, .ref h0), (1, .int (nI tt)), (2, .ref (q 47)), (3, .int (nI dd))] := hl
                refine lv_iconst (v := 0) hx hb d_Mod_goOn_183 (by decide) ?_
                refine lv_istore hx hb d_Mod_goOn_184 hl (by decide) rfl (fun ls hl => ?_)
                have hl : lv_has ls 10 [(7, .int 0), (6, .int 0), (5, .int s9), (4, .int (nI (128 * tt))), (0, .ref h0), (1, .int (nI tt)), (2, .ref (q 47)), (3, .int (nI dd))] := hl
                have loop186 : ∀ (kq : Nat) (c9 : Int32) (k : Nat) (kd9 : Nat → Int32) (ls : Array Slot) (H : Heap) (locs : List Loc) , 64 - k = kq → (hk4 : k ≤ 64) → (hKD : KD3 kd9) → (hCN : CHN c9 (NK kd9) (NK kd)) → lv_has ls 10 [(7, .int (nI k)), (6, .int c9), (5, .int s9), (4, .int (nI (128 * tt))), (0, .ref h0), (1, .int (nI tt)), (2, .ref (q 47)), (3, .int (nI dd))] → va_P g.1 classes [(h0, .inr (10, mob q rf n mm mb fa fp av ev wi mn tp tc sc nf fd me mp xn mt wh tq ag an ig)), ((q 41), aI g 600 dp), ((q 42), aZ g 600 iw), ((q 43), aI g 76800 kd9), ((q 47), aI g 128 nw)] H → va_D A [(h0, .inr (10, mob q rf n mm mb fa fp av ev wi mn tp tc sc nf fd me mp xn mt wh tq ag an ig)), ((q 41), aI g 600 dp), ((q 42), aZ g 600 iw), ((q 43), aI g 76800 kd9), ((q 47), aI g 128 nw)] → va_S A s.heap H locs → W p l e ({ frames := 1, cells := 0, slots := 0, locals := 22 }) s m [.ref h0, .int (nI tt), .ref (q 47), .int (nI dd)].toArray below meth c H locs 0 0 (MQ below (tw_Qv g (fun (u : Int32 × Int32 × (Nat → Int32) × (Nat → Int32) × (Nat → Int32)) => (u.1 = 0 → fa = 0) ∧ (FRG u.2.2.1 u.2.2.2.1 u.2.2.2.2) ∧ (MU u.2.2.1 u.2.2.2.1 u.2.2.2.2 ≤ MU dp iw kd)) (fun u : Int32 × Int32 × (Nat → Int32) × (Nat → Int32) × (Nat → Int32) => [(h0, .inr (10, mob q rf n mm mb u.1 u.2.1 av ev wi mn tp tc sc nf fd me mp xn mt wh tq ag an ig)), ((q 41), aI g 600 u.2.2.1), ((q 42), aZ g 600 u.2.2.2.1), ((q 43), aI g 76800 u.2.2.2.2), ((q 47), aI g 128 nw)]) A) [.ref h0, .int (nI tt), .ref (q 47), .int (nI dd)].toArray s 0 0 A) (F0 m 186 ls []) := by
                  intro kq
                  induction kq using Nat.strongRecOn with
                  | _ kq ih186 =>
                    intro c9 k kd9 ls H locs hk186 hk4 hKD hCN hl hP hD hS
                    refine lv_iload hx hb d_Mod_goOn_186 (lv_at hl 0 rfl) ?_
                    refine lv_bipush (v := 64) hx hb d_Mod_goOn_188 (by decide) ?_
                    refine lv_icmp_ge (tgt := 243) hx hb d_Mod_goOn_190 (by decide) (fun h190 => ?_) (fun h190 => ?_)
                    · have h190 := tn_le (a := 64) h190 (by decide) (by omega)
                      refine lv_iconst (v := 0) hx hb d_Mod_goOn_243 (by decide) ?_
                      refine lv_istore hx hb d_Mod_goOn_244 hl (by decide) rfl (fun ls hl => ?_)
                      have hl : lv_has ls 10 [(7, .int 0), (6, .int c9), (5, .int s9), (4, .int (nI (128 * tt))), (0, .ref h0), (1, .int (nI tt)), (2, .ref (q 47)), (3, .int (nI dd))] := hl
                      have loop246 : ∀ (kq : Nat) (c8 : Int32) (k : Nat) (kd8 : Nat → Int32) (ls : Array Slot) (H : Heap) (locs : List Loc) , 64 - k = kq → (hk48 : k ≤ 64) → (hKD8 : KD3 kd8) → (hCN8 : CHN c8 (NK kd8) (NK kd)) → lv_has ls 10 [(7, .int (nI k)), (6, .int c8), (4, .int (nI (128 * tt))), (0, .ref h0), (1, .int (nI tt)), (2, .ref (q 47)), (3, .int (nI dd))] → va_P g.1 classes [(h0, .inr (10, mob q rf n mm mb fa fp av ev wi mn tp tc sc nf fd me mp xn mt wh tq ag an ig)), ((q 41), aI g 600 dp), ((q 42), aZ g 600 iw), ((q 43), aI g 76800 kd8), ((q 47), aI g 128 nw)] H → va_D A [(h0, .inr (10, mob q rf n mm mb fa fp av ev wi mn tp tc sc nf fd me mp xn mt wh tq ag an ig)), ((q 41), aI g 600 dp), ((q 42), aZ g 600 iw), ((q 43), aI g 76800 kd8), ((q 47), aI g 128 nw)] → va_S A s.heap H locs → W p l e ({ frames := 1, cells := 0, slots := 0, locals := 22 }) s m [.ref h0, .int (nI tt), .ref (q 47), .int (nI dd)].toArray below meth c H locs 0 0 (MQ below (tw_Qv g (fun (u : Int32 × Int32 × (Nat → Int32) × (Nat → Int32) × (Nat → Int32)) => (u.1 = 0 → fa = 0) ∧ (FRG u.2.2.1 u.2.2.2.1 u.2.2.2.2) ∧ (MU u.2.2.1 u.2.2.2.1 u.2.2.2.2 ≤ MU dp iw kd)) (fun u : Int32 × Int32 × (Nat → Int32) × (Nat → Int32) × (Nat → Int32) => [(h0, .inr (10, mob q rf n mm mb u.1 u.2.1 av ev wi mn tp tc sc nf fd me mp xn mt wh tq ag an ig)), ((q 41), aI g 600 u.2.2.1), ((q 42), aZ g 600 u.2.2.2.1), ((q 43), aI g 76800 u.2.2.2.2), ((q 47), aI g 128 nw)]) A) [.ref h0, .int (nI tt), .ref (q 47), .int (nI dd)].toArray s 0 0 A) (F0 m 246 ls []) := by
                        intro kq
                        induction kq using Nat.strongRecOn with
                        | _ kq ih246 =>
                          intro c8 k kd8 ls H locs hk246 hk48 hKD8 hCN8 hl hP hD hS
                          refine lv_iload hx hb d_Mod_goOn_246 (lv_at hl 0 rfl) ?_
                          refine lv_bipush (v := 64) hx hb d_Mod_goOn_248 (by decide) ?_
                          refine lv_icmp_ge (tgt := 353) hx hb d_Mod_goOn_250 (by decide) (fun h250 => ?_) (fun h250 => ?_)
                          · have h250 := tn_le (a := 64) h250 (by decide) (by omega)
                            refine lv_aload_n hx hb d_Mod_goOn_353 rfl (lv_at hl 3 rfl) ?_
                            refine va_get (D := g.1) (ci := 10) (v := .ref (q 42)) (C := R_Mod) (T := F_Mod) (N := 61) hx hb hts in_Mod hown hK hP 0 rfl rfl 42 (by decide) (hts _ wd_1292) (fun _ h9 => h9) rfl d_Mod_goOn_354 ?_
                            refine lv_iload_n hx hb d_Mod_goOn_357 rfl (lv_at hl 4 rfl) ?_
                            refine lv_aload_n hx hb d_Mod_goOn_358 rfl (lv_at hl 3 rfl) ?_
                            refine va_get (D := g.1) (ci := 10) (v := .ref (q 42)) (C := R_Mod) (T := F_Mod) (N := 61) hx hb hts in_Mod hown hK hP 0 rfl rfl 42 (by decide) (hts _ wd_1292) (fun _ h9 => h9) rfl d_Mod_goOn_359 ?_
                            refine lv_iload_n hx hb d_Mod_goOn_362 rfl (lv_at hl 4 rfl) ?_
                            refine va_zald hx hb hK hP 2 3 rfl rfl (vp_in_nI (by omega) (by decide)) d_Mod_goOn_363 ?_
                            refine tw_ri (e2 := iw tt) (by rw [nI_clamp (by omega)]) ?_
                            refine lv_if_ne (tgt := 372) hx hb d_Mod_goOn_364 (by decide) (fun h364 => ?_) (fun h364 => ?_)
                            · refine lv_iconst (v := 1) hx hb d_Mod_goOn_372 (by decide) ?_
                              refine lv_goto (tgt := 377) hx hb d_Mod_goOn_373 (by decide) ?_
                              refine va_zast hx hb hK hP hD hS 2 3 rfl rfl (vp_in_nI (by omega) (by decide)) d_Mod_goOn_377 (fun H locs hP hD hS => ?_)
                              have hP : va_P g.1 classes [(h0, .inr (10, mob q rf n mm mb fa fp av ev wi mn tp tc sc nf fd me mp xn mt wh tq ag an ig)), ((q 41), aI g 600 dp), ((q 42), aZ g 600 (upd iw (nI tt).toNatClampNeg (vp_nar .boolean 1))), ((q 43), aI g 76800 kd8), ((q 47), aI g 128 nw)] H := hP
                              have hD : va_D A [(h0, .inr (10, mob q rf n mm mb fa fp av ev wi mn tp tc sc nf fd me mp xn mt wh tq ag an ig)), ((q 41), aI g 600 dp), ((q 42), aZ g 600 (upd iw (nI tt).toNatClampNeg (vp_nar .boolean 1))), ((q 43), aI g 76800 kd8), ((q 47), aI g 128 nw)] := hD
                              have e9 : upd iw (nI tt).toNatClampNeg (vp_nar .boolean 1) = upd iw tt 1 := by rw [nI_clamp (by omega)]; rfl
                              rw [e9] at hP hD
                              exact tw_vret E hS (fa, fp, dp, upd iw tt 1, kd8) (⟨(fun h => h), (hFR.again h13 hKD8), (mu_keep ht6 (Or.inl ⟨by rw [wC_1 h364]; exact Nat.le_refl _, chn_le hCN8⟩))⟩) hP hD d_Mod_goOn_378
                            · refine lv_iload hx hb d_Mod_goOn_367 (lv_at hl 1 rfl) ?_
                              refine lv_if_eq (tgt := 376) hx hb d_Mod_goOn_369 (by decide) (fun h369 => ?_) (fun h369 => ?_)
                              · refine lv_iconst (v := 0) hx hb d_Mod_goOn_376 (by decide) ?_
                                refine va_zast hx hb hK hP hD hS 2 3 rfl rfl (vp_in_nI (by omega) (by decide)) d_Mod_goOn_377 (fun H locs hP hD hS => ?_)
                                have hP : va_P g.1 classes [(h0, .inr (10, mob q rf n mm mb fa fp av ev wi mn tp tc sc nf fd me mp xn mt wh tq ag an ig)), ((q 41), aI g 600 dp), ((q 42), aZ g 600 (upd iw (nI tt).toNatClampNeg (vp_nar .boolean 0))), ((q 43), aI g 76800 kd8), ((q 47), aI g 128 nw)] H := hP
                                have hD : va_D A [(h0, .inr (10, mob q rf n mm mb fa fp av ev wi mn tp tc sc nf fd me mp xn mt wh tq ag an ig)), ((q 41), aI g 600 dp), ((q 42), aZ g 600 (upd iw (nI tt).toNatClampNeg (vp_nar .boolean 0))), ((q 43), aI g 76800 kd8), ((q 47), aI g 128 nw)] := hD
                                have e9 : upd iw (nI tt).toNatClampNeg (vp_nar .boolean 0) = upd iw tt 0 := by rw [nI_clamp (by omega)]; rfl
                                rw [e9] at hP hD
                                exact tw_vret E hS (fa, fp, dp, upd iw tt 0, kd8) (⟨(fun h => h), (hFR.again h13 hKD8), (mu_keep ht6 (Or.inl ⟨Nat.zero_le _, chn_le hCN8⟩))⟩) hP hD d_Mod_goOn_378
                              · refine lv_iconst (v := 1) hx hb d_Mod_goOn_372 (by decide) ?_
                                refine lv_goto (tgt := 377) hx hb d_Mod_goOn_373 (by decide) ?_
                                refine va_zast hx hb hK hP hD hS 2 3 rfl rfl (vp_in_nI (by omega) (by decide)) d_Mod_goOn_377 (fun H locs hP hD hS => ?_)
                                have hP : va_P g.1 classes [(h0, .inr (10, mob q rf n mm mb fa fp av ev wi mn tp tc sc nf fd me mp xn mt wh tq ag an ig)), ((q 41), aI g 600 dp), ((q 42), aZ g 600 (upd iw (nI tt).toNatClampNeg (vp_nar .boolean 1))), ((q 43), aI g 76800 kd8), ((q 47), aI g 128 nw)] H := hP
                                have hD : va_D A [(h0, .inr (10, mob q rf n mm mb fa fp av ev wi mn tp tc sc nf fd me mp xn mt wh tq ag an ig)), ((q 41), aI g 600 dp), ((q 42), aZ g 600 (upd iw (nI tt).toNatClampNeg (vp_nar .boolean 1))), ((q 43), aI g 76800 kd8), ((q 47), aI g 128 nw)] := hD
                                have e9 : upd iw (nI tt).toNatClampNeg (vp_nar .boolean 1) = upd iw tt 1 := by rw [nI_clamp (by omega)]; rfl
                                rw [e9] at hP hD
                                exact tw_vret E hS (fa, fp, dp, upd iw tt 1, kd8) (⟨(fun h => h), (hFR.again h13 hKD8), (mu_keep ht6 (Or.inr (chn_lt hCN8 h369)))⟩) hP hD d_Mod_goOn_378
                          · have h250 := tn_nle (a := 64) h250 (by decide) (by omega)
                            refine lv_aload_n hx hb d_Mod_goOn_253 rfl (lv_at hl 3 rfl) ?_
                            refine va_get (D := g.1) (ci := 10) (v := .ref (q 43)) (C := R_Mod) (T := F_Mod) (N := 61) hx hb hts in_Mod hown hK hP 0 rfl rfl 43 (by decide) (hts _ wd_1293) (fun _ h9 => h9) rfl d_Mod_goOn_254 ?_
                            refine lv_iload hx hb d_Mod_goOn_257 (lv_at hl 2 rfl) ?_
                            refine lv_iload hx hb d_Mod_goOn_259 (lv_at hl 0 rfl) ?_
                            refine lv_iadd hx hb d_Mod_goOn_261 ?_
                            refine tw_ri (e2 := nI (128 * tt + k)) (nI_add _ _) ?_
                            refine va_iald hx hb hK hP 3 0 rfl rfl (vp_in_nI (by omega) (by decide)) d_Mod_goOn_262 ?_
                            refine tw_ri (e2 := kd8 (128 * tt + k)) (by rw [nI_clamp (by omega)]) ?_
                            refine lv_istore hx hb d_Mod_goOn_263 hl (by decide) rfl (fun ls hl => ?_)
                            have hl : lv_has ls 10 [(8, .int (kd8 (128 * tt + k))), (7, .int (nI k)), (6, .int c8), (4, .int (nI (128 * tt))), (0, .ref h0), (1, .int (nI tt)), (2, .ref (q 47)), (3, .int (nI dd))] := hl
                            refine lv_iload hx hb d_Mod_goOn_265 (lv_at hl 0 rfl) ?_
                            refine lv_iconst (v := 2) hx hb d_Mod_goOn_267 (by decide) ?_
                            refine lv_icmp_ne (tgt := 294) hx hb d_Mod_goOn_268 (by decide) (fun h268 => ?_) (fun h268 => ?_)
                            · refine lv_iload hx hb d_Mod_goOn_294 (lv_at hl 0 rfl) ?_
                              refine lv_iconst (v := 3) hx hb d_Mod_goOn_296 (by decide) ?_
                              refine lv_icmp_ne (tgt := 325) hx hb d_Mod_goOn_297 (by decide) (fun h297 => ?_) (fun h297 => ?_)
                              · refine lv_iconst (v := 0) hx hb d_Mod_goOn_325 (by decide) ?_
                                refine lv_istore hx hb d_Mod_goOn_326 hl (by decide) rfl (fun ls hl => ?_)
                                have hl : lv_has ls 10 [(9, .int 0), (8, .int (kd8 (128 * tt + k))), (7, .int (nI k)), (6, .int c8), (4, .int (nI (128 * tt))), (0, .ref h0), (1, .int (nI tt)), (2, .ref (q 47)), (3, .int (nI dd))] := hl
                                refine lv_iload hx hb d_Mod_goOn_328 (lv_at hl 0 rfl) ?_
                                refine lv_if_eq (tgt := 347) hx hb d_Mod_goOn_330 (by decide) (fun h330 => ?_) (fun h330 => ?_)
                                · refine lv_iinc (k := 2) (v := nI (k + 1)) hx hb d_Mod_goOn_347 hl rfl ((nI_succ k).symm) (by decide) rfl (fun ls hl => ?_)
                                  have hl : lv_has ls 10 [(7, .int (nI (k + 1))), (9, .int 0), (8, .int (kd8 (128 * tt + k))), (6, .int c8), (4, .int (nI (128 * tt))), (0, .ref h0), (1, .int (nI tt)), (2, .ref (q 47)), (3, .int (nI dd))] := hl
                                  refine lv_goto (tgt := 246) hx hb d_Mod_goOn_350 (by decide) ?_
                                  have hP : va_P g.1 classes [(h0, .inr (10, mob q rf n mm mb fa fp av ev wi mn tp tc sc nf fd me mp xn mt wh tq ag an ig)), ((q 41), aI g 600 dp), ((q 42), aZ g 600 iw), ((q 43), aI g 76800 kd8), ((q 47), aI g 128 nw)] H := hP.sub [0, 1, 2, 3, 4] rfl
                                  have hD : va_D A [(h0, .inr (10, mob q rf n mm mb fa fp av ev wi mn tp tc sc nf fd me mp xn mt wh tq ag an ig)), ((q 41), aI g 600 dp), ((q 42), aZ g 600 iw), ((q 43), aI g 76800 kd8), ((q 47), aI g 128 nw)] := hD.sub [0, 1, 2, 3, 4] (by decide) rfl
                                  exact ih246 _ (by omega) c8 (k + 1) kd8 ls _ _ rfl (by omega) hKD8 hCN8 (lv_sub hl [0, 3, 4, 5, 6, 7, 8] rfl) hP hD hS
                                · first | exact absurd h330 (by decide) | exact absurd (by decide) h330
                              · refine lv_iload hx hb d_Mod_goOn_300 (lv_at hl 1 rfl) ?_
                                refine lv_if_eq (tgt := 321) hx hb d_Mod_goOn_302 (by decide) (fun h302 => ?_) (fun h302 => ?_)
                                · refine lv_iconst (v := 1) hx hb d_Mod_goOn_321 (by decide) ?_
                                  refine lv_goto (tgt := 326) hx hb d_Mod_goOn_322 (by decide) ?_
                                  refine lv_istore hx hb d_Mod_goOn_326 hl (by decide) rfl (fun ls hl => ?_)
                                  have hl : lv_has ls 10 [(9, .int 1), (8, .int (kd8 (128 * tt + k))), (7, .int (nI k)), (6, .int c8), (4, .int (nI (128 * tt))), (0, .ref h0), (1, .int (nI tt)), (2, .ref (q 47)), (3, .int (nI dd))] := hl
                                  refine lv_iload hx hb d_Mod_goOn_328 (lv_at hl 0 rfl) ?_
                                  refine lv_if_eq (tgt := 347) hx hb d_Mod_goOn_330 (by decide) (fun h330 => ?_) (fun h330 => ?_)
                                  · first | exact absurd h330 (by decide) | exact absurd (by decide) h330
                                  · refine lv_aload_n hx hb d_Mod_goOn_333 rfl (lv_at hl 5 rfl) ?_
                                    refine va_get (D := g.1) (ci := 10) (v := .ref (q 43)) (C := R_Mod) (T := F_Mod) (N := 61) hx hb hts in_Mod hown hK hP 0 rfl rfl 43 (by decide) (hts _ wd_1293) (fun _ h9 => h9) rfl d_Mod_goOn_334 ?_
                                    refine lv_iload hx hb d_Mod_goOn_337 (lv_at hl 4 rfl) ?_
                                    refine lv_iload hx hb d_Mod_goOn_339 (lv_at hl 2 rfl) ?_
                                    refine lv_iadd hx hb d_Mod_goOn_341 ?_
                                    refine tw_ri (e2 := nI (128 * tt + k)) (nI_add _ _) ?_
                                    refine lv_iconst (v := 0) hx hb d_Mod_goOn_342 (by decide) ?_
                                    refine va_iast hx hb hK hP hD hS 3 0 rfl rfl (vp_in_nI (by omega) (by decide)) d_Mod_goOn_343 (fun H locs hP hD hS => ?_)
                                    have hP : va_P g.1 classes [(h0, .inr (10, mob q rf n mm mb fa fp av ev wi mn tp tc sc nf fd me mp xn mt wh tq ag an ig)), ((q 41), aI g 600 dp), ((q 42), aZ g 600 iw), ((q 43), aI g 76800 (upd kd8 (nI (128 * tt + k)).toNatClampNeg 0)), ((q 47), aI g 128 nw)] H := hP
                                    have hD : va_D A [(h0, .inr (10, mob q rf n mm mb fa fp av ev wi mn tp tc sc nf fd me mp xn mt wh tq ag an ig)), ((q 41), aI g 600 dp), ((q 42), aZ g 600 iw), ((q 43), aI g 76800 (upd kd8 (nI (128 * tt + k)).toNatClampNeg 0)), ((q 47), aI g 128 nw)] := hD
                                    have e9 : upd kd8 (nI (128 * tt + k)).toNatClampNeg 0 = upd kd8 (128 * tt + k) 0 := by rw [nI_clamp (by omega)]
                                    rw [e9] at hP hD
                                    refine lv_iconst (v := 1) hx hb d_Mod_goOn_344 (by decide) ?_
                                    refine lv_istore hx hb d_Mod_goOn_345 hl (by decide) rfl (fun ls hl => ?_)
                                    have hl : lv_has ls 10 [(6, .int 1), (9, .int 1), (8, .int (kd8 (128 * tt + k))), (7, .int (nI k)), (4, .int (nI (128 * tt))), (0, .ref h0), (1, .int (nI tt)), (2, .ref (q 47)), (3, .int (nI dd))] := hl
                                    refine lv_iinc (k := 3) (v := nI (k + 1)) hx hb d_Mod_goOn_347 hl rfl ((nI_succ k).symm) (by decide) rfl (fun ls hl => ?_)
                                    have hl : lv_has ls 10 [(7, .int (nI (k + 1))), (6, .int 1), (9, .int 1), (8, .int (kd8 (128 * tt + k))), (4, .int (nI (128 * tt))), (0, .ref h0), (1, .int (nI tt)), (2, .ref (q 47)), (3, .int (nI dd))] := hl
                                    refine lv_goto (tgt := 246) hx hb d_Mod_goOn_350 (by decide) ?_
                                    have hP : va_P g.1 classes [(h0, .inr (10, mob q rf n mm mb fa fp av ev wi mn tp tc sc nf fd me mp xn mt wh tq ag an ig)), ((q 41), aI g 600 dp), ((q 42), aZ g 600 iw), ((q 43), aI g 76800 (upd kd8 (128 * tt + k) 0)), ((q 47), aI g 128 nw)] H := hP.sub [0, 1, 2, 3, 4] rfl
                                    have hD : va_D A [(h0, .inr (10, mob q rf n mm mb fa fp av ev wi mn tp tc sc nf fd me mp xn mt wh tq ag an ig)), ((q 41), aI g 600 dp), ((q 42), aZ g 600 iw), ((q 43), aI g 76800 (upd kd8 (128 * tt + k) 0)), ((q 47), aI g 128 nw)] := hD.sub [0, 1, 2, 3, 4] (by decide) rfl
                                    exact ih246 _ (by omega) 1 (k + 1) (upd kd8 (128 * tt + k) 0) ls _ _ rfl (by omega) (hKD8.put (fun _ => by decide)) (nk_dn hCN8 (by omega) (by omega) (by rw [h297]; decide)) (lv_sub hl [0, 1, 4, 5, 6, 7, 8] rfl) hP hD hS
                                · have h302 := tn_ne (b := 0) h302
                                  refine lv_aload_n hx hb d_Mod_goOn_305 rfl (lv_at hl 4 rfl) ?_
                                  refine va_get (D := g.1) (ci := 10) (v := .ref (q 43)) (C := R_Mod) (T := F_Mod) (N := 61) hx hb hts in_Mod hown hK hP 0 rfl rfl 43 (by decide) (hts _ wd_1293) (fun _ h9 => h9) rfl d_Mod_goOn_306 ?_
                                  refine lv_iload hx hb d_Mod_goOn_309 (lv_at hl 3 rfl) ?_
                                  refine lv_iload hx hb d_Mod_goOn_311 (lv_at hl 1 rfl) ?_
                                  refine lv_iadd hx hb d_Mod_goOn_313 ?_
                                  refine tw_ri (e2 := nI (128 * tt + k)) (nI_add _ _) ?_
                                  refine lv_iconst (v := 1) hx hb d_Mod_goOn_314 (by decide) ?_
                                  refine lv_isub hx hb d_Mod_goOn_315 ?_
                                  refine tw_ri (e2 := nI (128 * tt + k - 1)) (pk_sub (b := 1) (by omega)) ?_
                                  refine va_iald hx hb hK hP 3 0 rfl rfl (vp_in_nI (by omega) (by decide)) d_Mod_goOn_316 ?_
                                  obtain ⟨x10, ex10⟩ : ∃ z : Int32, kd8 ((nI (128 * tt + k - 1)).toNatClampNeg) = z := ⟨_, rfl⟩
                                  refine tw_ri (e2 := x10) ex10 ?_
                                  refine lv_iconst (v := 2) hx hb d_Mod_goOn_317 (by decide) ?_
                                  refine lv_icmp_eq (tgt := 325) hx hb d_Mod_goOn_318 (by decide) (fun h318 => ?_) (fun h318 => ?_)
                                  · refine lv_iconst (v := 0) hx hb d_Mod_goOn_325 (by decide) ?_
                                    refine lv_istore hx hb d_Mod_goOn_326 hl (by decide) rfl (fun ls hl => ?_)
                                    have hl : lv_has ls 10 [(9, .int 0), (8, .int (kd8 (128 * tt + k))), (7, .int (nI k)), (6, .int c8), (4, .int (nI (128 * tt))), (0, .ref h0), (1, .int (nI tt)), (2, .ref (q 47)), (3, .int (nI dd))] := hl
                                    refine lv_iload hx hb d_Mod_goOn_328 (lv_at hl 0 rfl) ?_
                                    refine lv_if_eq (tgt := 347) hx hb d_Mod_goOn_330 (by decide) (fun h330 => ?_) (fun h330 => ?_)
                                    · refine lv_iinc (k := 2) (v := nI (k + 1)) hx hb d_Mod_goOn_347 hl rfl ((nI_succ k).symm) (by decide) rfl (fun ls hl => ?_)
                                      have hl : lv_has ls 10 [(7, .int (nI (k + 1))), (9, .int 0), (8, .int (kd8 (128 * tt + k))), (6, .int c8), (4, .int (nI (128 * tt))), (0, .ref h0), (1, .int (nI tt)), (2, .ref (q 47)), (3, .int (nI dd))] := hl
                                      refine lv_goto (tgt := 246) hx hb d_Mod_goOn_350 (by decide) ?_
                                      have hP : va_P g.1 classes [(h0, .inr (10, mob q rf n mm mb fa fp av ev wi mn tp tc sc nf fd me mp xn mt wh tq ag an ig)), ((q 41), aI g 600 dp), ((q 42), aZ g 600 iw), ((q 43), aI g 76800 kd8), ((q 47), aI g 128 nw)] H := hP.sub [0, 1, 2, 3, 4] rfl
                                      have hD : va_D A [(h0, .inr (10, mob q rf n mm mb fa fp av ev wi mn tp tc sc nf fd me mp xn mt wh tq ag an ig)), ((q 41), aI g 600 dp), ((q 42), aZ g 600 iw), ((q 43), aI g 76800 kd8), ((q 47), aI g 128 nw)] := hD.sub [0, 1, 2, 3, 4] (by decide) rfl
                                      exact ih246 _ (by omega) c8 (k + 1) kd8 ls _ _ rfl (by omega) hKD8 hCN8 (lv_sub hl [0, 3, 4, 5, 6, 7, 8] rfl) hP hD hS
                                    · first | exact absurd h330 (by decide) | exact absurd (by decide) h330
                                  · refine lv_iconst (v := 1) hx hb d_Mod_goOn_321 (by decide) ?_
                                    refine lv_goto (tgt := 326) hx hb d_Mod_goOn_322 (by decide) ?_
                                    refine lv_istore hx hb d_Mod_goOn_326 hl (by decide) rfl (fun ls hl => ?_)
                                    have hl : lv_has ls 10 [(9, .int 1), (8, .int (kd8 (128 * tt + k))), (7, .int (nI k)), (6, .int c8), (4, .int (nI (128 * tt))), (0, .ref h0), (1, .int (nI tt)), (2, .ref (q 47)), (3, .int (nI dd))] := hl
                                    refine lv_iload hx hb d_Mod_goOn_328 (lv_at hl 0 rfl) ?_
                                    refine lv_if_eq (tgt := 347) hx hb d_Mod_goOn_330 (by decide) (fun h330 => ?_) (fun h330 => ?_)
                                    · first | exact absurd h330 (by decide) | exact absurd (by decide) h330
                                    · refine lv_aload_n hx hb d_Mod_goOn_333 rfl (lv_at hl 5 rfl) ?_
                                      refine va_get (D := g.1) (ci := 10) (v := .ref (q 43)) (C := R_Mod) (T := F_Mod) (N := 61) hx hb hts in_Mod hown hK hP 0 rfl rfl 43 (by decide) (hts _ wd_1293) (fun _ h9 => h9) rfl d_Mod_goOn_334 ?_
                                      refine lv_iload hx hb d_Mod_goOn_337 (lv_at hl 4 rfl) ?_
                                      refine lv_iload hx hb d_Mod_goOn_339 (lv_at hl 2 rfl) ?_
                                      refine lv_iadd hx hb d_Mod_goOn_341 ?_
                                      refine tw_ri (e2 := nI (128 * tt + k)) (nI_add _ _) ?_
                                      refine lv_iconst (v := 0) hx hb d_Mod_goOn_342 (by decide) ?_
                                      refine va_iast hx hb hK hP hD hS 3 0 rfl rfl (vp_in_nI (by omega) (by decide)) d_Mod_goOn_343 (fun H locs hP hD hS => ?_)
                                      have hP : va_P g.1 classes [(h0, .inr (10, mob q rf n mm mb fa fp av ev wi mn tp tc sc nf fd me mp xn mt wh tq ag an ig)), ((q 41), aI g 600 dp), ((q 42), aZ g 600 iw), ((q 43), aI g 76800 (upd kd8 (nI (128 * tt + k)).toNatClampNeg 0)), ((q 47), aI g 128 nw)] H := hP
                                      have hD : va_D A [(h0, .inr (10, mob q rf n mm mb fa fp av ev wi mn tp tc sc nf fd me mp xn mt wh tq ag an ig)), ((q 41), aI g 600 dp), ((q 42), aZ g 600 iw), ((q 43), aI g 76800 (upd kd8 (nI (128 * tt + k)).toNatClampNeg 0)), ((q 47), aI g 128 nw)] := hD
                                      have e9 : upd kd8 (nI (128 * tt + k)).toNatClampNeg 0 = upd kd8 (128 * tt + k) 0 := by rw [nI_clamp (by omega)]
                                      rw [e9] at hP hD
                                      refine lv_iconst (v := 1) hx hb d_Mod_goOn_344 (by decide) ?_
                                      refine lv_istore hx hb d_Mod_goOn_345 hl (by decide) rfl (fun ls hl => ?_)
                                      have hl : lv_has ls 10 [(6, .int 1), (9, .int 1), (8, .int (kd8 (128 * tt + k))), (7, .int (nI k)), (4, .int (nI (128 * tt))), (0, .ref h0), (1, .int (nI tt)), (2, .ref (q 47)), (3, .int (nI dd))] := hl
                                      refine lv_iinc (k := 3) (v := nI (k + 1)) hx hb d_Mod_goOn_347 hl rfl ((nI_succ k).symm) (by decide) rfl (fun ls hl => ?_)
                                      have hl : lv_has ls 10 [(7, .int (nI (k + 1))), (6, .int 1), (9, .int 1), (8, .int (kd8 (128 * tt + k))), (4, .int (nI (128 * tt))), (0, .ref h0), (1, .int (nI tt)), (2, .ref (q 47)), (3, .int (nI dd))] := hl
                                      refine lv_goto (tgt := 246) hx hb d_Mod_goOn_350 (by decide) ?_
                                      have hP : va_P g.1 classes [(h0, .inr (10, mob q rf n mm mb fa fp av ev wi mn tp tc sc nf fd me mp xn mt wh tq ag an ig)), ((q 41), aI g 600 dp), ((q 42), aZ g 600 iw), ((q 43), aI g 76800 (upd kd8 (128 * tt + k) 0)), ((q 47), aI g 128 nw)] H := hP.sub [0, 1, 2, 3, 4] rfl
                                      have hD : va_D A [(h0, .inr (10, mob q rf n mm mb fa fp av ev wi mn tp tc sc nf fd me mp xn mt wh tq ag an ig)), ((q 41), aI g 600 dp), ((q 42), aZ g 600 iw), ((q 43), aI g 76800 (upd kd8 (128 * tt + k) 0)), ((q 47), aI g 128 nw)] := hD.sub [0, 1, 2, 3, 4] (by decide) rfl
                                      exact ih246 _ (by omega) 1 (k + 1) (upd kd8 (128 * tt + k) 0) ls _ _ rfl (by omega) (hKD8.put (fun _ => by decide)) (nk_dn hCN8 (by omega) (by omega) (by rw [h297]; decide)) (lv_sub hl [0, 1, 4, 5, 6, 7, 8] rfl) hP hD hS
                            · refine lv_iload hx hb d_Mod_goOn_271 (lv_at hl 1 rfl) ?_
                              refine lv_bipush (v := 63) hx hb d_Mod_goOn_273 (by decide) ?_
                              refine lv_icmp_eq (tgt := 321) hx hb d_Mod_goOn_275 (by decide) (fun h275 => ?_) (fun h275 => ?_)
                              · refine lv_iconst (v := 1) hx hb d_Mod_goOn_321 (by decide) ?_
                                refine lv_goto (tgt := 326) hx hb d_Mod_goOn_322 (by decide) ?_
                                refine lv_istore hx hb d_Mod_goOn_326 hl (by decide) rfl (fun ls hl => ?_)
                                have hl : lv_has ls 10 [(9, .int 1), (8, .int (kd8 (128 * tt + k))), (7, .int (nI k)), (6, .int c8), (4, .int (nI (128 * tt))), (0, .ref h0), (1, .int (nI tt)), (2, .ref (q 47)), (3, .int (nI dd))] := hl
                                refine lv_iload hx hb d_Mod_goOn_328 (lv_at hl 0 rfl) ?_
                                refine lv_if_eq (tgt := 347) hx hb d_Mod_goOn_330 (by decide) (fun h330 => ?_) (fun h330 => ?_)
                                · first | exact absurd h330 (by decide) | exact absurd (by decide) h330
                                · refine lv_aload_n hx hb d_Mod_goOn_333 rfl (lv_at hl 5 rfl) ?_
                                  refine va_get (D := g.1) (ci := 10) (v := .ref (q 43)) (C := R_Mod) (T := F_Mod) (N := 61) hx hb hts in_Mod hown hK hP 0 rfl rfl 43 (by decide) (hts _ wd_1293) (fun _ h9 => h9) rfl d_Mod_goOn_334 ?_
                                  refine lv_iload hx hb d_Mod_goOn_337 (lv_at hl 4 rfl) ?_
                                  refine lv_iload hx hb d_Mod_goOn_339 (lv_at hl 2 rfl) ?_
                                  refine lv_iadd hx hb d_Mod_goOn_341 ?_
                                  refine tw_ri (e2 := nI (128 * tt + k)) (nI_add _ _) ?_
                                  refine lv_iconst (v := 0) hx hb d_Mod_goOn_342 (by decide) ?_
                                  refine va_iast hx hb hK hP hD hS 3 0 rfl rfl (vp_in_nI (by omega) (by decide)) d_Mod_goOn_343 (fun H locs hP hD hS => ?_)
                                  have hP : va_P g.1 classes [(h0, .inr (10, mob q rf n mm mb fa fp av ev wi mn tp tc sc nf fd me mp xn mt wh tq ag an ig)), ((q 41), aI g 600 dp), ((q 42), aZ g 600 iw), ((q 43), aI g 76800 (upd kd8 (nI (128 * tt + k)).toNatClampNeg 0)), ((q 47), aI g 128 nw)] H := hP
                                  have hD : va_D A [(h0, .inr (10, mob q rf n mm mb fa fp av ev wi mn tp tc sc nf fd me mp xn mt wh tq ag an ig)), ((q 41), aI g 600 dp), ((q 42), aZ g 600 iw), ((q 43), aI g 76800 (upd kd8 (nI (128 * tt + k)).toNatClampNeg 0)), ((q 47), aI g 128 nw)] := hD
                                  have e9 : upd kd8 (nI (128 * tt + k)).toNatClampNeg 0 = upd kd8 (128 * tt + k) 0 := by rw [nI_clamp (by omega)]
                                  rw [e9] at hP hD
                                  refine lv_iconst (v := 1) hx hb d_Mod_goOn_344 (by decide) ?_
                                  refine lv_istore hx hb d_Mod_goOn_345 hl (by decide) rfl (fun ls hl => ?_)
                                  have hl : lv_has ls 10 [(6, .int 1), (9, .int 1), (8, .int (kd8 (128 * tt + k))), (7, .int (nI k)), (4, .int (nI (128 * tt))), (0, .ref h0), (1, .int (nI tt)), (2, .ref (q 47)), (3, .int (nI dd))] := hl
                                  refine lv_iinc (k := 3) (v := nI (k + 1)) hx hb d_Mod_goOn_347 hl rfl ((nI_succ k).symm) (by decide) rfl (fun ls hl => ?_)
                                  have hl : lv_has ls 10 [(7, .int (nI (k + 1))), (6, .int 1), (9, .int 1), (8, .int (kd8 (128 * tt + k))), (4, .int (nI (128 * tt))), (0, .ref h0), (1, .int (nI tt)), (2, .ref (q 47)), (3, .int (nI dd))] := hl
                                  refine lv_goto (tgt := 246) hx hb d_Mod_goOn_350 (by decide) ?_
                                  have hP : va_P g.1 classes [(h0, .inr (10, mob q rf n mm mb fa fp av ev wi mn tp tc sc nf fd me mp xn mt wh tq ag an ig)), ((q 41), aI g 600 dp), ((q 42), aZ g 600 iw), ((q 43), aI g 76800 (upd kd8 (128 * tt + k) 0)), ((q 47), aI g 128 nw)] H := hP.sub [0, 1, 2, 3, 4] rfl
                                  have hD : va_D A [(h0, .inr (10, mob q rf n mm mb fa fp av ev wi mn tp tc sc nf fd me mp xn mt wh tq ag an ig)), ((q 41), aI g 600 dp), ((q 42), aZ g 600 iw), ((q 43), aI g 76800 (upd kd8 (128 * tt + k) 0)), ((q 47), aI g 128 nw)] := hD.sub [0, 1, 2, 3, 4] (by decide) rfl
                                  exact ih246 _ (by omega) 1 (k + 1) (upd kd8 (128 * tt + k) 0) ls _ _ rfl (by omega) (hKD8.put (fun _ => by decide)) (nk_dn hCN8 (by omega) (by omega) (by rw [h268]; decide)) (lv_sub hl [0, 1, 4, 5, 6, 7, 8] rfl) hP hD hS
                              · refine lv_aload_n hx hb d_Mod_goOn_278 rfl (lv_at hl 4 rfl) ?_
                                refine va_get (D := g.1) (ci := 10) (v := .ref (q 43)) (C := R_Mod) (T := F_Mod) (N := 61) hx hb hts in_Mod hown hK hP 0 rfl rfl 43 (by decide) (hts _ wd_1293) (fun _ h9 => h9) rfl d_Mod_goOn_279 ?_
                                refine lv_iload hx hb d_Mod_goOn_282 (lv_at hl 3 rfl) ?_
                                refine lv_iload hx hb d_Mod_goOn_284 (lv_at hl 1 rfl) ?_
                                refine lv_iadd hx hb d_Mod_goOn_286 ?_
                                refine tw_ri (e2 := nI (128 * tt + k)) (nI_add _ _) ?_
                                refine lv_iconst (v := 1) hx hb d_Mod_goOn_287 (by decide) ?_
                                refine lv_iadd hx hb d_Mod_goOn_288 ?_
                                refine tw_ri (e2 := nI (128 * tt + k + 1)) (nI_add _ 1) ?_
                                refine va_iald hx hb hK hP 3 0 rfl rfl (vp_in_nI (by omega) (by decide)) d_Mod_goOn_289 ?_
                                obtain ⟨x11, ex11⟩ : ∃ z : Int32, kd8 ((nI (128 * tt + k + 1)).toNatClampNeg) = z := ⟨_, rfl⟩
                                refine tw_ri (e2 := x11) ex11 ?_
                                refine lv_iconst (v := 3) hx hb d_Mod_goOn_290 (by decide) ?_
                                refine lv_icmp_ne (tgt := 321) hx hb d_Mod_goOn_291 (by decide) (fun h291 => ?_) (fun h291 => ?_)
                                · refine lv_iconst (v := 1) hx hb d_Mod_goOn_321 (by decide) ?_
                                  refine lv_goto (tgt := 326) hx hb d_Mod_goOn_322 (by decide) ?_
                                  refine lv_istore hx hb d_Mod_goOn_326 hl (by decide) rfl (fun ls hl => ?_)
                                  have hl : lv_has ls 10 [(9, .int 1), (8, .int (kd8 (128 * tt + k))), (7, .int (nI k)), (6, .int c8), (4, .int (nI (128 * tt))), (0, .ref h0), (1, .int (nI tt)), (2, .ref (q 47)), (3, .int (nI dd))] := hl
                                  refine lv_iload hx hb d_Mod_goOn_328 (lv_at hl 0 rfl) ?_
                                  refine lv_if_eq (tgt := 347) hx hb d_Mod_goOn_330 (by decide) (fun h330 => ?_) (fun h330 => ?_)
                                  · first | exact absurd h330 (by decide) | exact absurd (by decide) h330
                                  · refine lv_aload_n hx hb d_Mod_goOn_333 rfl (lv_at hl 5 rfl) ?_
                                    refine va_get (D := g.1) (ci := 10) (v := .ref (q 43)) (C := R_Mod) (T := F_Mod) (N := 61) hx hb hts in_Mod hown hK hP 0 rfl rfl 43 (by decide) (hts _ wd_1293) (fun _ h9 => h9) rfl d_Mod_goOn_334 ?_
                                    refine lv_iload hx hb d_Mod_goOn_337 (lv_at hl 4 rfl) ?_
                                    refine lv_iload hx hb d_Mod_goOn_339 (lv_at hl 2 rfl) ?_
                                    refine lv_iadd hx hb d_Mod_goOn_341 ?_
                                    refine tw_ri (e2 := nI (128 * tt + k)) (nI_add _ _) ?_
                                    refine lv_iconst (v := 0) hx hb d_Mod_goOn_342 (by decide) ?_
                                    refine va_iast hx hb hK hP hD hS 3 0 rfl rfl (vp_in_nI (by omega) (by decide)) d_Mod_goOn_343 (fun H locs hP hD hS => ?_)
                                    have hP : va_P g.1 classes [(h0, .inr (10, mob q rf n mm mb fa fp av ev wi mn tp tc sc nf fd me mp xn mt wh tq ag an ig)), ((q 41), aI g 600 dp), ((q 42), aZ g 600 iw), ((q 43), aI g 76800 (upd kd8 (nI (128 * tt + k)).toNatClampNeg 0)), ((q 47), aI g 128 nw)] H := hP
                                    have hD : va_D A [(h0, .inr (10, mob q rf n mm mb fa fp av ev wi mn tp tc sc nf fd me mp xn mt wh tq ag an ig)), ((q 41), aI g 600 dp), ((q 42), aZ g 600 iw), ((q 43), aI g 76800 (upd kd8 (nI (128 * tt + k)).toNatClampNeg 0)), ((q 47), aI g 128 nw)] := hD
                                    have e9 : upd kd8 (nI (128 * tt + k)).toNatClampNeg 0 = upd kd8 (128 * tt + k) 0 := by rw [nI_clamp (by omega)]
                                    rw [e9] at hP hD
                                    refine lv_iconst (v := 1) hx hb d_Mod_goOn_344 (by decide) ?_
                                    refine lv_istore hx hb d_Mod_goOn_345 hl (by decide) rfl (fun ls hl => ?_)
                                    have hl : lv_has ls 10 [(6, .int 1), (9, .int 1), (8, .int (kd8 (128 * tt + k))), (7, .int (nI k)), (4, .int (nI (128 * tt))), (0, .ref h0), (1, .int (nI tt)), (2, .ref (q 47)), (3, .int (nI dd))] := hl
                                    refine lv_iinc (k := 3) (v := nI (k + 1)) hx hb d_Mod_goOn_347 hl rfl ((nI_succ k).symm) (by decide) rfl (fun ls hl => ?_)
                                    have hl : lv_has ls 10 [(7, .int (nI (k + 1))), (6, .int 1), (9, .int 1), (8, .int (kd8 (128 * tt + k))), (4, .int (nI (128 * tt))), (0, .ref h0), (1, .int (nI tt)), (2, .ref (q 47)), (3, .int (nI dd))] := hl
                                    refine lv_goto (tgt := 246) hx hb d_Mod_goOn_350 (by decide) ?_
                                    have hP : va_P g.1 classes [(h0, .inr (10, mob q rf n mm mb fa fp av ev wi mn tp tc sc nf fd me mp xn mt wh tq ag an ig)), ((q 41), aI g 600 dp), ((q 42), aZ g 600 iw), ((q 43), aI g 76800 (upd kd8 (128 * tt + k) 0)), ((q 47), aI g 128 nw)] H := hP.sub [0, 1, 2, 3, 4] rfl
                                    have hD : va_D A [(h0, .inr (10, mob q rf n mm mb fa fp av ev wi mn tp tc sc nf fd me mp xn mt wh tq ag an ig)), ((q 41), aI g 600 dp), ((q 42), aZ g 600 iw), ((q 43), aI g 76800 (upd kd8 (128 * tt + k) 0)), ((q 47), aI g 128 nw)] := hD.sub [0, 1, 2, 3, 4] (by decide) rfl
                                    exact ih246 _ (by omega) 1 (k + 1) (upd kd8 (128 * tt + k) 0) ls _ _ rfl (by omega) (hKD8.put (fun _ => by decide)) (nk_dn hCN8 (by omega) (by omega) (by rw [h268]; decide)) (lv_sub hl [0, 1, 4, 5, 6, 7, 8] rfl) hP hD hS
                                · refine lv_iload hx hb d_Mod_goOn_294 (lv_at hl 0 rfl) ?_
                                  refine lv_iconst (v := 3) hx hb d_Mod_goOn_296 (by decide) ?_
                                  refine lv_icmp_ne (tgt := 325) hx hb d_Mod_goOn_297 (by decide) (fun h297 => ?_) (fun h297 => ?_)
                                  · refine lv_iconst (v := 0) hx hb d_Mod_goOn_325 (by decide) ?_
                                    refine lv_istore hx hb d_Mod_goOn_326 hl (by decide) rfl (fun ls hl => ?_)
                                    have hl : lv_has ls 10 [(9, .int 0), (8, .int (kd8 (128 * tt + k))), (7, .int (nI k)), (6, .int c8), (4, .int (nI (128 * tt))), (0, .ref h0), (1, .int (nI tt)), (2, .ref (q 47)), (3, .int (nI dd))] := hl
                                    refine lv_iload hx hb d_Mod_goOn_328 (lv_at hl 0 rfl) ?_
                                    refine lv_if_eq (tgt := 347) hx hb d_Mod_goOn_330 (by decide) (fun h330 => ?_) (fun h330 => ?_)
                                    · refine lv_iinc (k := 2) (v := nI (k + 1)) hx hb d_Mod_goOn_347 hl rfl ((nI_succ k).symm) (by decide) rfl (fun ls hl => ?_)
                                      have hl : lv_has ls 10 [(7, .int (nI (k + 1))), (9, .int 0), (8, .int (kd8 (128 * tt + k))), (6, .int c8), (4, .int (nI (128 * tt))), (0, .ref h0), (1, .int (nI tt)), (2, .ref (q 47)), (3, .int (nI dd))] := hl
                                      refine lv_goto (tgt := 246) hx hb d_Mod_goOn_350 (by decide) ?_
                                      have hP : va_P g.1 classes [(h0, .inr (10, mob q rf n mm mb fa fp av ev wi mn tp tc sc nf fd me mp xn mt wh tq ag an ig)), ((q 41), aI g 600 dp), ((q 42), aZ g 600 iw), ((q 43), aI g 76800 kd8), ((q 47), aI g 128 nw)] H := hP.sub [0, 1, 2, 3, 4] rfl
                                      have hD : va_D A [(h0, .inr (10, mob q rf n mm mb fa fp av ev wi mn tp tc sc nf fd me mp xn mt wh tq ag an ig)), ((q 41), aI g 600 dp), ((q 42), aZ g 600 iw), ((q 43), aI g 76800 kd8), ((q 47), aI g 128 nw)] := hD.sub [0, 1, 2, 3, 4] (by decide) rfl
                                      exact ih246 _ (by omega) c8 (k + 1) kd8 ls _ _ rfl (by omega) hKD8 hCN8 (lv_sub hl [0, 3, 4, 5, 6, 7, 8] rfl) hP hD hS
                                    · first | exact absurd h330 (by decide) | exact absurd (by decide) h330
                                  · refine lv_iload hx hb d_Mod_goOn_300 (lv_at hl 1 rfl) ?_
                                    refine lv_if_eq (tgt := 321) hx hb d_Mod_goOn_302 (by decide) (fun h302 => ?_) (fun h302 => ?_)
                                    · refine lv_iconst (v := 1) hx hb d_Mod_goOn_321 (by decide) ?_
                                      refine lv_goto (tgt := 326) hx hb d_Mod_goOn_322 (by decide) ?_
                                      refine lv_istore hx hb d_Mod_goOn_326 hl (by decide) rfl (fun ls hl => ?_)
                                      have hl : lv_has ls 10 [(9, .int 1), (8, .int (kd8 (128 * tt + k))), (7, .int (nI k)), (6, .int c8), (4, .int (nI (128 * tt))), (0, .ref h0), (1, .int (nI tt)), (2, .ref (q 47)), (3, .int (nI dd))] := hl
                                      refine lv_iload hx hb d_Mod_goOn_328 (lv_at hl 0 rfl) ?_
                                      refine lv_if_eq (tgt := 347) hx hb d_Mod_goOn_330 (by decide) (fun h330 => ?_) (fun h330 => ?_)
                                      · first | exact absurd h330 (by decide) | exact absurd (by decide) h330
                                      · refine lv_aload_n hx hb d_Mod_goOn_333 rfl (lv_at hl 5 rfl) ?_
                                        refine va_get (D := g.1) (ci := 10) (v := .ref (q 43)) (C := R_Mod) (T := F_Mod) (N := 61) hx hb hts in_Mod hown hK hP 0 rfl rfl 43 (by decide) (hts _ wd_1293) (fun _ h9 => h9) rfl d_Mod_goOn_334 ?_
                                        refine lv_iload hx hb d_Mod_goOn_337 (lv_at hl 4 rfl) ?_
                                        refine lv_iload hx hb d_Mod_goOn_339 (lv_at hl 2 rfl) ?_
                                        refine lv_iadd hx hb d_Mod_goOn_341 ?_
                                        refine tw_ri (e2 := nI (128 * tt + k)) (nI_add _ _) ?_
                                        refine lv_iconst (v := 0) hx hb d_Mod_goOn_342 (by decide) ?_
                                        refine va_iast hx hb hK hP hD hS 3 0 rfl rfl (vp_in_nI (by omega) (by decide)) d_Mod_goOn_343 (fun H locs hP hD hS => ?_)
                                        have hP : va_P g.1 classes [(h0, .inr (10, mob q rf n mm mb fa fp av ev wi mn tp tc sc nf fd me mp xn mt wh tq ag an ig)), ((q 41), aI g 600 dp), ((q 42), aZ g 600 iw), ((q 43), aI g 76800 (upd kd8 (nI (128 * tt + k)).toNatClampNeg 0)), ((q 47), aI g 128 nw)] H := hP
                                        have hD : va_D A [(h0, .inr (10, mob q rf n mm mb fa fp av ev wi mn tp tc sc nf fd me mp xn mt wh tq ag an ig)), ((q 41), aI g 600 dp), ((q 42), aZ g 600 iw), ((q 43), aI g 76800 (upd kd8 (nI (128 * tt + k)).toNatClampNeg 0)), ((q 47), aI g 128 nw)] := hD
                                        have e9 : upd kd8 (nI (128 * tt + k)).toNatClampNeg 0 = upd kd8 (128 * tt + k) 0 := by rw [nI_clamp (by omega)]
                                        rw [e9] at hP hD
                                        refine lv_iconst (v := 1) hx hb d_Mod_goOn_344 (by decide) ?_
                                        refine lv_istore hx hb d_Mod_goOn_345 hl (by decide) rfl (fun ls hl => ?_)
                                        have hl : lv_has ls 10 [(6, .int 1), (9, .int 1), (8, .int (kd8 (128 * tt + k))), (7, .int (nI k)), (4, .int (nI (128 * tt))), (0, .ref h0), (1, .int (nI tt)), (2, .ref (q 47)), (3, .int (nI dd))] := hl
                                        refine lv_iinc (k := 3) (v := nI (k + 1)) hx hb d_Mod_goOn_347 hl rfl ((nI_succ k).symm) (by decide) rfl (fun ls hl => ?_)
                                        have hl : lv_has ls 10 [(7, .int (nI (k + 1))), (6, .int 1), (9, .int 1), (8, .int (kd8 (128 * tt + k))), (4, .int (nI (128 * tt))), (0, .ref h0), (1, .int (nI tt)), (2, .ref (q 47)), (3, .int (nI dd))] := hl
                                        refine lv_goto (tgt := 246) hx hb d_Mod_goOn_350 (by decide) ?_
                                        have hP : va_P g.1 classes [(h0, .inr (10, mob q rf n mm mb fa fp av ev wi mn tp tc sc nf fd me mp xn mt wh tq ag an ig)), ((q 41), aI g 600 dp), ((q 42), aZ g 600 iw), ((q 43), aI g 76800 (upd kd8 (128 * tt + k) 0)), ((q 47), aI g 128 nw)] H := hP.sub [0, 1, 2, 3, 4] rfl
                                        have hD : va_D A [(h0, .inr (10, mob q rf n mm mb fa fp av ev wi mn tp tc sc nf fd me mp xn mt wh tq ag an ig)), ((q 41), aI g 600 dp), ((q 42), aZ g 600 iw), ((q 43), aI g 76800 (upd kd8 (128 * tt + k) 0)), ((q 47), aI g 128 nw)] := hD.sub [0, 1, 2, 3, 4] (by decide) rfl
                                        exact ih246 _ (by omega) 1 (k + 1) (upd kd8 (128 * tt + k) 0) ls _ _ rfl (by omega) (hKD8.put (fun _ => by decide)) (nk_dn hCN8 (by omega) (by omega) (by rw [h297]; decide)) (lv_sub hl [0, 1, 4, 5, 6, 7, 8] rfl) hP hD hS
                                    · have h302 := tn_ne (b := 0) h302
                                      refine lv_aload_n hx hb d_Mod_goOn_305 rfl (lv_at hl 4 rfl) ?_
                                      refine va_get (D := g.1) (ci := 10) (v := .ref (q 43)) (C := R_Mod) (T := F_Mod) (N := 61) hx hb hts in_Mod hown hK hP 0 rfl rfl 43 (by decide) (hts _ wd_1293) (fun _ h9 => h9) rfl d_Mod_goOn_306 ?_
                                      refine lv_iload hx hb d_Mod_goOn_309 (lv_at hl 3 rfl) ?_
                                      refine lv_iload hx hb d_Mod_goOn_311 (lv_at hl 1 rfl) ?_
                                      refine lv_iadd hx hb d_Mod_goOn_313 ?_
                                      refine tw_ri (e2 := nI (128 * tt + k)) (nI_add _ _) ?_
                                      refine lv_iconst (v := 1) hx hb d_Mod_goOn_314 (by decide) ?_
                                      refine lv_isub hx hb d_Mod_goOn_315 ?_
                                      refine tw_ri (e2 := nI (128 * tt + k - 1)) (pk_sub (b := 1) (by omega)) ?_
                                      refine va_iald hx hb hK hP 3 0 rfl rfl (vp_in_nI (by omega) (by decide)) d_Mod_goOn_316 ?_
                                      obtain ⟨x12, ex12⟩ : ∃ z : Int32, kd8 ((nI (128 * tt + k - 1)).toNatClampNeg) = z := ⟨_, rfl⟩
                                      refine tw_ri (e2 := x12) ex12 ?_
                                      refine lv_iconst (v := 2) hx hb d_Mod_goOn_317 (by decide) ?_
                                      refine lv_icmp_eq (tgt := 325) hx hb d_Mod_goOn_318 (by decide) (fun h318 => ?_) (fun h318 => ?_)
                                      · refine lv_iconst (v := 0) hx hb d_Mod_goOn_325 (by decide) ?_
                                        refine lv_istore hx hb d_Mod_goOn_326 hl (by decide) rfl (fun ls hl => ?_)
                                        have hl : lv_has ls 10 [(9, .int 0), (8, .int (kd8 (128 * tt + k))), (7, .int (nI k)), (6, .int c8), (4, .int (nI (128 * tt))), (0, .ref h0), (1, .int (nI tt)), (2, .ref (q 47)), (3, .int (nI dd))] := hl
                                        refine lv_iload hx hb d_Mod_goOn_328 (lv_at hl 0 rfl) ?_
                                        refine lv_if_eq (tgt := 347) hx hb d_Mod_goOn_330 (by decide) (fun h330 => ?_) (fun h330 => ?_)
                                        · refine lv_iinc (k := 2) (v := nI (k + 1)) hx hb d_Mod_goOn_347 hl rfl ((nI_succ k).symm) (by decide) rfl (fun ls hl => ?_)
                                          have hl : lv_has ls 10 [(7, .int (nI (k + 1))), (9, .int 0), (8, .int (kd8 (128 * tt + k))), (6, .int c8), (4, .int (nI (128 * tt))), (0, .ref h0), (1, .int (nI tt)), (2, .ref (q 47)), (3, .int (nI dd))] := hl
                                          refine lv_goto (tgt := 246) hx hb d_Mod_goOn_350 (by decide) ?_
                                          have hP : va_P g.1 classes [(h0, .inr (10, mob q rf n mm mb fa fp av ev wi mn tp tc sc nf fd me mp xn mt wh tq ag an ig)), ((q 41), aI g 600 dp), ((q 42), aZ g 600 iw), ((q 43), aI g 76800 kd8), ((q 47), aI g 128 nw)] H := hP.sub [0, 1, 2, 3, 4] rfl
                                          have hD : va_D A [(h0, .inr (10, mob q rf n mm mb fa fp av ev wi mn tp tc sc nf fd me mp xn mt wh tq ag an ig)), ((q 41), aI g 600 dp), ((q 42), aZ g 600 iw), ((q 43), aI g 76800 kd8), ((q 47), aI g 128 nw)] := hD.sub [0, 1, 2, 3, 4] (by decide) rfl
                                          exact ih246 _ (by omega) c8 (k + 1) kd8 ls _ _ rfl (by omega) hKD8 hCN8 (lv_sub hl [0, 3, 4, 5, 6, 7, 8] rfl) hP hD hS
                                        · first | exact absurd h330 (by decide) | exact absurd (by decide) h330
                                      · refine lv_iconst (v := 1) hx hb d_Mod_goOn_321 (by decide) ?_
                                        refine lv_goto (tgt := 326) hx hb d_Mod_goOn_322 (by decide) ?_
                                        refine lv_istore hx hb d_Mod_goOn_326 hl (by decide) rfl (fun ls hl => ?_)
                                        have hl : lv_has ls 10 [(9, .int 1), (8, .int (kd8 (128 * tt + k))), (7, .int (nI k)), (6, .int c8), (4, .int (nI (128 * tt))), (0, .ref h0), (1, .int (nI tt)), (2, .ref (q 47)), (3, .int (nI dd))] := hl
                                        refine lv_iload hx hb d_Mod_goOn_328 (lv_at hl 0 rfl) ?_
                                        refine lv_if_eq (tgt := 347) hx hb d_Mod_goOn_330 (by decide) (fun h330 => ?_) (fun h330 => ?_)
                                        · first | exact absurd h330 (by decide) | exact absurd (by decide) h330
                                        · refine lv_aload_n hx hb d_Mod_goOn_333 rfl (lv_at hl 5 rfl) ?_
                                          refine va_get (D := g.1) (ci := 10) (v := .ref (q 43)) (C := R_Mod) (T := F_Mod) (N := 61) hx hb hts in_Mod hown hK hP 0 rfl rfl 43 (by decide) (hts _ wd_1293) (fun _ h9 => h9) rfl d_Mod_goOn_334 ?_
                                          refine lv_iload hx hb d_Mod_goOn_337 (lv_at hl 4 rfl) ?_
                                          refine lv_iload hx hb d_Mod_goOn_339 (lv_at hl 2 rfl) ?_
                                          refine lv_iadd hx hb d_Mod_goOn_341 ?_
                                          refine tw_ri (e2 := nI (128 * tt + k)) (nI_add _ _) ?_
                                          refine lv_iconst (v := 0) hx hb d_Mod_goOn_342 (by decide) ?_
                                          refine va_iast hx hb hK hP hD hS 3 0 rfl rfl (vp_in_nI (by omega) (by decide)) d_Mod_goOn_343 (fun H locs hP hD hS => ?_)
                                          have hP : va_P g.1 classes [(h0, .inr (10, mob q rf n mm mb fa fp av ev wi mn tp tc sc nf fd me mp xn mt wh tq ag an ig)), ((q 41), aI g 600 dp), ((q 42), aZ g 600 iw), ((q 43), aI g 76800 (upd kd8 (nI (128 * tt + k)).toNatClampNeg 0)), ((q 47), aI g 128 nw)] H := hP
                                          have hD : va_D A [(h0, .inr (10, mob q rf n mm mb fa fp av ev wi mn tp tc sc nf fd me mp xn mt wh tq ag an ig)), ((q 41), aI g 600 dp), ((q 42), aZ g 600 iw), ((q 43), aI g 76800 (upd kd8 (nI (128 * tt + k)).toNatClampNeg 0)), ((q 47), aI g 128 nw)] := hD
                                          have e9 : upd kd8 (nI (128 * tt + k)).toNatClampNeg 0 = upd kd8 (128 * tt + k) 0 := by rw [nI_clamp (by omega)]
                                          rw [e9] at hP hD
                                          refine lv_iconst (v := 1) hx hb d_Mod_goOn_344 (by decide) ?_
                                          refine lv_istore hx hb d_Mod_goOn_345 hl (by decide) rfl (fun ls hl => ?_)
                                          have hl : lv_has ls 10 [(6, .int 1), (9, .int 1), (8, .int (kd8 (128 * tt + k))), (7, .int (nI k)), (4, .int (nI (128 * tt))), (0, .ref h0), (1, .int (nI tt)), (2, .ref (q 47)), (3, .int (nI dd))] := hl
                                          refine lv_iinc (k := 3) (v := nI (k + 1)) hx hb d_Mod_goOn_347 hl rfl ((nI_succ k).symm) (by decide) rfl (fun ls hl => ?_)
                                          have hl : lv_has ls 10 [(7, .int (nI (k + 1))), (6, .int 1), (9, .int 1), (8, .int (kd8 (128 * tt + k))), (4, .int (nI (128 * tt))), (0, .ref h0), (1, .int (nI tt)), (2, .ref (q 47)), (3, .int (nI dd))] := hl
                                          refine lv_goto (tgt := 246) hx hb d_Mod_goOn_350 (by decide) ?_
                                          have hP : va_P g.1 classes [(h0, .inr (10, mob q rf n mm mb fa fp av ev wi mn tp tc sc nf fd me mp xn mt wh tq ag an ig)), ((q 41), aI g 600 dp), ((q 42), aZ g 600 iw), ((q 43), aI g 76800 (upd kd8 (128 * tt + k) 0)), ((q 47), aI g 128 nw)] H := hP.sub [0, 1, 2, 3, 4] rfl
                                          have hD : va_D A [(h0, .inr (10, mob q rf n mm mb fa fp av ev wi mn tp tc sc nf fd me mp xn mt wh tq ag an ig)), ((q 41), aI g 600 dp), ((q 42), aZ g 600 iw), ((q 43), aI g 76800 (upd kd8 (128 * tt + k) 0)), ((q 47), aI g 128 nw)] := hD.sub [0, 1, 2, 3, 4] (by decide) rfl
                                          exact ih246 _ (by omega) 1 (k + 1) (upd kd8 (128 * tt + k) 0) ls _ _ rfl (by omega) (hKD8.put (fun _ => by decide)) (nk_dn hCN8 (by omega) (by omega) (by rw [h297]; decide)) (lv_sub hl [0, 1, 4, 5, 6, 7, 8] rfl) hP hD hS
                      exact loop246 _ c9 0 kd9 ls _ _ rfl (Nat.zero_le _) hKD hCN (lv_sub hl [0, 1, 3, 4, 5, 6, 7] rfl) hP hD hS
                    · have h190 := tn_nle (a := 64) h190 (by decide) (by omega)
                      refine lv_aload_n hx hb d_Mod_goOn_193 rfl (lv_at hl 4 rfl) ?_
                      refine va_get (D := g.1) (ci := 10) (v := .ref (q 43)) (C := R_Mod) (T := F_Mod) (N := 61) hx hb hts in_Mod hown hK hP 0 rfl rfl 43 (by decide) (hts _ wd_1293) (fun _ h9 => h9) rfl d_Mod_goOn_194 ?_
                      refine lv_iload hx hb d_Mod_goOn_197 (lv_at hl 3 rfl) ?_
                      refine lv_iload hx hb d_Mod_goOn_199 (lv_at hl 0 rfl) ?_
                      refine lv_iadd hx hb d_Mod_goOn_201 ?_
                      refine tw_ri (e2 := nI (128 * tt + k)) (nI_add _ _) ?_
                      refine va_iald hx hb hK hP 3 0 rfl rfl (vp_in_nI (by omega) (by decide)) d_Mod_goOn_202 ?_
                      refine tw_ri (e2 := kd9 (128 * tt + k)) (by rw [nI_clamp (by omega)]) ?_
                      refine lv_aload_n hx hb d_Mod_goOn_203 rfl (lv_at hl 6 rfl) ?_
                      refine lv_iload hx hb d_Mod_goOn_204 (lv_at hl 0 rfl) ?_
                      refine va_iald hx hb hK hP 4 0 rfl rfl (vp_in_nI (by omega) (by decide)) d_Mod_goOn_206 ?_
                      refine tw_ri (e2 := nw k) (by rw [nI_clamp (by omega)]) ?_
                      refine lv_icmp_eq (tgt := 237) hx hb d_Mod_goOn_207 (by decide) (fun h207 => ?_) (fun h207 => ?_)
                      · refine lv_iinc (k := 0) (v := nI (k + 1)) hx hb d_Mod_goOn_237 hl rfl ((nI_succ k).symm) (by decide) rfl (fun ls hl => ?_)
                        have hl : lv_has ls 10 [(7, .int (nI (k + 1))), (6, .int c9), (5, .int s9), (4, .int (nI (128 * tt))), (0, .ref h0), (1, .int (nI tt)), (2, .ref (q 47)), (3, .int (nI dd))] := hl
                        refine lv_goto (tgt := 186) hx hb d_Mod_goOn_240 (by decide) ?_
                        have hP : va_P g.1 classes [(h0, .inr (10, mob q rf n mm mb fa fp av ev wi mn tp tc sc nf fd me mp xn mt wh tq ag an ig)), ((q 41), aI g 600 dp), ((q 42), aZ g 600 iw), ((q 43), aI g 76800 kd9), ((q 47), aI g 128 nw)] H := hP.sub [0, 1, 2, 3, 4] rfl
                        have hD : va_D A [(h0, .inr (10, mob q rf n mm mb fa fp av ev wi mn tp tc sc nf fd me mp xn mt wh tq ag an ig)), ((q 41), aI g 600 dp), ((q 42), aZ g 600 iw), ((q 43), aI g 76800 kd9), ((q 47), aI g 128 nw)] := hD.sub [0, 1, 2, 3, 4] (by decide) rfl
                        exact ih186 _ (by omega) c9 (k + 1) kd9 ls _ _ rfl (by omega) hKD hCN (lv_sub hl [0, 1, 2, 3, 4, 5, 6, 7] rfl) hP hD hS
                      · refine lv_aload_n hx hb d_Mod_goOn_210 rfl (lv_at hl 4 rfl) ?_
                        refine va_get (D := g.1) (ci := 10) (v := .ref (q 43)) (C := R_Mod) (T := F_Mod) (N := 61) hx hb hts in_Mod hown hK hP 0 rfl rfl 43 (by decide) (hts _ wd_1293) (fun _ h9 => h9) rfl d_Mod_goOn_211 ?_
                        refine lv_iload hx hb d_Mod_goOn_214 (lv_at hl 3 rfl) ?_
                        refine lv_iload hx hb d_Mod_goOn_216 (lv_at hl 0 rfl) ?_
                        refine lv_iadd hx hb d_Mod_goOn_218 ?_
                        refine tw_ri (e2 := nI (128 * tt + k)) (nI_add _ _) ?_
                        refine va_iald hx hb hK hP 3 0 rfl rfl (vp_in_nI (by omega) (by decide)) d_Mod_goOn_219 ?_
                        refine tw_ri (e2 := kd9 (128 * tt + k)) (by rw [nI_clamp (by omega)]) ?_
                        refine lv_if_eq (tgt := 237) hx hb d_Mod_goOn_220 (by decide) (fun h220 => ?_) (fun h220 => ?_)
                        · refine lv_iinc (k := 0) (v := nI (k + 1)) hx hb d_Mod_goOn_237 hl rfl ((nI_succ k).symm) (by decide) rfl (fun ls hl => ?_)
                          have hl : lv_has ls 10 [(7, .int (nI (k + 1))), (6, .int c9), (5, .int s9), (4, .int (nI (128 * tt))), (0, .ref h0), (1, .int (nI tt)), (2, .ref (q 47)), (3, .int (nI dd))] := hl
                          refine lv_goto (tgt := 186) hx hb d_Mod_goOn_240 (by decide) ?_
                          have hP : va_P g.1 classes [(h0, .inr (10, mob q rf n mm mb fa fp av ev wi mn tp tc sc nf fd me mp xn mt wh tq ag an ig)), ((q 41), aI g 600 dp), ((q 42), aZ g 600 iw), ((q 43), aI g 76800 kd9), ((q 47), aI g 128 nw)] H := hP.sub [0, 1, 2, 3, 4] rfl
                          have hD : va_D A [(h0, .inr (10, mob q rf n mm mb fa fp av ev wi mn tp tc sc nf fd me mp xn mt wh tq ag an ig)), ((q 41), aI g 600 dp), ((q 42), aZ g 600 iw), ((q 43), aI g 76800 kd9), ((q 47), aI g 128 nw)] := hD.sub [0, 1, 2, 3, 4] (by decide) rfl
                          exact ih186 _ (by omega) c9 (k + 1) kd9 ls _ _ rfl (by omega) hKD hCN (lv_sub hl [0, 1, 2, 3, 4, 5, 6, 7] rfl) hP hD hS
                        · refine lv_aload_n hx hb d_Mod_goOn_223 rfl (lv_at hl 4 rfl) ?_
                          refine va_get (D := g.1) (ci := 10) (v := .ref (q 43)) (C := R_Mod) (T := F_Mod) (N := 61) hx hb hts in_Mod hown hK hP 0 rfl rfl 43 (by decide) (hts _ wd_1293) (fun _ h9 => h9) rfl d_Mod_goOn_224 ?_
                          refine lv_iload hx hb d_Mod_goOn_227 (lv_at hl 3 rfl) ?_
                          refine lv_iload hx hb d_Mod_goOn_229 (lv_at hl 0 rfl) ?_
                          refine lv_iadd hx hb d_Mod_goOn_231 ?_
                          refine tw_ri (e2 := nI (128 * tt + k)) (nI_add _ _) ?_
                          refine lv_iconst (v := 0) hx hb d_Mod_goOn_232 (by decide) ?_
                          refine va_iast hx hb hK hP hD hS 3 0 rfl rfl (vp_in_nI (by omega) (by decide)) d_Mod_goOn_233 (fun H locs hP hD hS => ?_)
                          have hP : va_P g.1 classes [(h0, .inr (10, mob q rf n mm mb fa fp av ev wi mn tp tc sc nf fd me mp xn mt wh tq ag an ig)), ((q 41), aI g 600 dp), ((q 42), aZ g 600 iw), ((q 43), aI g 76800 (upd kd9 (nI (128 * tt + k)).toNatClampNeg 0)), ((q 47), aI g 128 nw)] H := hP
                          have hD : va_D A [(h0, .inr (10, mob q rf n mm mb fa fp av ev wi mn tp tc sc nf fd me mp xn mt wh tq ag an ig)), ((q 41), aI g 600 dp), ((q 42), aZ g 600 iw), ((q 43), aI g 76800 (upd kd9 (nI (128 * tt + k)).toNatClampNeg 0)), ((q 47), aI g 128 nw)] := hD
                          have e9 : upd kd9 (nI (128 * tt + k)).toNatClampNeg 0 = upd kd9 (128 * tt + k) 0 := by rw [nI_clamp (by omega)]
                          rw [e9] at hP hD
                          refine lv_iconst (v := 1) hx hb d_Mod_goOn_234 (by decide) ?_
                          refine lv_istore hx hb d_Mod_goOn_235 hl (by decide) rfl (fun ls hl => ?_)
                          have hl : lv_has ls 10 [(6, .int 1), (7, .int (nI k)), (5, .int s9), (4, .int (nI (128 * tt))), (0, .ref h0), (1, .int (nI tt)), (2, .ref (q 47)), (3, .int (nI dd))] := hl
                          refine lv_iinc (k := 1) (v := nI (k + 1)) hx hb d_Mod_goOn_237 hl rfl ((nI_succ k).symm) (by decide) rfl (fun ls hl => ?_)
                          have hl : lv_has ls 10 [(7, .int (nI (k + 1))), (6, .int 1), (5, .int s9), (4, .int (nI (128 * tt))), (0, .ref h0), (1, .int (nI tt)), (2, .ref (q 47)), (3, .int (nI dd))] := hl
                          refine lv_goto (tgt := 186) hx hb d_Mod_goOn_240 (by decide) ?_
                          have hP : va_P g.1 classes [(h0, .inr (10, mob q rf n mm mb fa fp av ev wi mn tp tc sc nf fd me mp xn mt wh tq ag an ig)), ((q 41), aI g 600 dp), ((q 42), aZ g 600 iw), ((q 43), aI g 76800 (upd kd9 (128 * tt + k) 0)), ((q 47), aI g 128 nw)] H := hP.sub [0, 1, 2, 3, 4] rfl
                          have hD : va_D A [(h0, .inr (10, mob q rf n mm mb fa fp av ev wi mn tp tc sc nf fd me mp xn mt wh tq ag an ig)), ((q 41), aI g 600 dp), ((q 42), aZ g 600 iw), ((q 43), aI g 76800 (upd kd9 (128 * tt + k) 0)), ((q 47), aI g 128 nw)] := hD.sub [0, 1, 2, 3, 4] (by decide) rfl
                          exact ih186 _ (by omega) 1 (k + 1) (upd kd9 (128 * tt + k) 0) ls _ _ rfl (by omega) (hKD.put (fun _ => by decide)) (nk_dn hCN (by omega) (by omega) h220) (lv_sub hl [0, 1, 2, 3, 4, 5, 6, 7] rfl) hP hD hS
                exact loop186 _ 0 0 kd ls _ _ rfl (Nat.zero_le _) hFR.2.2 (Or.inl ⟨rfl, rfl⟩) (hl) hP hD hS
              · exact absurd h166 h116
            · have h122 := tn_nle h122 (by omega) (by omega)
              refine lv_aload_n hx hb d_Mod_goOn_125 rfl (lv_at hl 3 rfl) ?_
              refine va_get (D := g.1) (ci := 10) (v := .ref (q 43)) (C := R_Mod) (T := F_Mod) (N := 61) hx hb hts in_Mod hown hK hP 0 rfl rfl 43 (by decide) (hts _ wd_1293) (fun _ h9 => h9) rfl d_Mod_goOn_126 ?_
              refine lv_iload hx hb d_Mod_goOn_129 (lv_at hl 2 rfl) ?_
              refine lv_bipush (v := 64) hx hb d_Mod_goOn_131 (by decide) ?_
              refine lv_iadd hx hb d_Mod_goOn_133 ?_
              refine tw_ri (e2 := nI (128 * tt + 64)) (nI_add _ 64) ?_
              refine lv_iload hx hb d_Mod_goOn_134 (lv_at hl 0 rfl) ?_
              refine lv_iadd hx hb d_Mod_goOn_136 ?_
              refine tw_ri (e2 := nI (128 * tt + 64 + k)) (nI_add _ _) ?_
              refine va_iald hx hb hK hP 3 0 rfl rfl (vp_in_nI (by omega) (by decide)) d_Mod_goOn_137 ?_
              obtain ⟨x13, ex13⟩ : ∃ z : Int32, kd ((nI (128 * tt + 64 + k)).toNatClampNeg) = z := ⟨_, rfl⟩
              refine tw_ri (e2 := x13) ex13 ?_
              refine lv_aload_n hx hb d_Mod_goOn_138 rfl (lv_at hl 3 rfl) ?_
              refine va_get (D := g.1) (ci := 10) (v := .ref (q 47)) (C := R_Mod) (T := F_Mod) (N := 61) hx hb hts in_Mod hown hK hP 0 rfl rfl 47 (by decide) (hts _ wd_1297) (fun _ h9 => h9) rfl d_Mod_goOn_139 ?_
              refine lv_bipush (v := 64) hx hb d_Mod_goOn_142 (by decide) ?_
              refine lv_iload hx hb d_Mod_goOn_144 (lv_at hl 0 rfl) ?_
              refine lv_iadd hx hb d_Mod_goOn_146 ?_
              refine tw_ri (e2 := nI (64 + k)) (nI_add 64 k) ?_
              refine va_iald hx hb hK hP 4 0 rfl rfl (vp_in_nI (by omega) (by decide)) d_Mod_goOn_147 ?_
              obtain ⟨x14, ex14⟩ : ∃ z : Int32, nw ((nI (64 + k)).toNatClampNeg) = z := ⟨_, rfl⟩
              refine tw_ri (e2 := x14) ex14 ?_
              refine lv_icmp_ne (tgt := 155) hx hb d_Mod_goOn_148 (by decide) (fun h148 => ?_) (fun h148 => ?_)
              · refine lv_iconst (v := 0) hx hb d_Mod_goOn_155 (by decide) ?_
                refine lv_istore hx hb d_Mod_goOn_156 hl (by decide) rfl (fun ls hl => ?_)
                have hl : lv_has ls 10 [(5, .int 0), (6, .int (nI k)), (4, .int (nI (128 * tt))), (0, .ref h0), (1, .int (nI tt)), (2, .ref (q 47)), (3, .int (nI dd))] := hl
                refine lv_iinc (k := 1) (v := nI (k + 1)) hx hb d_Mod_goOn_158 hl rfl ((nI_succ k).symm) (by decide) rfl (fun ls hl => ?_)
                have hl : lv_has ls 10 [(6, .int (nI (k + 1))), (5, .int 0), (4, .int (nI (128 * tt))), (0, .ref h0), (1, .int (nI tt)), (2, .ref (q 47)), (3, .int (nI dd))] := hl
                refine lv_goto (tgt := 114) hx hb d_Mod_goOn_161 (by decide) ?_
                have hP : va_P g.1 classes [(h0, .inr (10, mob q rf n mm mb fa fp av ev wi mn tp tc sc nf fd me mp xn mt wh tq ag an ig)), ((q 41), aI g 600 dp), ((q 42), aZ g 600 iw), ((q 43), aI g 76800 kd), ((q 47), aI g 128 nw)] H := hP.sub [0, 1, 2, 3, 4] rfl
                have hD : va_D A [(h0, .inr (10, mob q rf n mm mb fa fp av ev wi mn tp tc sc nf fd me mp xn mt wh tq ag an ig)), ((q 41), aI g 600 dp), ((q 42), aZ g 600 iw), ((q 43), aI g 76800 kd), ((q 47), aI g 128 nw)] := hD.sub [0, 1, 2, 3, 4] (by decide) rfl
                exact ih _ (by omega) 0 (k + 1) ls _ _ rfl (by omega) (lv_sub hl [0, 1, 2, 3, 4, 5, 6] rfl) hP hD hS
              · refine lv_iconst (v := 1) hx hb d_Mod_goOn_151 (by decide) ?_
                refine lv_goto (tgt := 156) hx hb d_Mod_goOn_152 (by decide) ?_
                refine lv_istore hx hb d_Mod_goOn_156 hl (by decide) rfl (fun ls hl => ?_)
                have hl : lv_has ls 10 [(5, .int 1), (6, .int (nI k)), (4, .int (nI (128 * tt))), (0, .ref h0), (1, .int (nI tt)), (2, .ref (q 47)), (3, .int (nI dd))] := hl
                refine lv_iinc (k := 1) (v := nI (k + 1)) hx hb d_Mod_goOn_158 hl rfl ((nI_succ k).symm) (by decide) rfl (fun ls hl => ?_)
                have hl : lv_has ls 10 [(6, .int (nI (k + 1))), (5, .int 1), (4, .int (nI (128 * tt))), (0, .ref h0), (1, .int (nI tt)), (2, .ref (q 47)), (3, .int (nI dd))] := hl
                refine lv_goto (tgt := 114) hx hb d_Mod_goOn_161 (by decide) ?_
                have hP : va_P g.1 classes [(h0, .inr (10, mob q rf n mm mb fa fp av ev wi mn tp tc sc nf fd me mp xn mt wh tq ag an ig)), ((q 41), aI g 600 dp), ((q 42), aZ g 600 iw), ((q 43), aI g 76800 kd), ((q 47), aI g 128 nw)] H := hP.sub [0, 1, 2, 3, 4] rfl
                have hD : va_D A [(h0, .inr (10, mob q rf n mm mb fa fp av ev wi mn tp tc sc nf fd me mp xn mt wh tq ag an ig)), ((q 41), aI g 600 dp), ((q 42), aZ g 600 iw), ((q 43), aI g 76800 kd), ((q 47), aI g 128 nw)] := hD.sub [0, 1, 2, 3, 4] (by decide) rfl
                exact ih _ (by omega) 1 (k + 1) ls _ _ rfl (by omega) (lv_sub hl [0, 1, 2, 3, 4, 5, 6] rfl) hP hD hS
      exact loop114 _ 1 0 ls _ _ rfl (Nat.zero_le _) (hl) hP hD hS
  · have hdm := fr_none hFR ht6 h13
    refine lv_iconst (v := 0) hx hb d_Mod_goOn_16 (by decide) ?_
    refine lv_istore hx hb d_Mod_goOn_17 hl (by decide) rfl (fun ls hl => ?_)
    have hl : lv_has ls 10 [(5, .int 0), (4, .int (nI (128 * tt))), (0, .ref h0), (1, .int (nI tt)), (2, .ref (q 47)), (3, .int (nI dd))] := hl
    have loop19 : ∀ (kq : Nat) (k : Nat) (kd9 : Nat → Int32) (ls : Array Slot) (H : Heap) (locs : List Loc) , 64 - k = kq → (hk4 : k ≤ 64) → (hKD : KD3 kd9) → (hNk : NK kd9 ≤ NK kd + k) → lv_has ls 10 [(5, .int (nI k)), (4, .int (nI (128 * tt))), (0, .ref h0), (1, .int (nI tt)), (2, .ref (q 47)), (3, .int (nI dd))] → va_P g.1 classes [(h0, .inr (10, mob q rf n mm mb fa fp av ev wi mn tp tc sc nf fd me mp xn mt wh tq ag an ig)), ((q 41), aI g 600 dp), ((q 42), aZ g 600 iw), ((q 43), aI g 76800 kd9), ((q 47), aI g 128 nw)] H → va_D A [(h0, .inr (10, mob q rf n mm mb fa fp av ev wi mn tp tc sc nf fd me mp xn mt wh tq ag an ig)), ((q 41), aI g 600 dp), ((q 42), aZ g 600 iw), ((q 43), aI g 76800 kd9), ((q 47), aI g 128 nw)] → va_S A s.heap H locs → W p l e ({ frames := 1, cells := 0, slots := 0, locals := 22 }) s m [.ref h0, .int (nI tt), .ref (q 47), .int (nI dd)].toArray below meth c H locs 0 0 (MQ below (tw_Qv g (fun (u : Int32 × Int32 × (Nat → Int32) × (Nat → Int32) × (Nat → Int32)) => (u.1 = 0 → fa = 0) ∧ (FRG u.2.2.1 u.2.2.2.1 u.2.2.2.2) ∧ (MU u.2.2.1 u.2.2.2.1 u.2.2.2.2 ≤ MU dp iw kd)) (fun u : Int32 × Int32 × (Nat → Int32) × (Nat → Int32) × (Nat → Int32) => [(h0, .inr (10, mob q rf n mm mb u.1 u.2.1 av ev wi mn tp tc sc nf fd me mp xn mt wh tq ag an ig)), ((q 41), aI g 600 u.2.2.1), ((q 42), aZ g 600 u.2.2.2.1), ((q 43), aI g 76800 u.2.2.2.2), ((q 47), aI g 128 nw)]) A) [.ref h0, .int (nI tt), .ref (q 47), .int (nI dd)].toArray s 0 0 A) (F0 m 19 ls []) := by
      intro kq
      induction kq using Nat.strongRecOn with
      | _ kq ih =>
        intro k kd9 ls H locs hk hk4 hKD hNk hl hP hD hS
        refine lv_iload hx hb d_Mod_goOn_19 (lv_at hl 0 rfl) ?_
        refine lv_bipush (v := 64) hx hb d_Mod_goOn_21 (by decide) ?_
        refine lv_icmp_ge (tgt := 79) hx hb d_Mod_goOn_23 (by decide) (fun h23 => ?_) (fun h23 => ?_)
        · have h23 := tn_le (a := 64) h23 (by decide) (by omega)
          refine lv_aload_n hx hb d_Mod_goOn_79 rfl (lv_at hl 2 rfl) ?_
          refine va_get (D := g.1) (ci := 10) (v := .ref (q 41)) (C := R_Mod) (T := F_Mod) (N := 61) hx hb hts in_Mod hown hK hP 0 rfl rfl 41 (by decide) (hts _ wd_1291) (fun _ h9 => h9) rfl d_Mod_goOn_80 ?_
          refine lv_iload_n hx hb d_Mod_goOn_83 rfl (lv_at hl 3 rfl) ?_
          refine lv_iload_n hx hb d_Mod_goOn_84 rfl (lv_at hl 5 rfl) ?_
          refine va_iast hx hb hK hP hD hS 1 0 rfl rfl (vp_in_nI (by omega) (by decide)) d_Mod_goOn_85 (fun H locs hP hD hS => ?_)
          have hP : va_P g.1 classes [(h0, .inr (10, mob q rf n mm mb fa fp av ev wi mn tp tc sc nf fd me mp xn mt wh tq ag an ig)), ((q 41), aI g 600 (upd dp (nI tt).toNatClampNeg (nI dd))), ((q 42), aZ g 600 iw), ((q 43), aI g 76800 kd9), ((q 47), aI g 128 nw)] H := hP
          have hD : va_D A [(h0, .inr (10, mob q rf n mm mb fa fp av ev wi mn tp tc sc nf fd me mp xn mt wh tq ag an ig)), ((q 41), aI g 600 (upd dp (nI tt).toNatClampNeg (nI dd))), ((q 42), aZ g 600 iw), ((q 43), aI g 76800 kd9), ((q 47), aI g 128 nw)] := hD
          have e9 : upd dp (nI tt).toNatClampNeg (nI dd) = upd dp tt (nI dd) := by rw [nI_clamp (by omega)]
          rw [e9] at hP hD
          refine lv_aload_n hx hb d_Mod_goOn_86 rfl (lv_at hl 2 rfl) ?_
          refine va_get (D := g.1) (ci := 10) (v := .ref (q 42)) (C := R_Mod) (T := F_Mod) (N := 61) hx hb hts in_Mod hown hK hP 0 rfl rfl 42 (by decide) (hts _ wd_1292) (fun _ h9 => h9) rfl d_Mod_goOn_87 ?_
          refine lv_iload_n hx hb d_Mod_goOn_90 rfl (lv_at hl 3 rfl) ?_
          refine lv_iconst (v := 1) hx hb d_Mod_goOn_91 (by decide) ?_
          refine va_zast hx hb hK hP hD hS 2 3 rfl rfl (vp_in_nI (by omega) (by decide)) d_Mod_goOn_92 (fun H locs hP hD hS => ?_)
          have hP : va_P g.1 classes [(h0, .inr (10, mob q rf n mm mb fa fp av ev wi mn tp tc sc nf fd me mp xn mt wh tq ag an ig)), ((q 41), aI g 600 (upd dp tt (nI dd))), ((q 42), aZ g 600 (upd iw (nI tt).toNatClampNeg (vp_nar .boolean 1))), ((q 43), aI g 76800 kd9), ((q 47), aI g 128 nw)] H := hP
          have hD : va_D A [(h0, .inr (10, mob q rf n mm mb fa fp av ev wi mn tp tc sc nf fd me mp xn mt wh tq ag an ig)), ((q 41), aI g 600 (upd dp tt (nI dd))), ((q 42), aZ g 600 (upd iw (nI tt).toNatClampNeg (vp_nar .boolean 1))), ((q 43), aI g 76800 kd9), ((q 47), aI g 128 nw)] := hD
          have e9 : upd iw (nI tt).toNatClampNeg (vp_nar .boolean 1) = upd iw tt 1 := by rw [nI_clamp (by omega)]; rfl
          rw [e9] at hP hD
          exact tw_vret E hS (fa, fp, upd dp tt (nI dd), upd iw tt 1, kd9) (⟨(fun h => h), (hFR.new hd64 hKD), (mu_new hdm ht6 (by first | omega | (dsimp only <;> omega)) hd64)⟩) hP hD d_Mod_goOn_93
        · have h23 := tn_nle (a := 64) h23 (by decide) (by omega)
          refine lv_aload_n hx hb d_Mod_goOn_26 rfl (lv_at hl 2 rfl) ?_
          refine va_get (D := g.1) (ci := 10) (v := .ref (q 43)) (C := R_Mod) (T := F_Mod) (N := 61) hx hb hts in_Mod hown hK hP 0 rfl rfl 43 (by decide) (hts _ wd_1293) (fun _ h9 => h9) rfl d_Mod_goOn_27 ?_
          refine lv_iload hx hb d_Mod_goOn_30 (lv_at hl 1 rfl) ?_
          refine lv_iload hx hb d_Mod_goOn_32 (lv_at hl 0 rfl) ?_
          refine lv_iadd hx hb d_Mod_goOn_34 ?_
          refine tw_ri (e2 := nI (128 * tt + k)) (nI_add _ _) ?_
          refine lv_aload_n hx hb d_Mod_goOn_35 rfl (lv_at hl 4 rfl) ?_
          refine lv_iload hx hb d_Mod_goOn_36 (lv_at hl 0 rfl) ?_
          refine va_iald hx hb hK hP 4 0 rfl rfl (vp_in_nI (by omega) (by decide)) d_Mod_goOn_38 ?_
          refine tw_ri (e2 := nw k) (by rw [nI_clamp (by omega)]) ?_
          refine va_iast hx hb hK hP hD hS 3 0 rfl rfl (vp_in_nI (by omega) (by decide)) d_Mod_goOn_39 (fun H locs hP hD hS => ?_)
          have hP : va_P g.1 classes [(h0, .inr (10, mob q rf n mm mb fa fp av ev wi mn tp tc sc nf fd me mp xn mt wh tq ag an ig)), ((q 41), aI g 600 dp), ((q 42), aZ g 600 iw), ((q 43), aI g 76800 (upd kd9 (nI (128 * tt + k)).toNatClampNeg (nw k))), ((q 47), aI g 128 nw)] H := hP
          have hD : va_D A [(h0, .inr (10, mob q rf n mm mb fa fp av ev wi mn tp tc sc nf fd me mp xn mt wh tq ag an ig)), ((q 41), aI g 600 dp), ((q 42), aZ g 600 iw), ((q 43), aI g 76800 (upd kd9 (nI (128 * tt + k)).toNatClampNeg (nw k))), ((q 47), aI g 128 nw)] := hD
          have e9 : upd kd9 (nI (128 * tt + k)).toNatClampNeg (nw k) = upd kd9 (128 * tt + k) (nw k) := by rw [nI_clamp (by omega)]
          rw [e9] at hP hD
          refine lv_aload_n hx hb d_Mod_goOn_40 rfl (lv_at hl 2 rfl) ?_
          refine va_get (D := g.1) (ci := 10) (v := .ref (q 43)) (C := R_Mod) (T := F_Mod) (N := 61) hx hb hts in_Mod hown hK hP 0 rfl rfl 43 (by decide) (hts _ wd_1293) (fun _ h9 => h9) rfl d_Mod_goOn_41 ?_
          refine lv_iload hx hb d_Mod_goOn_44 (lv_at hl 1 rfl) ?_
          refine lv_bipush (v := 64) hx hb d_Mod_goOn_46 (by decide) ?_
          refine lv_iadd hx hb d_Mod_goOn_48 ?_
          refine tw_ri (e2 := nI (128 * tt + 64)) (nI_add _ 64) ?_
          refine lv_iload hx hb d_Mod_goOn_49 (lv_at hl 0 rfl) ?_
          refine lv_iadd hx hb d_Mod_goOn_51 ?_
          refine tw_ri (e2 := nI (128 * tt + 64 + k)) (nI_add _ _) ?_
          refine lv_iload hx hb d_Mod_goOn_52 (lv_at hl 0 rfl) ?_
          refine lv_iload_n hx hb d_Mod_goOn_54 rfl (lv_at hl 5 rfl) ?_
          refine lv_icmp_ge (tgt := 71) hx hb d_Mod_goOn_55 (by decide) (fun h55 => ?_) (fun h55 => ?_)
          · refine lv_iconst (v := 0) hx hb d_Mod_goOn_71 (by decide) ?_
            refine va_iast hx hb hK hP hD hS 3 0 rfl rfl (vp_in_nI (by omega) (by decide)) d_Mod_goOn_72 (fun H locs hP hD hS => ?_)
            have hP : va_P g.1 classes [(h0, .inr (10, mob q rf n mm mb fa fp av ev wi mn tp tc sc nf fd me mp xn mt wh tq ag an ig)), ((q 41), aI g 600 dp), ((q 42), aZ g 600 iw), ((q 43), aI g 76800 (upd (upd kd9 (128 * tt + k) (nw k)) (nI (128 * tt + 64 + k)).toNatClampNeg 0)), ((q 47), aI g 128 nw)] H := hP
            have hD : va_D A [(h0, .inr (10, mob q rf n mm mb fa fp av ev wi mn tp tc sc nf fd me mp xn mt wh tq ag an ig)), ((q 41), aI g 600 dp), ((q 42), aZ g 600 iw), ((q 43), aI g 76800 (upd (upd kd9 (128 * tt + k) (nw k)) (nI (128 * tt + 64 + k)).toNatClampNeg 0)), ((q 47), aI g 128 nw)] := hD
            have e9 : upd (upd kd9 (128 * tt + k) (nw k)) (nI (128 * tt + 64 + k)).toNatClampNeg 0 = upd (upd kd9 (128 * tt + k) (nw k)) (128 * tt + 64 + k) 0 := by rw [nI_clamp (by omega)]
            rw [e9] at hP hD
            refine lv_iinc (k := 0) (v := nI (k + 1)) hx hb d_Mod_goOn_73 hl rfl ((nI_succ k).symm) (by decide) rfl (fun ls hl => ?_)
            have hl : lv_has ls 10 [(5, .int (nI (k + 1))), (4, .int (nI (128 * tt))), (0, .ref h0), (1, .int (nI tt)), (2, .ref (q 47)), (3, .int (nI dd))] := hl
            refine lv_goto (tgt := 19) hx hb d_Mod_goOn_76 (by decide) ?_
            have hP : va_P g.1 classes [(h0, .inr (10, mob q rf n mm mb fa fp av ev wi mn tp tc sc nf fd me mp xn mt wh tq ag an ig)), ((q 41), aI g 600 dp), ((q 42), aZ g 600 iw), ((q 43), aI g 76800 (upd (upd kd9 (128 * tt + k) (nw k)) (128 * tt + 64 + k) 0)), ((q 47), aI g 128 nw)] H := hP.sub [0, 1, 2, 3, 4] rfl
            have hD : va_D A [(h0, .inr (10, mob q rf n mm mb fa fp av ev wi mn tp tc sc nf fd me mp xn mt wh tq ag an ig)), ((q 41), aI g 600 dp), ((q 42), aZ g 600 iw), ((q 43), aI g 76800 (upd (upd kd9 (128 * tt + k) (nw k)) (128 * tt + 64 + k) 0)), ((q 47), aI g 128 nw)] := hD.sub [0, 1, 2, 3, 4] (by decide) rfl
            exact ih _ (by omega) (k + 1) (upd (upd kd9 (128 * tt + k) (nw k)) (128 * tt + 64 + k) 0) ls _ _ rfl (by omega) ((hKD.put (fun h9 => by have e0 : k = 0 := (by omega); rw [e0]; exact hr3)).put (fun _ => by decide)) (nk_two hNk (by omega) (by omega) (by omega)) (lv_sub hl [0, 1, 2, 3, 4, 5] rfl) hP hD hS
          · have h55 := tn_nle h55 (by omega) (by omega)
            refine lv_aload_n hx hb d_Mod_goOn_58 rfl (lv_at hl 2 rfl) ?_
            refine va_get (D := g.1) (ci := 10) (v := .ref (q 47)) (C := R_Mod) (T := F_Mod) (N := 61) hx hb hts in_Mod hown hK hP 0 rfl rfl 47 (by decide) (hts _ wd_1297) (fun _ h9 => h9) rfl d_Mod_goOn_59 ?_
            refine lv_bipush (v := 64) hx hb d_Mod_goOn_62 (by decide) ?_
            refine lv_iload hx hb d_Mod_goOn_64 (lv_at hl 0 rfl) ?_
            refine lv_iadd hx hb d_Mod_goOn_66 ?_
            refine tw_ri (e2 := nI (64 + k)) (nI_add 64 k) ?_
            refine va_iald hx hb hK hP 4 0 rfl rfl (vp_in_nI (by omega) (by decide)) d_Mod_goOn_67 ?_
            refine tw_ri (e2 := nw (64 + k)) (by rw [nI_clamp (by omega)]) ?_
            refine lv_goto (tgt := 72) hx hb d_Mod_goOn_68 (by decide) ?_
            refine va_iast hx hb hK hP hD hS 3 0 rfl rfl (vp_in_nI (by omega) (by decide)) d_Mod_goOn_72 (fun H locs hP hD hS => ?_)
            have hP : va_P g.1 classes [(h0, .inr (10, mob q rf n mm mb fa fp av ev wi mn tp tc sc nf fd me mp xn mt wh tq ag an ig)), ((q 41), aI g 600 dp), ((q 42), aZ g 600 iw), ((q 43), aI g 76800 (upd (upd kd9 (128 * tt + k) (nw k)) (nI (128 * tt + 64 + k)).toNatClampNeg (nw (64 + k)))), ((q 47), aI g 128 nw)] H := hP
            have hD : va_D A [(h0, .inr (10, mob q rf n mm mb fa fp av ev wi mn tp tc sc nf fd me mp xn mt wh tq ag an ig)), ((q 41), aI g 600 dp), ((q 42), aZ g 600 iw), ((q 43), aI g 76800 (upd (upd kd9 (128 * tt + k) (nw k)) (nI (128 * tt + 64 + k)).toNatClampNeg (nw (64 + k)))), ((q 47), aI g 128 nw)] := hD
            have e9 : upd (upd kd9 (128 * tt + k) (nw k)) (nI (128 * tt + 64 + k)).toNatClampNeg (nw (64 + k)) = upd (upd kd9 (128 * tt + k) (nw k)) (128 * tt + 64 + k) (nw (64 + k)) := by rw [nI_clamp (by omega)]
            rw [e9] at hP hD
            refine lv_iinc (k := 0) (v := nI (k + 1)) hx hb d_Mod_goOn_73 hl rfl ((nI_succ k).symm) (by decide) rfl (fun ls hl => ?_)
            have hl : lv_has ls 10 [(5, .int (nI (k + 1))), (4, .int (nI (128 * tt))), (0, .ref h0), (1, .int (nI tt)), (2, .ref (q 47)), (3, .int (nI dd))] := hl
            refine lv_goto (tgt := 19) hx hb d_Mod_goOn_76 (by decide) ?_
            have hP : va_P g.1 classes [(h0, .inr (10, mob q rf n mm mb fa fp av ev wi mn tp tc sc nf fd me mp xn mt wh tq ag an ig)), ((q 41), aI g 600 dp), ((q 42), aZ g 600 iw), ((q 43), aI g 76800 (upd (upd kd9 (128 * tt + k) (nw k)) (128 * tt + 64 + k) (nw (64 + k)))), ((q 47), aI g 128 nw)] H := hP.sub [0, 1, 2, 3, 4] rfl
            have hD : va_D A [(h0, .inr (10, mob q rf n mm mb fa fp av ev wi mn tp tc sc nf fd me mp xn mt wh tq ag an ig)), ((q 41), aI g 600 dp), ((q 42), aZ g 600 iw), ((q 43), aI g 76800 (upd (upd kd9 (128 * tt + k) (nw k)) (128 * tt + 64 + k) (nw (64 + k)))), ((q 47), aI g 128 nw)] := hD.sub [0, 1, 2, 3, 4] (by decide) rfl
            exact ih _ (by omega) (k + 1) (upd (upd kd9 (128 * tt + k) (nw k)) (128 * tt + 64 + k) (nw (64 + k))) ls _ _ rfl (by omega) ((hKD.put (fun h9 => by have e0 : k = 0 := (by omega); rw [e0]; exact hr3)).put (fun h9 => by have e0 : k = 0 := (by omega); rw [e0]; exact hn3)) (nk_two hNk (by omega) (by omega) (by omega)) (lv_sub hl [0, 1, 2, 3, 4, 5] rfl) hP hD hS
    exact loop19 _ 0 kd ls _ _ rfl (Nat.zero_le _) hFR.2.2 (by omega) (hl) hP hD hS
set_option maxHeartbeats 4000000 in
set_option maxRecDepth 100000 in
theorem g_Mod_goOnB (l : Launch) (g : tw_G) (sz : Nat) (h0 : Nat) (q : Nat → Nat) (rf : Int32) (n : Nat) (mm : Int32) (mb : Int32) (av : Nat) (ev : Nat) (wi : Int32) (mn : Nat) (tp : Int32) (tc : Int32) (sc : Int32) (nf : Nat) (fd : Nat) (me : Nat) (mp : Int32) (xn : Nat) (mt : Nat) (wh : Nat) (tq : Nat) (ag : Nat) (an : Int32) (ig : Int32) (nw : Nat → Int32) (bf : Nat → Int32) (fa : Int32) (fp : Int32) (dp : Nat → Int32) (iw : Nat → Int32) (kd : Nat → Int32) (tt : Nat) (dd : Nat) (ht6 : tt < 600) (hd64 : dd ≤ 64) (hFR : FRG dp iw kd) (hr3 : ¬ bf 0 = 3) (hn3 : ¬ nw 64 = 3) : Met l y_Mod_goOn [.code y_Mod_goOn b_Mod_goOn 10 none] ({ frames := 1, cells := 0, slots := 0, locals := 22 }) (tw_P g [.ref h0, .int (nI tt), .ref (q 48), .int (nI dd)] [(h0, .inr (10, mob q rf n mm mb fa fp av ev wi mn tp tc sc nf fd me mp xn mt wh tq ag an ig)), ((q 41), aI g 600 dp), ((q 42), aZ g 600 iw), ((q 43), aI g 76800 kd), ((q 47), aI g 128 nw), ((q 48), aI g 64 bf)] sz) (tw_Qv g (fun (u : Int32 × Int32 × (Nat → Int32) × (Nat → Int32) × (Nat → Int32)) => (u.1 = 0 → fa = 0) ∧ (FRG u.2.2.1 u.2.2.2.1 u.2.2.2.2) ∧ (MU u.2.2.1 u.2.2.2.1 u.2.2.2.2 ≤ MU dp iw kd)) (fun u : Int32 × Int32 × (Nat → Int32) × (Nat → Int32) × (Nat → Int32) => [(h0, .inr (10, mob q rf n mm mb u.1 u.2.1 av ev wi mn tp tc sc nf fd me mp xn mt wh tq ag an ig)), ((q 41), aI g 600 u.2.2.1), ((q 42), aZ g 600 u.2.2.2.1), ((q 43), aI g 76800 u.2.2.2.2), ((q 47), aI g 128 nw), ((q 48), aI g 64 bf)]) (va_A [(h0, .inr (10, mob q rf n mm mb fa fp av ev wi mn tp tc sc nf fd me mp xn mt wh tq ag an ig)), ((q 41), aI g 600 dp), ((q 42), aZ g 600 iw), ((q 43), aI g 76800 kd), ((q 47), aI g 128 nw), ((q 48), aI g 64 bf)] sz)) 0 0 (va_A [(h0, .inr (10, mob q rf n mm mb fa fp av ev wi mn tp tc sc nf fd me mp xn mt wh tq ag an ig)), ((q 41), aI g 600 dp), ((q 42), aZ g 600 iw), ((q 43), aI g 76800 kd), ((q 47), aI g 128 nw), ((q 48), aI g 64 bf)] sz) := by
  refine tw_metW (l := l) (g := g) (y := y_Mod_goOn) (cc := b_Mod_goOn) (maxL := 10) (ret := none) (rm := { frames := 1, cells := 0, slots := 0, locals := 22 }) (mc := 0) (ms := 0) (av := [.ref h0, .int (nI tt), .ref (q 48), .int (nI dd)]) (ws := [(h0, .inr (10, mob q rf n mm mb fa fp av ev wi mn tp tc sc nf fd me mp xn mt wh tq ag an ig)), ((q 41), aI g 600 dp), ((q 42), aZ g 600 iw), ((q 43), aI g 76800 kd), ((q 47), aI g 128 nw), ((q 48), aI g 64 bf)]) (sz := sz) (Qc := fun A => (tw_Qv g (fun (u : Int32 × Int32 × (Nat → Int32) × (Nat → Int32) × (Nat → Int32)) => (u.1 = 0 → fa = 0) ∧ (FRG u.2.2.1 u.2.2.2.1 u.2.2.2.2) ∧ (MU u.2.2.1 u.2.2.2.1 u.2.2.2.2 ≤ MU dp iw kd)) (fun u : Int32 × Int32 × (Nat → Int32) × (Nat → Int32) × (Nat → Int32) => [(h0, .inr (10, mob q rf n mm mb u.1 u.2.1 av ev wi mn tp tc sc nf fd me mp xn mt wh tq ag an ig)), ((q 41), aI g 600 u.2.2.1), ((q 42), aZ g 600 u.2.2.2.1), ((q 43), aI g 76800 u.2.2.2.2), ((q 47), aI g 128 nw), ((q 48), aI g 64 bf)]) A)) (by decide) (Nat.le_of_ble_eq_true rfl) ?_
  intro p e s m below meth c ls H A E hB hK hZ hP hD hS hA hl
  obtain ⟨hx, hb, hml, hr, hown, hts, hlocks, hin⟩ := id E
  have hl : lv_has ls 10 [(0, .ref h0), (1, .int (nI tt)), (2, .ref (q 48)), (3, .int (nI dd))] := hl
  refine lv_sipush (v := 128) hx hb d_Mod_goOn_0 (by decide) ?_
  refine lv_iload_n hx hb d_Mod_goOn_3 rfl (lv_at hl 1 rfl) ?_
  refine lv_imul hx hb d_Mod_goOn_4 ?_
  refine tw_ri (e2 := nI (128 * tt)) (pk_mul 128 tt) ?_
  refine lv_istore hx hb d_Mod_goOn_5 hl (by decide) rfl (fun ls hl => ?_)
  have hl : lv_has ls 10 [(4, .int (nI (128 * tt))), (0, .ref h0), (1, .int (nI tt)), (2, .ref (q 48)), (3, .int (nI dd))] := hl
  refine lv_aload_n hx hb d_Mod_goOn_7 rfl (lv_at hl 1 rfl) ?_
  refine va_get (D := g.1) (ci := 10) (v := .ref (q 41)) (C := R_Mod) (T := F_Mod) (N := 61) hx hb hts in_Mod hown hK hP 0 rfl rfl 41 (by decide) (hts _ wd_1291) (fun _ h9 => h9) rfl d_Mod_goOn_8 ?_
  refine lv_iload_n hx hb d_Mod_goOn_11 rfl (lv_at hl 2 rfl) ?_
  refine va_iald hx hb hK hP 1 0 rfl rfl (vp_in_nI (by omega) (by decide)) d_Mod_goOn_12 ?_
  refine tw_ri (e2 := dp tt) (by rw [nI_clamp (by omega)]) ?_
  refine lv_if_ge (tgt := 94) hx hb d_Mod_goOn_13 (by decide) (fun h13 => ?_) (fun h13 => ?_)
  · refine lv_aload_n hx hb d_Mod_goOn_94 rfl (lv_at hl 1 rfl) ?_
    refine va_get (D := g.1) (ci := 10) (v := .ref (q 41)) (C := R_Mod) (T := F_Mod) (N := 61) hx hb hts in_Mod hown hK hP 0 rfl rfl 41 (by decide) (hts _ wd_1291) (fun _ h9 => h9) rfl d_Mod_goOn_95 ?_
    refine lv_iload_n hx hb d_Mod_goOn_98 rfl (lv_at hl 2 rfl) ?_
    refine va_iald hx hb hK hP 1 0 rfl rfl (vp_in_nI (by omega) (by decide)) d_Mod_goOn_99 ?_
    refine tw_ri (e2 := dp tt) (by rw [nI_clamp (by omega)]) ?_
    refine lv_iload_n hx hb d_Mod_goOn_100 rfl (lv_at hl 4 rfl) ?_
    refine lv_icmp_ne (tgt := 108) hx hb d_Mod_goOn_101 (by decide) (fun h101 => ?_) (fun h101 => ?_)
    · refine lv_iconst (v := 0) hx hb d_Mod_goOn_108 (by decide) ?_
      refine lv_istore hx hb d_Mod_goOn_109 hl (by decide) rfl (fun ls hl => ?_)
      have hl : lv_has ls 10 [(5, .int 0), (4, .int (nI (128 * tt))), (0, .ref h0), (1, .int (nI tt)), (2, .ref (q 48)), (3, .int (nI dd))] := hl
      refine lv_iconst (v := 0) hx hb d_Mod_goOn_111 (by decide) ?_
      refine lv_istore hx hb d_Mod_goOn_112 hl (by decide) rfl (fun ls hl => ?_)
      have hl : lv_has ls 10 [(6, .int 0), (5, .int 0), (4, .int (nI (128 * tt))), (0, .ref h0), (1, .int (nI tt)), (2, .ref (q 48)), (3, .int (nI dd))] := hl
      have loop114 : ∀ (kq : Nat) (s9 : Int32) (k : Nat) (ls : Array Slot) (H : Heap) (locs : List Loc) , dd - k = kq → (hkd : k ≤ dd) → lv_has ls 10 [(6, .int (nI k)), (5, .int s9), (4, .int (nI (128 * tt))), (0, .ref h0), (1, .int (nI tt)), (2, .ref (q 48)), (3, .int (nI dd))] → va_P g.1 classes [(h0, .inr (10, mob q rf n mm mb fa fp av ev wi mn tp tc sc nf fd me mp xn mt wh tq ag an ig)), ((q 41), aI g 600 dp), ((q 42), aZ g 600 iw), ((q 43), aI g 76800 kd), ((q 47), aI g 128 nw), ((q 48), aI g 64 bf)] H → va_D A [(h0, .inr (10, mob q rf n mm mb fa fp av ev wi mn tp tc sc nf fd me mp xn mt wh tq ag an ig)), ((q 41), aI g 600 dp), ((q 42), aZ g 600 iw), ((q 43), aI g 76800 kd), ((q 47), aI g 128 nw), ((q 48), aI g 64 bf)] → va_S A s.heap H locs → W p l e ({ frames := 1, cells := 0, slots := 0, locals := 22 }) s m [.ref h0, .int (nI tt), .ref (q 48), .int (nI dd)].toArray below meth c H locs 0 0 (MQ below (tw_Qv g (fun (u : Int32 × Int32 × (Nat → Int32) × (Nat → Int32) × (Nat → Int32)) => (u.1 = 0 → fa = 0) ∧ (FRG u.2.2.1 u.2.2.2.1 u.2.2.2.2) ∧ (MU u.2.2.1 u.2.2.2.1 u.2.2.2.2 ≤ MU dp iw kd)) (fun u : Int32 × Int32 × (Nat → Int32) × (Nat → Int32) × (Nat → Int32) => [(h0, .inr (10, mob q rf n mm mb u.1 u.2.1 av ev wi mn tp tc sc nf fd me mp xn mt wh tq ag an ig)), ((q 41), aI g 600 u.2.2.1), ((q 42), aZ g 600 u.2.2.2.1), ((q 43), aI g 76800 u.2.2.2.2), ((q 47), aI g 128 nw), ((q 48), aI g 64 bf)]) A) [.ref h0, .int (nI tt), .ref (q 48), .int (nI dd)].toArray s 0 0 A) (F0 m 114 ls []) := by
        intro kq
        induction kq using Nat.strongRecOn with
        | _ kq ih =>
          intro s9 k ls H locs hk hkd hl hP hD hS
          refine lv_iload hx hb d_Mod_goOn_114 (lv_at hl 1 rfl) ?_
          refine lv_if_eq (tgt := 164) hx hb d_Mod_goOn_116 (by decide) (fun h116 => ?_) (fun h116 => ?_)
          · refine lv_iload hx hb d_Mod_goOn_164 (lv_at hl 1 rfl) ?_
            refine lv_if_ne (tgt := 180) hx hb d_Mod_goOn_166 (by decide) (fun h166 => ?_) (fun h166 => ?_)
            · exact absurd h116 h166
            · refine lv_aload_n hx hb d_Mod_goOn_169 rfl (lv_at hl 3 rfl) ?_
              refine lv_bipush (v := 25) hx hb d_Mod_goOn_170 (by decide) ?_
              refine lv_aload_n hx hb d_Mod_goOn_172 rfl (lv_at hl 3 rfl) ?_
              refine va_get (D := g.1) (ci := 10) (v := .int (nI wh)) (C := R_Mod) (T := F_Mod) (N := 61) hx hb hts in_Mod hown hK hP 0 rfl rfl 45 (by decide) (hts _ wd_1295) (fun _ h9 => h9) rfl d_Mod_goOn_173 ?_
              refine tw_wv (wr := [((q 41), aI g 600 dp), ((q 42), aZ g 600 iw), ((q 43), aI g 76800 kd), ((q 47), aI g 128 nw), ((q 48), aI g 64 bf)]) (tw_runV (ws := [(h0, .inr (10, mob q rf n mm mb fa fp av ev wi mn tp tc sc nf fd me mp xn mt wh tq ag an ig)), ((q 41), aI g 600 dp), ((q 42), aZ g 600 iw), ((q 43), aI g 76800 kd), ((q 47), aI g 128 nw), ((q 48), aI g 64 bf)]) (wc := [(h0, .inr (10, mob q rf n mm mb fa fp av ev wi mn tp tc sc nf fd me mp xn mt wh tq ag an ig))]) (As := [.int 25, .int (nI wh)]) (rest := []) E hB hK hZ (g_Mod_fail l g H.size h0 q rf n mm mb av ev wi mn tp tc sc nf fd me mp xn mt wh tq ag an ig fa fp 25 (nI wh) (by decide)) mc_Mod_fail mi_Mod_fail me_Mod_fail wd_1478 hP hD hS hA [0] rfl (by decide) 0 rfl rfl rfl rfl rfl (by decide) rfl hl.1 rfl (Nat.le_of_ble_eq_true rfl) (by decide) d_Mod_goOn_176) hP hD hS hA [0] [1, 2, 3, 4, 5] rfl rfl (by decide) (by decide) (fun u2 H locs hr1 hP hD hS => ?_)
              try dsimp only at hr1
              have hP : va_P g.1 classes [((q 41), aI g 600 dp), ((q 42), aZ g 600 iw), ((q 43), aI g 76800 kd), ((q 47), aI g 128 nw), ((q 48), aI g 64 bf), (h0, .inr (10, mob q rf n mm mb u2.1 u2.2 av ev wi mn tp tc sc nf fd me mp xn mt wh tq ag an ig))] H := hP
              have hD : va_D A [((q 41), aI g 600 dp), ((q 42), aZ g 600 iw), ((q 43), aI g 76800 kd), ((q 47), aI g 128 nw), ((q 48), aI g 64 bf), (h0, .inr (10, mob q rf n mm mb u2.1 u2.2 av ev wi mn tp tc sc nf fd me mp xn mt wh tq ag an ig))] := hD
              have hP : va_P g.1 classes [(h0, .inr (10, mob q rf n mm mb u2.1 u2.2 av ev wi mn tp tc sc nf fd me mp xn mt wh tq ag an ig)), ((q 41), aI g 600 dp), ((q 42), aZ g 600 iw), ((q 43), aI g 76800 kd), ((q 47), aI g 128 nw), ((q 48), aI g 64 bf)] H := hP.sub [5, 0, 1, 2, 3, 4] rfl
              have hD : va_D A [(h0, .inr (10, mob q rf n mm mb u2.1 u2.2 av ev wi mn tp tc sc nf fd me mp xn mt wh tq ag an ig)), ((q 41), aI g 600 dp), ((q 42), aZ g 600 iw), ((q 43), aI g 76800 kd), ((q 47), aI g 128 nw), ((q 48), aI g 64 bf)] := hD.sub [5, 0, 1, 2, 3, 4] (by decide) rfl
              have hp2_0 := hr1
              exact tw_vret E hS (u2.1, u2.2, dp, iw, kd) (⟨(fun h => absurd h hp2_0), hFR, (Nat.le_refl _)⟩) hP hD d_Mod_goOn_179
          · refine lv_iload hx hb d_Mod_goOn_119 (lv_at hl 0 rfl) ?_
            refine lv_iload_n hx hb d_Mod_goOn_121 rfl (lv_at hl 6 rfl) ?_
            refine lv_icmp_ge (tgt := 164) hx hb d_Mod_goOn_122 (by decide) (fun h122 => ?_) (fun h122 => ?_)
            · refine lv_iload hx hb d_Mod_goOn_164 (lv_at hl 1 rfl) ?_
              refine lv_if_ne (tgt := 180) hx hb d_Mod_goOn_166 (by decide) (fun h166 => ?_) (fun h166 => ?_)
              · refine lv_iconst (v := 0) hx hb d_Mod_goOn_180 (by decide) ?_
                refine lv_istore hx hb d_Mod_goOn_181 hl (by decide) rfl (fun ls hl => ?_)
                have hl : lv_has ls 10 [(6, .int 0), (5, .int s9), (4, .int (nI (128 * tt))), (0, .ref h0), (1, .int (nI tt)), (2, .ref (q 48)), (3, .int (nI dd))] := hl
                refine lv_iconst (v := 0) hx hb d_Mod_goOn_183 (by decide) ?_
                refine lv_istore hx hb d_Mod_goOn_184 hl (by decide) rfl (fun ls hl => ?_)
                have hl : lv_has ls 10 [(7, .int 0), (6, .int 0), (5, .int s9), (4, .int (nI (128 * tt))), (0, .ref h0), (1, .int (nI tt)), (2, .ref (q 48)), (3, .int (nI dd))] := hl
                have loop186 : ∀ (kq : Nat) (c9 : Int32) (k : Nat) (kd9 : Nat → Int32) (ls : Array Slot) (H : Heap) (locs : List Loc) , 64 - k = kq → (hk4 : k ≤ 64) → (hKD : KD3 kd9) → (hCN : CHN c9 (NK kd9) (NK kd)) → lv_has ls 10 [(7, .int (nI k)), (6, .int c9), (5, .int s9), (4, .int (nI (128 * tt))), (0, .ref h0), (1, .int (nI tt)), (2, .ref (q 48)), (3, .int (nI dd))] → va_P g.1 classes [(h0, .inr (10, mob q rf n mm mb fa fp av ev wi mn tp tc sc nf fd me mp xn mt wh tq ag an ig)), ((q 41), aI g 600 dp), ((q 42), aZ g 600 iw), ((q 43), aI g 76800 kd9), ((q 47), aI g 128 nw), ((q 48), aI g 64 bf)] H → va_D A [(h0, .inr (10, mob q rf n mm mb fa fp av ev wi mn tp tc sc nf fd me mp xn mt wh tq ag an ig)), ((q 41), aI g 600 dp), ((q 42), aZ g 600 iw), ((q 43), aI g 76800 kd9), ((q 47), aI g 128 nw), ((q 48), aI g 64 bf)] → va_S A s.heap H locs → W p l e ({ frames := 1, cells := 0, slots := 0, locals := 22 }) s m [.ref h0, .int (nI tt), .ref (q 48), .int (nI dd)].toArray below meth c H locs 0 0 (MQ below (tw_Qv g (fun (u : Int32 × Int32 × (Nat → Int32) × (Nat → Int32) × (Nat → Int32)) => (u.1 = 0 → fa = 0) ∧ (FRG u.2.2.1 u.2.2.2.1 u.2.2.2.2) ∧ (MU u.2.2.1 u.2.2.2.1 u.2.2.2.2 ≤ MU dp iw kd)) (fun u : Int32 × Int32 × (Nat → Int32) × (Nat → Int32) × (Nat → Int32) => [(h0, .inr (10, mob q rf n mm mb u.1 u.2.1 av ev wi mn tp tc sc nf fd me mp xn mt wh tq ag an ig)), ((q 41), aI g 600 u.2.2.1), ((q 42), aZ g 600 u.2.2.2.1), ((q 43), aI g 76800 u.2.2.2.2), ((q 47), aI g 128 nw), ((q 48), aI g 64 bf)]) A) [.ref h0, .int (nI tt), .ref (q 48), .int (nI dd)].toArray s 0 0 A) (F0 m 186 ls []) := by
                  intro kq
                  induction kq using Nat.strongRecOn with
                  | _ kq ih186 =>
                    intro c9 k kd9 ls H locs hk186 hk4 hKD hCN hl hP hD hS
                    refine lv_iload hx hb d_Mod_goOn_186 (lv_at hl 0 rfl) ?_
                    refine lv_bipush (v := 64) hx hb d_Mod_goOn_188 (by decide) ?_
                    refine lv_icmp_ge (tgt := 243) hx hb d_Mod_goOn_190 (by decide) (fun h190 => ?_) (fun h190 => ?_)
                    · have h190 := tn_le (a := 64) h190 (by decide) (by omega)
                      refine lv_iconst (v := 0) hx hb d_Mod_goOn_243 (by decide) ?_
                      refine lv_istore hx hb d_Mod_goOn_244 hl (by decide) rfl (fun ls hl => ?_)
                      have hl : lv_has ls 10 [(7, .int 0), (6, .int c9), (5, .int s9), (4, .int (nI (128 * tt))), (0, .ref h0), (1, .int (nI tt)), (2, .ref (q 48)), (3, .int (nI dd))] := hl
                      have loop246 : ∀ (kq : Nat) (c8 : Int32) (k : Nat) (kd8 : Nat → Int32) (ls : Array Slot) (H : Heap) (locs : List Loc) , 64 - k = kq → (hk48 : k ≤ 64) → (hKD8 : KD3 kd8) → (hCN8 : CHN c8 (NK kd8) (NK kd)) → lv_has ls 10 [(7, .int (nI k)), (6, .int c8), (4, .int (nI (128 * tt))), (0, .ref h0), (1, .int (nI tt)), (2, .ref (q 48)), (3, .int (nI dd))] → va_P g.1 classes [(h0, .inr (10, mob q rf n mm mb fa fp av ev wi mn tp tc sc nf fd me mp xn mt wh tq ag an ig)), ((q 41), aI g 600 dp), ((q 42), aZ g 600 iw), ((q 43), aI g 76800 kd8), ((q 47), aI g 128 nw), ((q 48), aI g 64 bf)] H → va_D A [(h0, .inr (10, mob q rf n mm mb fa fp av ev wi mn tp tc sc nf fd me mp xn mt wh tq ag an ig)), ((q 41), aI g 600 dp), ((q 42), aZ g 600 iw), ((q 43), aI g 76800 kd8), ((q 47), aI g 128 nw), ((q 48), aI g 64 bf)] → va_S A s.heap H locs → W p l e ({ frames := 1, cells := 0, slots := 0, locals := 22 }) s m [.ref h0, .int (nI tt), .ref (q 48), .int (nI dd)].toArray below meth c H locs 0 0 (MQ below (tw_Qv g (fun (u : Int32 × Int32 × (Nat → Int32) × (Nat → Int32) × (Nat → Int32)) => (u.1 = 0 → fa = 0) ∧ (FRG u.2.2.1 u.2.2.2.1 u.2.2.2.2) ∧ (MU u.2.2.1 u.2.2.2.1 u.2.2.2.2 ≤ MU dp iw kd)) (fun u : Int32 × Int32 × (Nat → Int32) × (Nat → Int32) × (Nat → Int32) => [(h0, .inr (10, mob q rf n mm mb u.1 u.2.1 av ev wi mn tp tc sc nf fd me mp xn mt wh tq ag an ig)), ((q 41), aI g 600 u.2.2.1), ((q 42), aZ g 600 u.2.2.2.1), ((q 43), aI g 76800 u.2.2.2.2), ((q 47), aI g 128 nw), ((q 48), aI g 64 bf)]) A) [.ref h0, .int (nI tt), .ref (q 48), .int (nI dd)].toArray s 0 0 A) (F0 m 246 ls []) := by
                        intro kq
                        induction kq using Nat.strongRecOn with
                        | _ kq ih246 =>
                          intro c8 k kd8 ls H locs hk246 hk48 hKD8 hCN8 hl hP hD hS
                          refine lv_iload hx hb d_Mod_goOn_246 (lv_at hl 0 rfl) ?_
                          refine lv_bipush (v := 64) hx hb d_Mod_goOn_248 (by decide) ?_
                          refine lv_icmp_ge (tgt := 353) hx hb d_Mod_goOn_250 (by decide) (fun h250 => ?_) (fun h250 => ?_)
                          · have h250 := tn_le (a := 64) h250 (by decide) (by omega)
                            refine lv_aload_n hx hb d_Mod_goOn_353 rfl (lv_at hl 3 rfl) ?_
                            refine va_get (D := g.1) (ci := 10) (v := .ref (q 42)) (C := R_Mod) (T := F_Mod) (N := 61) hx hb hts in_Mod hown hK hP 0 rfl rfl 42 (by decide) (hts _ wd_1292) (fun _ h9 => h9) rfl d_Mod_goOn_354 ?_
                            refine lv_iload_n hx hb d_Mod_goOn_357 rfl (lv_at hl 4 rfl) ?_
                            refine lv_aload_n hx hb d_Mod_goOn_358 rfl (lv_at hl 3 rfl) ?_
                            refine va_get (D := g.1) (ci := 10) (v := .ref (q 42)) (C := R_Mod) (T := F_Mod) (N := 61) hx hb hts in_Mod hown hK hP 0 rfl rfl 42 (by decide) (hts _ wd_1292) (fun _ h9 => h9) rfl d_Mod_goOn_359 ?_
                            refine lv_iload_n hx hb d_Mod_goOn_362 rfl (lv_at hl 4 rfl) ?_
                            refine va_zald hx hb hK hP 2 3 rfl rfl (vp_in_nI (by omega) (by decide)) d_Mod_goOn_363 ?_
                            refine tw_ri (e2 := iw tt) (by rw [nI_clamp (by omega)]) ?_
                            refine lv_if_ne (tgt := 372) hx hb d_Mod_goOn_364 (by decide) (fun h364 => ?_) (fun h364 => ?_)
                            · refine lv_iconst (v := 1) hx hb d_Mod_goOn_372 (by decide) ?_
                              refine lv_goto (tgt := 377) hx hb d_Mod_goOn_373 (by decide) ?_
                              refine va_zast hx hb hK hP hD hS 2 3 rfl rfl (vp_in_nI (by omega) (by decide)) d_Mod_goOn_377 (fun H locs hP hD hS => ?_)
                              have hP : va_P g.1 classes [(h0, .inr (10, mob q rf n mm mb fa fp av ev wi mn tp tc sc nf fd me mp xn mt wh tq ag an ig)), ((q 41), aI g 600 dp), ((q 42), aZ g 600 (upd iw (nI tt).toNatClampNeg (vp_nar .boolean 1))), ((q 43), aI g 76800 kd8), ((q 47), aI g 128 nw), ((q 48), aI g 64 bf)] H := hP
                              have hD : va_D A [(h0, .inr (10, mob q rf n mm mb fa fp av ev wi mn tp tc sc nf fd me mp xn mt wh tq ag an ig)), ((q 41), aI g 600 dp), ((q 42), aZ g 600 (upd iw (nI tt).toNatClampNeg (vp_nar .boolean 1))), ((q 43), aI g 76800 kd8), ((q 47), aI g 128 nw), ((q 48), aI g 64 bf)] := hD
                              have e9 : upd iw (nI tt).toNatClampNeg (vp_nar .boolean 1) = upd iw tt 1 := by rw [nI_clamp (by omega)]; rfl
                              rw [e9] at hP hD
                              exact tw_vret E hS (fa, fp, dp, upd iw tt 1, kd8) (⟨(fun h => h), (hFR.again h13 hKD8), (mu_keep ht6 (Or.inl ⟨by rw [wC_1 h364]; exact Nat.le_refl _, chn_le hCN8⟩))⟩) hP hD d_Mod_goOn_378
                            · refine lv_iload hx hb d_Mod_goOn_367 (lv_at hl 1 rfl) ?_
                              refine lv_if_eq (tgt := 376) hx hb d_Mod_goOn_369 (by decide) (fun h369 => ?_) (fun h369 => ?_)
                              · refine lv_iconst (v := 0) hx hb d_Mod_goOn_376 (by decide) ?_
                                refine va_zast hx hb hK hP hD hS 2 3 rfl rfl (vp_in_nI (by omega) (by decide)) d_Mod_goOn_377 (fun H locs hP hD hS => ?_)
                                have hP : va_P g.1 classes [(h0, .inr (10, mob q rf n mm mb fa fp av ev wi mn tp tc sc nf fd me mp xn mt wh tq ag an ig)), ((q 41), aI g 600 dp), ((q 42), aZ g 600 (upd iw (nI tt).toNatClampNeg (vp_nar .boolean 0))), ((q 43), aI g 76800 kd8), ((q 47), aI g 128 nw), ((q 48), aI g 64 bf)] H := hP
                                have hD : va_D A [(h0, .inr (10, mob q rf n mm mb fa fp av ev wi mn tp tc sc nf fd me mp xn mt wh tq ag an ig)), ((q 41), aI g 600 dp), ((q 42), aZ g 600 (upd iw (nI tt).toNatClampNeg (vp_nar .boolean 0))), ((q 43), aI g 76800 kd8), ((q 47), aI g 128 nw), ((q 48), aI g 64 bf)] := hD
                                have e9 : upd iw (nI tt).toNatClampNeg (vp_nar .boolean 0) = upd iw tt 0 := by rw [nI_clamp (by omega)]; rfl
                                rw [e9] at hP hD
                                exact tw_vret E hS (fa, fp, dp, upd iw tt 0, kd8) (⟨(fun h => h), (hFR.again h13 hKD8), (mu_keep ht6 (Or.inl ⟨Nat.zero_le _, chn_le hCN8⟩))⟩) hP hD d_Mod_goOn_378
                              · refine lv_iconst (v := 1) hx hb d_Mod_goOn_372 (by decide) ?_
                                refine lv_goto (tgt := 377) hx hb d_Mod_goOn_373 (by decide) ?_
                                refine va_zast hx hb hK hP hD hS 2 3 rfl rfl (vp_in_nI (by omega) (by decide)) d_Mod_goOn_377 (fun H locs hP hD hS => ?_)
                                have hP : va_P g.1 classes [(h0, .inr (10, mob q rf n mm mb fa fp av ev wi mn tp tc sc nf fd me mp xn mt wh tq ag an ig)), ((q 41), aI g 600 dp), ((q 42), aZ g 600 (upd iw (nI tt).toNatClampNeg (vp_nar .boolean 1))), ((q 43), aI g 76800 kd8), ((q 47), aI g 128 nw), ((q 48), aI g 64 bf)] H := hP
                                have hD : va_D A [(h0, .inr (10, mob q rf n mm mb fa fp av ev wi mn tp tc sc nf fd me mp xn mt wh tq ag an ig)), ((q 41), aI g 600 dp), ((q 42), aZ g 600 (upd iw (nI tt).toNatClampNeg (vp_nar .boolean 1))), ((q 43), aI g 76800 kd8), ((q 47), aI g 128 nw), ((q 48), aI g 64 bf)] := hD
                                have e9 : upd iw (nI tt).toNatClampNeg (vp_nar .boolean 1) = upd iw tt 1 := by rw [nI_clamp (by omega)]; rfl
                                rw [e9] at hP hD
                                exact tw_vret E hS (fa, fp, dp, upd iw tt 1, kd8) (⟨(fun h => h), (hFR.again h13 hKD8), (mu_keep ht6 (Or.inr (chn_lt hCN8 h369)))⟩) hP hD d_Mod_goOn_378
                          · have h250 := tn_nle (a := 64) h250 (by decide) (by omega)
                            refine lv_aload_n hx hb d_Mod_goOn_253 rfl (lv_at hl 3 rfl) ?_
                            refine va_get (D := g.1) (ci := 10) (v := .ref (q 43)) (C := R_Mod) (T := F_Mod) (N := 61) hx hb hts in_Mod hown hK hP 0 rfl rfl 43 (by decide) (hts _ wd_1293) (fun _ h9 => h9) rfl d_Mod_goOn_254 ?_
                            refine lv_iload hx hb d_Mod_goOn_257 (lv_at hl 2 rfl) ?_
                            refine lv_iload hx hb d_Mod_goOn_259 (lv_at hl 0 rfl) ?_
                            refine lv_iadd hx hb d_Mod_goOn_261 ?_
                            refine tw_ri (e2 := nI (128 * tt + k)) (nI_add _ _) ?_
                            refine va_iald hx hb hK hP 3 0 rfl rfl (vp_in_nI (by omega) (by decide)) d_Mod_goOn_262 ?_
                            refine tw_ri (e2 := kd8 (128 * tt + k)) (by rw [nI_clamp (by omega)]) ?_
                            refine lv_istore hx hb d_Mod_goOn_263 hl (by decide) rfl (fun ls hl => ?_)
                            have hl : lv_has ls 10 [(8, .int (kd8 (128 * tt + k))), (7, .int (nI k)), (6, .int c8), (4, .int (nI (128 * tt))), (0, .ref h0), (1, .int (nI tt)), (2, .ref (q 48)), (3, .int (nI dd))] := hl
                            refine lv_iload hx hb d_Mod_goOn_265 (lv_at hl 0 rfl) ?_
                            refine lv_iconst (v := 2) hx hb d_Mod_goOn_267 (by decide) ?_
                            refine lv_icmp_ne (tgt := 294) hx hb d_Mod_goOn_268 (by decide) (fun h268 => ?_) (fun h268 => ?_)
                            · refine lv_iload hx hb d_Mod_goOn_294 (lv_at hl 0 rfl) ?_
                              refine lv_iconst (v := 3) hx hb d_Mod_goOn_296 (by decide) ?_
                              refine lv_icmp_ne (tgt := 325) hx hb d_Mod_goOn_297 (by decide) (fun h297 => ?_) (fun h297 => ?_)
                              · refine lv_iconst (v := 0) hx hb d_Mod_goOn_325 (by decide) ?_
                                refine lv_istore hx hb d_Mod_goOn_326 hl (by decide) rfl (fun ls hl => ?_)
                                have hl : lv_has ls 10 [(9, .int 0), (8, .int (kd8 (128 * tt + k))), (7, .int (nI k)), (6, .int c8), (4, .int (nI (128 * tt))), (0, .ref h0), (1, .int (nI tt)), (2, .ref (q 48)), (3, .int (nI dd))] := hl
                                refine lv_iload hx hb d_Mod_goOn_328 (lv_at hl 0 rfl) ?_
                                refine lv_if_eq (tgt := 347) hx hb d_Mod_goOn_330 (by decide) (fun h330 => ?_) (fun h330 => ?_)
                                · refine lv_iinc (k := 2) (v := nI (k + 1)) hx hb d_Mod_goOn_347 hl rfl ((nI_succ k).symm) (by decide) rfl (fun ls hl => ?_)
                                  have hl : lv_has ls 10 [(7, .int (nI (k + 1))), (9, .int 0), (8, .int (kd8 (128 * tt + k))), (6, .int c8), (4, .int (nI (128 * tt))), (0, .ref h0), (1, .int (nI tt)), (2, .ref (q 48)), (3, .int (nI dd))] := hl
                                  refine lv_goto (tgt := 246) hx hb d_Mod_goOn_350 (by decide) ?_
                                  have hP : va_P g.1 classes [(h0, .inr (10, mob q rf n mm mb fa fp av ev wi mn tp tc sc nf fd me mp xn mt wh tq ag an ig)), ((q 41), aI g 600 dp), ((q 42), aZ g 600 iw), ((q 43), aI g 76800 kd8), ((q 47), aI g 128 nw), ((q 48), aI g 64 bf)] H := hP.sub [0, 1, 2, 3, 4, 5] rfl
                                  have hD : va_D A [(h0, .inr (10, mob q rf n mm mb fa fp av ev wi mn tp tc sc nf fd me mp xn mt wh tq ag an ig)), ((q 41), aI g 600 dp), ((q 42), aZ g 600 iw), ((q 43), aI g 76800 kd8), ((q 47), aI g 128 nw), ((q 48), aI g 64 bf)] := hD.sub [0, 1, 2, 3, 4, 5] (by decide) rfl
                                  exact ih246 _ (by omega) c8 (k + 1) kd8 ls _ _ rfl (by omega) hKD8 hCN8 (lv_sub hl [0, 3, 4, 5, 6, 7, 8] rfl) hP hD hS
                                · first | exact absurd h330 (by decide) | exact absurd (by decide) h330
                              · refine lv_iload hx hb d_Mod_goOn_300 (lv_at hl 1 rfl) ?_
                                refine lv_if_eq (tgt := 321) hx hb d_Mod_goOn_302 (by decide) (fun h302 => ?_) (fun h302 => ?_)
                                · refine lv_iconst (v := 1) hx hb d_Mod_goOn_321 (by decide) ?_
                                  refine lv_goto (tgt := 326) hx hb d_Mod_goOn_322 (by decide) ?_
                                  refine lv_istore hx hb d_Mod_goOn_326 hl (by decide) rfl (fun ls hl => ?_)
                                  have hl : lv_has ls 10 [(9, .int 1), (8, .int (kd8 (128 * tt + k))), (7, .int (nI k)), (6, .int c8), (4, .int (nI (128 * tt))), (0, .ref h0), (1, .int (nI tt)), (2, .ref (q 48)), (3, .int (nI dd))] := hl
                                  refine lv_iload hx hb d_Mod_goOn_328 (lv_at hl 0 rfl) ?_
                                  refine lv_if_eq (tgt := 347) hx hb d_Mod_goOn_330 (by decide) (fun h330 => ?_) (fun h330 => ?_)
                                  · first | exact absurd h330 (by decide) | exact absurd (by decide) h330
                                  · refine lv_aload_n hx hb d_Mod_goOn_333 rfl (lv_at hl 5 rfl) ?_
                                    refine va_get (D := g.1) (ci := 10) (v := .ref (q 43)) (C := R_Mod) (T := F_Mod) (N := 61) hx hb hts in_Mod hown hK hP 0 rfl rfl 43 (by decide) (hts _ wd_1293) (fun _ h9 => h9) rfl d_Mod_goOn_334 ?_
                                    refine lv_iload hx hb d_Mod_goOn_337 (lv_at hl 4 rfl) ?_
                                    refine lv_iload hx hb d_Mod_goOn_339 (lv_at hl 2 rfl) ?_
                                    refine lv_iadd hx hb d_Mod_goOn_341 ?_
                                    refine tw_ri (e2 := nI (128 * tt + k)) (nI_add _ _) ?_
                                    refine lv_iconst (v := 0) hx hb d_Mod_goOn_342 (by decide) ?_
                                    refine va_iast hx hb hK hP hD hS 3 0 rfl rfl (vp_in_nI (by omega) (by decide)) d_Mod_goOn_343 (fun H locs hP hD hS => ?_)
                                    have hP : va_P g.1 classes [(h0, .inr (10, mob q rf n mm mb fa fp av ev wi mn tp tc sc nf fd me mp xn mt wh tq ag an ig)), ((q 41), aI g 600 dp), ((q 42), aZ g 600 iw), ((q 43), aI g 76800 (upd kd8 (nI (128 * tt + k)).toNatClampNeg 0)), ((q 47), aI g 128 nw), ((q 48), aI g 64 bf)] H := hP
                                    have hD : va_D A [(h0, .inr (10, mob q rf n mm mb fa fp av ev wi mn tp tc sc nf fd me mp xn mt wh tq ag an ig)), ((q 41), aI g 600 dp), ((q 42), aZ g 600 iw), ((q 43), aI g 76800 (upd kd8 (nI (128 * tt + k)).toNatClampNeg 0)), ((q 47), aI g 128 nw), ((q 48), aI g 64 bf)] := hD
                                    have e9 : upd kd8 (nI (128 * tt + k)).toNatClampNeg 0 = upd kd8 (128 * tt + k) 0 := by rw [nI_clamp (by omega)]
                                    rw [e9] at hP hD
                                    refine lv_iconst (v := 1) hx hb d_Mod_goOn_344 (by decide) ?_
                                    refine lv_istore hx hb d_Mod_goOn_345 hl (by decide) rfl (fun ls hl => ?_)
                                    have hl : lv_has ls 10 [(6, .int 1), (9, .int 1), (8, .int (kd8 (128 * tt + k))), (7, .int (nI k)), (4, .int (nI (128 * tt))), (0, .ref h0), (1, .int (nI tt)), (2, .ref (q 48)), (3, .int (nI dd))] := hl
                                    refine lv_iinc (k := 3) (v := nI (k + 1)) hx hb d_Mod_goOn_347 hl rfl ((nI_succ k).symm) (by decide) rfl (fun ls hl => ?_)
                                    have hl : lv_has ls 10 [(7, .int (nI (k + 1))), (6, .int 1), (9, .int 1), (8, .int (kd8 (128 * tt + k))), (4, .int (nI (128 * tt))), (0, .ref h0), (1, .int (nI tt)), (2, .ref (q 48)), (3, .int (nI dd))] := hl
                                    refine lv_goto (tgt := 246) hx hb d_Mod_goOn_350 (by decide) ?_
                                    have hP : va_P g.1 classes [(h0, .inr (10, mob q rf n mm mb fa fp av ev wi mn tp tc sc nf fd me mp xn mt wh tq ag an ig)), ((q 41), aI g 600 dp), ((q 42), aZ g 600 iw), ((q 43), aI g 76800 (upd kd8 (128 * tt + k) 0)), ((q 47), aI g 128 nw), ((q 48), aI g 64 bf)] H := hP.sub [0, 1, 2, 3, 4, 5] rfl
                                    have hD : va_D A [(h0, .inr (10, mob q rf n mm mb fa fp av ev wi mn tp tc sc nf fd me mp xn mt wh tq ag an ig)), ((q 41), aI g 600 dp), ((q 42), aZ g 600 iw), ((q 43), aI g 76800 (upd kd8 (128 * tt + k) 0)), ((q 47), aI g 128 nw), ((q 48), aI g 64 bf)] := hD.sub [0, 1, 2, 3, 4, 5] (by decide) rfl
                                    exact ih246 _ (by omega) 1 (k + 1) (upd kd8 (128 * tt + k) 0) ls _ _ rfl (by omega) (hKD8.put (fun _ => by decide)) (nk_dn hCN8 (by omega) (by omega) (by rw [h297]; decide)) (lv_sub hl [0, 1, 4, 5, 6, 7, 8] rfl) hP hD hS
                                · have h302 := tn_ne (b := 0) h302
                                  refine lv_aload_n hx hb d_Mod_goOn_305 rfl (lv_at hl 4 rfl) ?_
                                  refine va_get (D := g.1) (ci := 10) (v := .ref (q 43)) (C := R_Mod) (T := F_Mod) (N := 61) hx hb hts in_Mod hown hK hP 0 rfl rfl 43 (by decide) (hts _ wd_1293) (fun _ h9 => h9) rfl d_Mod_goOn_306 ?_
                                  refine lv_iload hx hb d_Mod_goOn_309 (lv_at hl 3 rfl) ?_
                                  refine lv_iload hx hb d_Mod_goOn_311 (lv_at hl 1 rfl) ?_
                                  refine lv_iadd hx hb d_Mod_goOn_313 ?_
                                  refine tw_ri (e2 := nI (128 * tt + k)) (nI_add _ _) ?_
                                  refine lv_iconst (v := 1) hx hb d_Mod_goOn_314 (by decide) ?_
                                  refine lv_isub hx hb d_Mod_goOn_315 ?_
                                  refine tw_ri (e2 := nI (128 * tt + k - 1)) (pk_sub (b := 1) (by omega)) ?_
                                  refine va_iald hx hb hK hP 3 0 rfl rfl (vp_in_nI (by omega) (by decide)) d_Mod_goOn_316 ?_
                                  obtain ⟨x3, ex3⟩ : ∃ z : Int32, kd8 ((nI (128 * tt + k - 1)).toNatClampNeg) = z := ⟨_, rfl⟩
                                  refine tw_ri (e2 := x3) ex3 ?_
                                  refine lv_iconst (v := 2) hx hb d_Mod_goOn_317 (by decide) ?_
                                  refine lv_icmp_eq (tgt := 325) hx hb d_Mod_goOn_318 (by decide) (fun h318 => ?_) (fun h318 => ?_)
                                  · refine lv_iconst (v := 0) hx hb d_Mod_goOn_325 (by decide) ?_
                                    refine lv_istore hx hb d_Mod_goOn_326 hl (by decide) rfl (fun ls hl => ?_)
                                    have hl : lv_has ls 10 [(9, .int 0), (8, .int (kd8 (128 * tt + k))), (7, .int (nI k)), (6, .int c8), (4, .int (nI (128 * tt))), (0, .ref h0), (1, .int (nI tt)), (2, .ref (q 48)), (3, .int (nI dd))] := hl
                                    refine lv_iload hx hb d_Mod_goOn_328 (lv_at hl 0 rfl) ?_
                                    refine lv_if_eq (tgt := 347) hx hb d_Mod_goOn_330 (by decide) (fun h330 => ?_) (fun h330 => ?_)
                                    · refine lv_iinc (k := 2) (v := nI (k + 1)) hx hb d_Mod_goOn_347 hl rfl ((nI_succ k).symm) (by decide) rfl (fun ls hl => ?_)
                                      have hl : lv_has ls 10 [(7, .int (nI (k + 1))), (9, .int 0), (8, .int (kd8 (128 * tt + k))), (6, .int c8), (4, .int (nI (128 * tt))), (0, .ref h0), (1, .int (nI tt)), (2, .ref (q 48)), (3, .int (nI dd))] := hl
                                      refine lv_goto (tgt := 246) hx hb d_Mod_goOn_350 (by decide) ?_
                                      have hP : va_P g.1 classes [(h0, .inr (10, mob q rf n mm mb fa fp av ev wi mn tp tc sc nf fd me mp xn mt wh tq ag an ig)), ((q 41), aI g 600 dp), ((q 42), aZ g 600 iw), ((q 43), aI g 76800 kd8), ((q 47), aI g 128 nw), ((q 48), aI g 64 bf)] H := hP.sub [0, 1, 2, 3, 4, 5] rfl
                                      have hD : va_D A [(h0, .inr (10, mob q rf n mm mb fa fp av ev wi mn tp tc sc nf fd me mp xn mt wh tq ag an ig)), ((q 41), aI g 600 dp), ((q 42), aZ g 600 iw), ((q 43), aI g 76800 kd8), ((q 47), aI g 128 nw), ((q 48), aI g 64 bf)] := hD.sub [0, 1, 2, 3, 4, 5] (by decide) rfl
                                      exact ih246 _ (by omega) c8 (k + 1) kd8 ls _ _ rfl (by omega) hKD8 hCN8 (lv_sub hl [0, 3, 4, 5, 6, 7, 8] rfl) hP hD hS
                                    · first | exact absurd h330 (by decide) | exact absurd (by decide) h330
                                  · refine lv_iconst (v := 1) hx hb d_Mod_goOn_321 (by decide) ?_
                                    refine lv_goto (tgt := 326) hx hb d_Mod_goOn_322 (by decide) ?_
                                    refine lv_istore hx hb d_Mod_goOn_326 hl (by decide) rfl (fun ls hl => ?_)
                                    have hl : lv_has ls 10 [(9, .int 1), (8, .int (kd8 (128 * tt + k))), (7, .int (nI k)), (6, .int c8), (4, .int (nI (128 * tt))), (0, .ref h0), (1, .int (nI tt)), (2, .ref (q 48)), (3, .int (nI dd))] := hl
                                    refine lv_iload hx hb d_Mod_goOn_328 (lv_at hl 0 rfl) ?_
                                    refine lv_if_eq (tgt := 347) hx hb d_Mod_goOn_330 (by decide) (fun h330 => ?_) (fun h330 => ?_)
                                    · first | exact absurd h330 (by decide) | exact absurd (by decide) h330
                                    · refine lv_aload_n hx hb d_Mod_goOn_333 rfl (lv_at hl 5 rfl) ?_
                                      refine va_get (D := g.1) (ci := 10) (v := .ref (q 43)) (C := R_Mod) (T := F_Mod) (N := 61) hx hb hts in_Mod hown hK hP 0 rfl rfl 43 (by decide) (hts _ wd_1293) (fun _ h9 => h9) rfl d_Mod_goOn_334 ?_
                                      refine lv_iload hx hb d_Mod_goOn_337 (lv_at hl 4 rfl) ?_
                                      refine lv_iload hx hb d_Mod_goOn_339 (lv_at hl 2 rfl) ?_
                                      refine lv_iadd hx hb d_Mod_goOn_341 ?_
                                      refine tw_ri (e2 := nI (128 * tt + k)) (nI_add _ _) ?_
                                      refine lv_iconst (v := 0) hx hb d_Mod_goOn_342 (by decide) ?_
                                      refine va_iast hx hb hK hP hD hS 3 0 rfl rfl (vp_in_nI (by omega) (by decide)) d_Mod_goOn_343 (fun H locs hP hD hS => ?_)
                                      have hP : va_P g.1 classes [(h0, .inr (10, mob q rf n mm mb fa fp av ev wi mn tp tc sc nf fd me mp xn mt wh tq ag an ig)), ((q 41), aI g 600 dp), ((q 42), aZ g 600 iw), ((q 43), aI g 76800 (upd kd8 (nI (128 * tt + k)).toNatClampNeg 0)), ((q 47), aI g 128 nw), ((q 48), aI g 64 bf)] H := hP
                                      have hD : va_D A [(h0, .inr (10, mob q rf n mm mb fa fp av ev wi mn tp tc sc nf fd me mp xn mt wh tq ag an ig)), ((q 41), aI g 600 dp), ((q 42), aZ g 600 iw), ((q 43), aI g 76800 (upd kd8 (nI (128 * tt + k)).toNatClampNeg 0)), ((q 47), aI g 128 nw), ((q 48), aI g 64 bf)] := hD
                                      have e9 : upd kd8 (nI (128 * tt + k)).toNatClampNeg 0 = upd kd8 (128 * tt + k) 0 := by rw [nI_clamp (by omega)]
                                      rw [e9] at hP hD
                                      refine lv_iconst (v := 1) hx hb d_Mod_goOn_344 (by decide) ?_
                                      refine lv_istore hx hb d_Mod_goOn_345 hl (by decide) rfl (fun ls hl => ?_)
                                      have hl : lv_has ls 10 [(6, .int 1), (9, .int 1), (8, .int (kd8 (128 * tt + k))), (7, .int (nI k)), (4, .int (nI (128 * tt))), (0, .ref h0), (1, .int (nI tt)), (2, .ref (q 48)), (3, .int (nI dd))] := hl
                                      refine lv_iinc (k := 3) (v := nI (k + 1)) hx hb d_Mod_goOn_347 hl rfl ((nI_succ k).symm) (by decide) rfl (fun ls hl => ?_)
                                      have hl : lv_has ls 10 [(7, .int (nI (k + 1))), (6, .int 1), (9, .int 1), (8, .int (kd8 (128 * tt + k))), (4, .int (nI (128 * tt))), (0, .ref h0), (1, .int (nI tt)), (2, .ref (q 48)), (3, .int (nI dd))] := hl
                                      refine lv_goto (tgt := 246) hx hb d_Mod_goOn_350 (by decide) ?_
                                      have hP : va_P g.1 classes [(h0, .inr (10, mob q rf n mm mb fa fp av ev wi mn tp tc sc nf fd me mp xn mt wh tq ag an ig)), ((q 41), aI g 600 dp), ((q 42), aZ g 600 iw), ((q 43), aI g 76800 (upd kd8 (128 * tt + k) 0)), ((q 47), aI g 128 nw), ((q 48), aI g 64 bf)] H := hP.sub [0, 1, 2, 3, 4, 5] rfl
                                      have hD : va_D A [(h0, .inr (10, mob q rf n mm mb fa fp av ev wi mn tp tc sc nf fd me mp xn mt wh tq ag an ig)), ((q 41), aI g 600 dp), ((q 42), aZ g 600 iw), ((q 43), aI g 76800 (upd kd8 (128 * tt + k) 0)), ((q 47), aI g 128 nw), ((q 48), aI g 64 bf)] := hD.sub [0, 1, 2, 3, 4, 5] (by decide) rfl
                                      exact ih246 _ (by omega) 1 (k + 1) (upd kd8 (128 * tt + k) 0) ls _ _ rfl (by omega) (hKD8.put (fun _ => by decide)) (nk_dn hCN8 (by omega) (by omega) (by rw [h297]; decide)) (lv_sub hl [0, 1, 4, 5, 6, 7, 8] rfl) hP hD hS
                            · refine lv_iload hx hb d_Mod_goOn_271 (lv_at hl 1 rfl) ?_
                              refine lv_bipush (v := 63) hx hb d_Mod_goOn_273 (by decide) ?_
                              refine lv_icmp_eq (tgt := 321) hx hb d_Mod_goOn_275 (by decide) (fun h275 => ?_) (fun h275 => ?_)
                              · refine lv_iconst (v := 1) hx hb d_Mod_goOn_321 (by decide) ?_
                                refine lv_goto (tgt := 326) hx hb d_Mod_goOn_322 (by decide) ?_
                                refine lv_istore hx hb d_Mod_goOn_326 hl (by decide) rfl (fun ls hl => ?_)
                                have hl : lv_has ls 10 [(9, .int 1), (8, .int (kd8 (128 * tt + k))), (7, .int (nI k)), (6, .int c8), (4, .int (nI (128 * tt))), (0, .ref h0), (1, .int (nI tt)), (2, .ref (q 48)), (3, .int (nI dd))] := hl
                                refine lv_iload hx hb d_Mod_goOn_328 (lv_at hl 0 rfl) ?_
                                refine lv_if_eq (tgt := 347) hx hb d_Mod_goOn_330 (by decide) (fun h330 => ?_) (fun h330 => ?_)
                                · first | exact absurd h330 (by decide) | exact absurd (by decide) h330
                                · refine lv_aload_n hx hb d_Mod_goOn_333 rfl (lv_at hl 5 rfl) ?_
                                  refine va_get (D := g.1) (ci := 10) (v := .ref (q 43)) (C := R_Mod) (T := F_Mod) (N := 61) hx hb hts in_Mod hown hK hP 0 rfl rfl 43 (by decide) (hts _ wd_1293) (fun _ h9 => h9) rfl d_Mod_goOn_334 ?_
                                  refine lv_iload hx hb d_Mod_goOn_337 (lv_at hl 4 rfl) ?_
                                  refine lv_iload hx hb d_Mod_goOn_339 (lv_at hl 2 rfl) ?_
                                  refine lv_iadd hx hb d_Mod_goOn_341 ?_
                                  refine tw_ri (e2 := nI (128 * tt + k)) (nI_add _ _) ?_
                                  refine lv_iconst (v := 0) hx hb d_Mod_goOn_342 (by decide) ?_
                                  refine va_iast hx hb hK hP hD hS 3 0 rfl rfl (vp_in_nI (by omega) (by decide)) d_Mod_goOn_343 (fun H locs hP hD hS => ?_)
                                  have hP : va_P g.1 classes [(h0, .inr (10, mob q rf n mm mb fa fp av ev wi mn tp tc sc nf fd me mp xn mt wh tq ag an ig)), ((q 41), aI g 600 dp), ((q 42), aZ g 600 iw), ((q 43), aI g 76800 (upd kd8 (nI (128 * tt + k)).toNatClampNeg 0)), ((q 47), aI g 128 nw), ((q 48), aI g 64 bf)] H := hP
                                  have hD : va_D A [(h0, .inr (10, mob q rf n mm mb fa fp av ev wi mn tp tc sc nf fd me mp xn mt wh tq ag an ig)), ((q 41), aI g 600 dp), ((q 42), aZ g 600 iw), ((q 43), aI g 76800 (upd kd8 (nI (128 * tt + k)).toNatClampNeg 0)), ((q 47), aI g 128 nw), ((q 48), aI g 64 bf)] := hD
                                  have e9 : upd kd8 (nI (128 * tt + k)).toNatClampNeg 0 = upd kd8 (128 * tt + k) 0 := by rw [nI_clamp (by omega)]
                                  rw [e9] at hP hD
                                  refine lv_iconst (v := 1) hx hb d_Mod_goOn_344 (by decide) ?_
                                  refine lv_istore hx hb d_Mod_goOn_345 hl (by decide) rfl (fun ls hl => ?_)
                                  have hl : lv_has ls 10 [(6, .int 1), (9, .int 1), (8, .int (kd8 (128 * tt + k))), (7, .int (nI k)), (4, .int (nI (128 * tt))), (0, .ref h0), (1, .int (nI tt)), (2, .ref (q 48)), (3, .int (nI dd))] := hl
                                  refine lv_iinc (k := 3) (v := nI (k + 1)) hx hb d_Mod_goOn_347 hl rfl ((nI_succ k).symm) (by decide) rfl (fun ls hl => ?_)
                                  have hl : lv_has ls 10 [(7, .int (nI (k + 1))), (6, .int 1), (9, .int 1), (8, .int (kd8 (128 * tt + k))), (4, .int (nI (128 * tt))), (0, .ref h0), (1, .int (nI tt)), (2, .ref (q 48)), (3, .int (nI dd))] := hl
                                  refine lv_goto (tgt := 246) hx hb d_Mod_goOn_350 (by decide) ?_
                                  have hP : va_P g.1 classes [(h0, .inr (10, mob q rf n mm mb fa fp av ev wi mn tp tc sc nf fd me mp xn mt wh tq ag an ig)), ((q 41), aI g 600 dp), ((q 42), aZ g 600 iw), ((q 43), aI g 76800 (upd kd8 (128 * tt + k) 0)), ((q 47), aI g 128 nw), ((q 48), aI g 64 bf)] H := hP.sub [0, 1, 2, 3, 4, 5] rfl
                                  have hD : va_D A [(h0, .inr (10, mob q rf n mm mb fa fp av ev wi mn tp tc sc nf fd me mp xn mt wh tq ag an ig)), ((q 41), aI g 600 dp), ((q 42), aZ g 600 iw), ((q 43), aI g 76800 (upd kd8 (128 * tt + k) 0)), ((q 47), aI g 128 nw), ((q 48), aI g 64 bf)] := hD.sub [0, 1, 2, 3, 4, 5] (by decide) rfl
                                  exact ih246 _ (by omega) 1 (k + 1) (upd kd8 (128 * tt + k) 0) ls _ _ rfl (by omega) (hKD8.put (fun _ => by decide)) (nk_dn hCN8 (by omega) (by omega) (by rw [h268]; decide)) (lv_sub hl [0, 1, 4, 5, 6, 7, 8] rfl) hP hD hS
                              · refine lv_aload_n hx hb d_Mod_goOn_278 rfl (lv_at hl 4 rfl) ?_
                                refine va_get (D := g.1) (ci := 10) (v := .ref (q 43)) (C := R_Mod) (T := F_Mod) (N := 61) hx hb hts in_Mod hown hK hP 0 rfl rfl 43 (by decide) (hts _ wd_1293) (fun _ h9 => h9) rfl d_Mod_goOn_279 ?_
                                refine lv_iload hx hb d_Mod_goOn_282 (lv_at hl 3 rfl) ?_
                                refine lv_iload hx hb d_Mod_goOn_284 (lv_at hl 1 rfl) ?_
                                refine lv_iadd hx hb d_Mod_goOn_286 ?_
                                refine tw_ri (e2 := nI (128 * tt + k)) (nI_add _ _) ?_
                                refine lv_iconst (v := 1) hx hb d_Mod_goOn_287 (by decide) ?_
                                refine lv_iadd hx hb d_Mod_goOn_288 ?_
                                refine tw_ri (e2 := nI (128 * tt + k + 1)) (nI_add _ 1) ?_
                                refine va_iald hx hb hK hP 3 0 rfl rfl (vp_in_nI (by omega) (by decide)) d_Mod_goOn_289 ?_
                                obtain ⟨x4, ex4⟩ : ∃ z : Int32, kd8 ((nI (128 * tt + k + 1)).toNatClampNeg) = z := ⟨_, rfl⟩
                                refine tw_ri (e2 := x4) ex4 ?_
                                refine lv_iconst (v := 3) hx hb d_Mod_goOn_290 (by decide) ?_
                                refine lv_icmp_ne (tgt := 321) hx hb d_Mod_goOn_291 (by decide) (fun h291 => ?_) (fun h291 => ?_)
                                · refine lv_iconst (v := 1) hx hb d_Mod_goOn_321 (by decide) ?_
                                  refine lv_goto (tgt := 326) hx hb d_Mod_goOn_322 (by decide) ?_
                                  refine lv_istore hx hb d_Mod_goOn_326 hl (by decide) rfl (fun ls hl => ?_)
                                  have hl : lv_has ls 10 [(9, .int 1), (8, .int (kd8 (128 * tt + k))), (7, .int (nI k)), (6, .int c8), (4, .int (nI (128 * tt))), (0, .ref h0), (1, .int (nI tt)), (2, .ref (q 48)), (3, .int (nI dd))] := hl
                                  refine lv_iload hx hb d_Mod_goOn_328 (lv_at hl 0 rfl) ?_
                                  refine lv_if_eq (tgt := 347) hx hb d_Mod_goOn_330 (by decide) (fun h330 => ?_) (fun h330 => ?_)
                                  · first | exact absurd h330 (by decide) | exact absurd (by decide) h330
                                  · refine lv_aload_n hx hb d_Mod_goOn_333 rfl (lv_at hl 5 rfl) ?_
                                    refine va_get (D := g.1) (ci := 10) (v := .ref (q 43)) (C := R_Mod) (T := F_Mod) (N := 61) hx hb hts in_Mod hown hK hP 0 rfl rfl 43 (by decide) (hts _ wd_1293) (fun _ h9 => h9) rfl d_Mod_goOn_334 ?_
                                    refine lv_iload hx hb d_Mod_goOn_337 (lv_at hl 4 rfl) ?_
                                    refine lv_iload hx hb d_Mod_goOn_339 (lv_at hl 2 rfl) ?_
                                    refine lv_iadd hx hb d_Mod_goOn_341 ?_
                                    refine tw_ri (e2 := nI (128 * tt + k)) (nI_add _ _) ?_
                                    refine lv_iconst (v := 0) hx hb d_Mod_goOn_342 (by decide) ?_
                                    refine va_iast hx hb hK hP hD hS 3 0 rfl rfl (vp_in_nI (by omega) (by decide)) d_Mod_goOn_343 (fun H locs hP hD hS => ?_)
                                    have hP : va_P g.1 classes [(h0, .inr (10, mob q rf n mm mb fa fp av ev wi mn tp tc sc nf fd me mp xn mt wh tq ag an ig)), ((q 41), aI g 600 dp), ((q 42), aZ g 600 iw), ((q 43), aI g 76800 (upd kd8 (nI (128 * tt + k)).toNatClampNeg 0)), ((q 47), aI g 128 nw), ((q 48), aI g 64 bf)] H := hP
                                    have hD : va_D A [(h0, .inr (10, mob q rf n mm mb fa fp av ev wi mn tp tc sc nf fd me mp xn mt wh tq ag an ig)), ((q 41), aI g 600 dp), ((q 42), aZ g 600 iw), ((q 43), aI g 76800 (upd kd8 (nI (128 * tt + k)).toNatClampNeg 0)), ((q 47), aI g 128 nw), ((q 48), aI g 64 bf)] := hD
                                    have e9 : upd kd8 (nI (128 * tt + k)).toNatClampNeg 0 = upd kd8 (128 * tt + k) 0 := by rw [nI_clamp (by omega)]
                                    rw [e9] at hP hD
                                    refine lv_iconst (v := 1) hx hb d_Mod_goOn_344 (by decide) ?_
                                    refine lv_istore hx hb d_Mod_goOn_345 hl (by decide) rfl (fun ls hl => ?_)
                                    have hl : lv_has ls 10 [(6, .int 1), (9, .int 1), (8, .int (kd8 (128 * tt + k))), (7, .int (nI k)), (4, .int (nI (128 * tt))), (0, .ref h0), (1, .int (nI tt)), (2, .ref (q 48)), (3, .int (nI dd))] := hl
                                    refine lv_iinc (k := 3) (v := nI (k + 1)) hx hb d_Mod_goOn_347 hl rfl ((nI_succ k).symm) (by decide) rfl (fun ls hl => ?_)
                                    have hl : lv_has ls 10 [(7, .int (nI (k + 1))), (6, .int 1), (9, .int 1), (8, .int (kd8 (128 * tt + k))), (4, .int (nI (128 * tt))), (0, .ref h0), (1, .int (nI tt)), (2, .ref (q 48)), (3, .int (nI dd))] := hl
                                    refine lv_goto (tgt := 246) hx hb d_Mod_goOn_350 (by decide) ?_
                                    have hP : va_P g.1 classes [(h0, .inr (10, mob q rf n mm mb fa fp av ev wi mn tp tc sc nf fd me mp xn mt wh tq ag an ig)), ((q 41), aI g 600 dp), ((q 42), aZ g 600 iw), ((q 43), aI g 76800 (upd kd8 (128 * tt + k) 0)), ((q 47), aI g 128 nw), ((q 48), aI g 64 bf)] H := hP.sub [0, 1, 2, 3, 4, 5] rfl
                                    have hD : va_D A [(h0, .inr (10, mob q rf n mm mb fa fp av ev wi mn tp tc sc nf fd me mp xn mt wh tq ag an ig)), ((q 41), aI g 600 dp), ((q 42), aZ g 600 iw), ((q 43), aI g 76800 (upd kd8 (128 * tt + k) 0)), ((q 47), aI g 128 nw), ((q 48), aI g 64 bf)] := hD.sub [0, 1, 2, 3, 4, 5] (by decide) rfl
                                    exact ih246 _ (by omega) 1 (k + 1) (upd kd8 (128 * tt + k) 0) ls _ _ rfl (by omega) (hKD8.put (fun _ => by decide)) (nk_dn hCN8 (by omega) (by omega) (by rw [h268]; decide)) (lv_sub hl [0, 1, 4, 5, 6, 7, 8] rfl) hP hD hS
                                · refine lv_iload hx hb d_Mod_goOn_294 (lv_at hl 0 rfl) ?_
                                  refine lv_iconst (v := 3) hx hb d_Mod_goOn_296 (by decide) ?_
                                  refine lv_icmp_ne (tgt := 325) hx hb d_Mod_goOn_297 (by decide) (fun h297 => ?_) (fun h297 => ?_)
                                  · refine lv_iconst (v := 0) hx hb d_Mod_goOn_325 (by decide) ?_
                                    refine lv_istore hx hb d_Mod_goOn_326 hl (by decide) rfl (fun ls hl => ?_)
                                    have hl : lv_has ls 10 [(9, .int 0), (8, .int (kd8 (128 * tt + k))), (7, .int (nI k)), (6, .int c8), (4, .int (nI (128 * tt))), (0, .ref h0), (1, .int (nI tt)), (2, .ref (q 48)), (3, .int (nI dd))] := hl
                                    refine lv_iload hx hb d_Mod_goOn_328 (lv_at hl 0 rfl) ?_
                                    refine lv_if_eq (tgt := 347) hx hb d_Mod_goOn_330 (by decide) (fun h330 => ?_) (fun h330 => ?_)
                                    · refine lv_iinc (k := 2) (v := nI (k + 1)) hx hb d_Mod_goOn_347 hl rfl ((nI_succ k).symm) (by decide) rfl (fun ls hl => ?_)
                                      have hl : lv_has ls 10 [(7, .int (nI (k + 1))), (9, .int 0), (8, .int (kd8 (128 * tt + k))), (6, .int c8), (4, .int (nI (128 * tt))), (0, .ref h0), (1, .int (nI tt)), (2, .ref (q 48)), (3, .int (nI dd))] := hl
                                      refine lv_goto (tgt := 246) hx hb d_Mod_goOn_350 (by decide) ?_
                                      have hP : va_P g.1 classes [(h0, .inr (10, mob q rf n mm mb fa fp av ev wi mn tp tc sc nf fd me mp xn mt wh tq ag an ig)), ((q 41), aI g 600 dp), ((q 42), aZ g 600 iw), ((q 43), aI g 76800 kd8), ((q 47), aI g 128 nw), ((q 48), aI g 64 bf)] H := hP.sub [0, 1, 2, 3, 4, 5] rfl
                                      have hD : va_D A [(h0, .inr (10, mob q rf n mm mb fa fp av ev wi mn tp tc sc nf fd me mp xn mt wh tq ag an ig)), ((q 41), aI g 600 dp), ((q 42), aZ g 600 iw), ((q 43), aI g 76800 kd8), ((q 47), aI g 128 nw), ((q 48), aI g 64 bf)] := hD.sub [0, 1, 2, 3, 4, 5] (by decide) rfl
                                      exact ih246 _ (by omega) c8 (k + 1) kd8 ls _ _ rfl (by omega) hKD8 hCN8 (lv_sub hl [0, 3, 4, 5, 6, 7, 8] rfl) hP hD hS
                                    · first | exact absurd h330 (by decide) | exact absurd (by decide) h330
                                  · refine lv_iload hx hb d_Mod_goOn_300 (lv_at hl 1 rfl) ?_
                                    refine lv_if_eq (tgt := 321) hx hb d_Mod_goOn_302 (by decide) (fun h302 => ?_) (fun h302 => ?_)
                                    · refine lv_iconst (v := 1) hx hb d_Mod_goOn_321 (by decide) ?_
                                      refine lv_goto (tgt := 326) hx hb d_Mod_goOn_322 (by decide) ?_
                                      refine lv_istore hx hb d_Mod_goOn_326 hl (by decide) rfl (fun ls hl => ?_)
                                      have hl : lv_has ls 10 [(9, .int 1), (8, .int (kd8 (128 * tt + k))), (7, .int (nI k)), (6, .int c8), (4, .int (nI (128 * tt))), (0, .ref h0), (1, .int (nI tt)), (2, .ref (q 48)), (3, .int (nI dd))] := hl
                                      refine lv_iload hx hb d_Mod_goOn_328 (lv_at hl 0 rfl) ?_
                                      refine lv_if_eq (tgt := 347) hx hb d_Mod_goOn_330 (by decide) (fun h330 => ?_) (fun h330 => ?_)
                                      · first | exact absurd h330 (by decide) | exact absurd (by decide) h330
                                      · refine lv_aload_n hx hb d_Mod_goOn_333 rfl (lv_at hl 5 rfl) ?_
                                        refine va_get (D := g.1) (ci := 10) (v := .ref (q 43)) (C := R_Mod) (T := F_Mod) (N := 61) hx hb hts in_Mod hown hK hP 0 rfl rfl 43 (by decide) (hts _ wd_1293) (fun _ h9 => h9) rfl d_Mod_goOn_334 ?_
                                        refine lv_iload hx hb d_Mod_goOn_337 (lv_at hl 4 rfl) ?_
                                        refine lv_iload hx hb d_Mod_goOn_339 (lv_at hl 2 rfl) ?_
                                        refine lv_iadd hx hb d_Mod_goOn_341 ?_
                                        refine tw_ri (e2 := nI (128 * tt + k)) (nI_add _ _) ?_
                                        refine lv_iconst (v := 0) hx hb d_Mod_goOn_342 (by decide) ?_
                                        refine va_iast hx hb hK hP hD hS 3 0 rfl rfl (vp_in_nI (by omega) (by decide)) d_Mod_goOn_343 (fun H locs hP hD hS => ?_)
                                        have hP : va_P g.1 classes [(h0, .inr (10, mob q rf n mm mb fa fp av ev wi mn tp tc sc nf fd me mp xn mt wh tq ag an ig)), ((q 41), aI g 600 dp), ((q 42), aZ g 600 iw), ((q 43), aI g 76800 (upd kd8 (nI (128 * tt + k)).toNatClampNeg 0)), ((q 47), aI g 128 nw), ((q 48), aI g 64 bf)] H := hP
                                        have hD : va_D A [(h0, .inr (10, mob q rf n mm mb fa fp av ev wi mn tp tc sc nf fd me mp xn mt wh tq ag an ig)), ((q 41), aI g 600 dp), ((q 42), aZ g 600 iw), ((q 43), aI g 76800 (upd kd8 (nI (128 * tt + k)).toNatClampNeg 0)), ((q 47), aI g 128 nw), ((q 48), aI g 64 bf)] := hD
                                        have e9 : upd kd8 (nI (128 * tt + k)).toNatClampNeg 0 = upd kd8 (128 * tt + k) 0 := by rw [nI_clamp (by omega)]
                                        rw [e9] at hP hD
                                        refine lv_iconst (v := 1) hx hb d_Mod_goOn_344 (by decide) ?_
                                        refine lv_istore hx hb d_Mod_goOn_345 hl (by decide) rfl (fun ls hl => ?_)
                                        have hl : lv_has ls 10 [(6, .int 1), (9, .int 1), (8, .int (kd8 (128 * tt + k))), (7, .int (nI k)), (4, .int (nI (128 * tt))), (0, .ref h0), (1, .int (nI tt)), (2, .ref (q 48)), (3, .int (nI dd))] := hl
                                        refine lv_iinc (k := 3) (v := nI (k + 1)) hx hb d_Mod_goOn_347 hl rfl ((nI_succ k).symm) (by decide) rfl (fun ls hl => ?_)
                                        have hl : lv_has ls 10 [(7, .int (nI (k + 1))), (6, .int 1), (9, .int 1), (8, .int (kd8 (128 * tt + k))), (4, .int (nI (128 * tt))), (0, .ref h0), (1, .int (nI tt)), (2, .ref (q 48)), (3, .int (nI dd))] := hl
                                        refine lv_goto (tgt := 246) hx hb d_Mod_goOn_350 (by decide) ?_
                                        have hP : va_P g.1 classes [(h0, .inr (10, mob q rf n mm mb fa fp av ev wi mn tp tc sc nf fd me mp xn mt wh tq ag an ig)), ((q 41), aI g 600 dp), ((q 42), aZ g 600 iw), ((q 43), aI g 76800 (upd kd8 (128 * tt + k) 0)), ((q 47), aI g 128 nw), ((q 48), aI g 64 bf)] H := hP.sub [0, 1, 2, 3, 4, 5] rfl
                                        have hD : va_D A [(h0, .inr (10, mob q rf n mm mb fa fp av ev wi mn tp tc sc nf fd me mp xn mt wh tq ag an ig)), ((q 41), aI g 600 dp), ((q 42), aZ g 600 iw), ((q 43), aI g 76800 (upd kd8 (128 * tt + k) 0)), ((q 47), aI g 128 nw), ((q 48), aI g 64 bf)] := hD.sub [0, 1, 2, 3, 4, 5] (by decide) rfl
                                        exact ih246 _ (by omega) 1 (k + 1) (upd kd8 (128 * tt + k) 0) ls _ _ rfl (by omega) (hKD8.put (fun _ => by decide)) (nk_dn hCN8 (by omega) (by omega) (by rw [h297]; decide)) (lv_sub hl [0, 1, 4, 5, 6, 7, 8] rfl) hP hD hS
                                    · have h302 := tn_ne (b := 0) h302
                                      refine lv_aload_n hx hb d_Mod_goOn_305 rfl (lv_at hl 4 rfl) ?_
                                      refine va_get (D := g.1) (ci := 10) (v := .ref (q 43)) (C := R_Mod) (T := F_Mod) (N := 61) hx hb hts in_Mod hown hK hP 0 rfl rfl 43 (by decide) (hts _ wd_1293) (fun _ h9 => h9) rfl d_Mod_goOn_306 ?_
                                      refine lv_iload hx hb d_Mod_goOn_309 (lv_at hl 3 rfl) ?_
                                      refine lv_iload hx hb d_Mod_goOn_311 (lv_at hl 1 rfl) ?_
                                      refine lv_iadd hx hb d_Mod_goOn_313 ?_
                                      refine tw_ri (e2 := nI (128 * tt + k)) (nI_add _ _) ?_
                                      refine lv_iconst (v := 1) hx hb d_Mod_goOn_314 (by decide) ?_
                                      refine lv_isub hx hb d_Mod_goOn_315 ?_
                                      refine tw_ri (e2 := nI (128 * tt + k - 1)) (pk_sub (b := 1) (by omega)) ?_
                                      refine va_iald hx hb hK hP 3 0 rfl rfl (vp_in_nI (by omega) (by decide)) d_Mod_goOn_316 ?_
                                      obtain ⟨x5, ex5⟩ : ∃ z : Int32, kd8 ((nI (128 * tt + k - 1)).toNatClampNeg) = z := ⟨_, rfl⟩
                                      refine tw_ri (e2 := x5) ex5 ?_
                                      refine lv_iconst (v := 2) hx hb d_Mod_goOn_317 (by decide) ?_
                                      refine lv_icmp_eq (tgt := 325) hx hb d_Mod_goOn_318 (by decide) (fun h318 => ?_) (fun h318 => ?_)
                                      · refine lv_iconst (v := 0) hx hb d_Mod_goOn_325 (by decide) ?_
                                        refine lv_istore hx hb d_Mod_goOn_326 hl (by decide) rfl (fun ls hl => ?_)
                                        have hl : lv_has ls 10 [(9, .int 0), (8, .int (kd8 (128 * tt + k))), (7, .int (nI k)), (6, .int c8), (4, .int (nI (128 * tt))), (0, .ref h0), (1, .int (nI tt)), (2, .ref (q 48)), (3, .int (nI dd))] := hl
                                        refine lv_iload hx hb d_Mod_goOn_328 (lv_at hl 0 rfl) ?_
                                        refine lv_if_eq (tgt := 347) hx hb d_Mod_goOn_330 (by decide) (fun h330 => ?_) (fun h330 => ?_)
                                        · refine lv_iinc (k := 2) (v := nI (k + 1)) hx hb d_Mod_goOn_347 hl rfl ((nI_succ k).symm) (by decide) rfl (fun ls hl => ?_)
                                          have hl : lv_has ls 10 [(7, .int (nI (k + 1))), (9, .int 0), (8, .int (kd8 (128 * tt + k))), (6, .int c8), (4, .int (nI (128 * tt))), (0, .ref h0), (1, .int (nI tt)), (2, .ref (q 48)), (3, .int (nI dd))] := hl
                                          refine lv_goto (tgt := 246) hx hb d_Mod_goOn_350 (by decide) ?_
                                          have hP : va_P g.1 classes [(h0, .inr (10, mob q rf n mm mb fa fp av ev wi mn tp tc sc nf fd me mp xn mt wh tq ag an ig)), ((q 41), aI g 600 dp), ((q 42), aZ g 600 iw), ((q 43), aI g 76800 kd8), ((q 47), aI g 128 nw), ((q 48), aI g 64 bf)] H := hP.sub [0, 1, 2, 3, 4, 5] rfl
                                          have hD : va_D A [(h0, .inr (10, mob q rf n mm mb fa fp av ev wi mn tp tc sc nf fd me mp xn mt wh tq ag an ig)), ((q 41), aI g 600 dp), ((q 42), aZ g 600 iw), ((q 43), aI g 76800 kd8), ((q 47), aI g 128 nw), ((q 48), aI g 64 bf)] := hD.sub [0, 1, 2, 3, 4, 5] (by decide) rfl
                                          exact ih246 _ (by omega) c8 (k + 1) kd8 ls _ _ rfl (by omega) hKD8 hCN8 (lv_sub hl [0, 3, 4, 5, 6, 7, 8] rfl) hP hD hS
                                        · first | exact absurd h330 (by decide) | exact absurd (by decide) h330
                                      · refine lv_iconst (v := 1) hx hb d_Mod_goOn_321 (by decide) ?_
                                        refine lv_goto (tgt := 326) hx hb d_Mod_goOn_322 (by decide) ?_
                                        refine lv_istore hx hb d_Mod_goOn_326 hl (by decide) rfl (fun ls hl => ?_)
                                        have hl : lv_has ls 10 [(9, .int 1), (8, .int (kd8 (128 * tt + k))), (7, .int (nI k)), (6, .int c8), (4, .int (nI (128 * tt))), (0, .ref h0), (1, .int (nI tt)), (2, .ref (q 48)), (3, .int (nI dd))] := hl
                                        refine lv_iload hx hb d_Mod_goOn_328 (lv_at hl 0 rfl) ?_
                                        refine lv_if_eq (tgt := 347) hx hb d_Mod_goOn_330 (by decide) (fun h330 => ?_) (fun h330 => ?_)
                                        · first | exact absurd h330 (by decide) | exact absurd (by decide) h330
                                        · refine lv_aload_n hx hb d_Mod_goOn_333 rfl (lv_at hl 5 rfl) ?_
                                          refine va_get (D := g.1) (ci := 10) (v := .ref (q 43)) (C := R_Mod) (T := F_Mod) (N := 61) hx hb hts in_Mod hown hK hP 0 rfl rfl 43 (by decide) (hts _ wd_1293) (fun _ h9 => h9) rfl d_Mod_goOn_334 ?_
                                          refine lv_iload hx hb d_Mod_goOn_337 (lv_at hl 4 rfl) ?_
                                          refine lv_iload hx hb d_Mod_goOn_339 (lv_at hl 2 rfl) ?_
                                          refine lv_iadd hx hb d_Mod_goOn_341 ?_
                                          refine tw_ri (e2 := nI (128 * tt + k)) (nI_add _ _) ?_
                                          refine lv_iconst (v := 0) hx hb d_Mod_goOn_342 (by decide) ?_
                                          refine va_iast hx hb hK hP hD hS 3 0 rfl rfl (vp_in_nI (by omega) (by decide)) d_Mod_goOn_343 (fun H locs hP hD hS => ?_)
                                          have hP : va_P g.1 classes [(h0, .inr (10, mob q rf n mm mb fa fp av ev wi mn tp tc sc nf fd me mp xn mt wh tq ag an ig)), ((q 41), aI g 600 dp), ((q 42), aZ g 600 iw), ((q 43), aI g 76800 (upd kd8 (nI (128 * tt + k)).toNatClampNeg 0)), ((q 47), aI g 128 nw), ((q 48), aI g 64 bf)] H := hP
                                          have hD : va_D A [(h0, .inr (10, mob q rf n mm mb fa fp av ev wi mn tp tc sc nf fd me mp xn mt wh tq ag an ig)), ((q 41), aI g 600 dp), ((q 42), aZ g 600 iw), ((q 43), aI g 76800 (upd kd8 (nI (128 * tt + k)).toNatClampNeg 0)), ((q 47), aI g 128 nw), ((q 48), aI g 64 bf)] := hD
                                          have e9 : upd kd8 (nI (128 * tt + k)).toNatClampNeg 0 = upd kd8 (128 * tt + k) 0 := by rw [nI_clamp (by omega)]
                                          rw [e9] at hP hD
                                          refine lv_iconst (v := 1) hx hb d_Mod_goOn_344 (by decide) ?_
                                          refine lv_istore hx hb d_Mod_goOn_345 hl (by decide) rfl (fun ls hl => ?_)
                                          have hl : lv_has ls 10 [(6, .int 1), (9, .int 1), (8, .int (kd8 (128 * tt + k))), (7, .int (nI k)), (4, .int (nI (128 * tt))), (0, .ref h0), (1, .int (nI tt)), (2, .ref (q 48)), (3, .int (nI dd))] := hl
                                          refine lv_iinc (k := 3) (v := nI (k + 1)) hx hb d_Mod_goOn_347 hl rfl ((nI_succ k).symm) (by decide) rfl (fun ls hl => ?_)
                                          have hl : lv_has ls 10 [(7, .int (nI (k + 1))), (6, .int 1), (9, .int 1), (8, .int (kd8 (128 * tt + k))), (4, .int (nI (128 * tt))), (0, .ref h0), (1, .int (nI tt)), (2, .ref (q 48)), (3, .int (nI dd))] := hl
                                          refine lv_goto (tgt := 246) hx hb d_Mod_goOn_350 (by decide) ?_
                                          have hP : va_P g.1 classes [(h0, .inr (10, mob q rf n mm mb fa fp av ev wi mn tp tc sc nf fd me mp xn mt wh tq ag an ig)), ((q 41), aI g 600 dp), ((q 42), aZ g 600 iw), ((q 43), aI g 76800 (upd kd8 (128 * tt + k) 0)), ((q 47), aI g 128 nw), ((q 48), aI g 64 bf)] H := hP.sub [0, 1, 2, 3, 4, 5] rfl
                                          have hD : va_D A [(h0, .inr (10, mob q rf n mm mb fa fp av ev wi mn tp tc sc nf fd me mp xn mt wh tq ag an ig)), ((q 41), aI g 600 dp), ((q 42), aZ g 600 iw), ((q 43), aI g 76800 (upd kd8 (128 * tt + k) 0)), ((q 47), aI g 128 nw), ((q 48), aI g 64 bf)] := hD.sub [0, 1, 2, 3, 4, 5] (by decide) rfl
                                          exact ih246 _ (by omega) 1 (k + 1) (upd kd8 (128 * tt + k) 0) ls _ _ rfl (by omega) (hKD8.put (fun _ => by decide)) (nk_dn hCN8 (by omega) (by omega) (by rw [h297]; decide)) (lv_sub hl [0, 1, 4, 5, 6, 7, 8] rfl) hP hD hS
                      exact loop246 _ c9 0 kd9 ls _ _ rfl (Nat.zero_le _) hKD hCN (lv_sub hl [0, 1, 3, 4, 5, 6, 7] rfl) hP hD hS
                    · have h190 := tn_nle (a := 64) h190 (by decide) (by omega)
                      refine lv_aload_n hx hb d_Mod_goOn_193 rfl (lv_at hl 4 rfl) ?_
                      refine va_get (D := g.1) (ci := 10) (v := .ref (q 43)) (C := R_Mod) (T := F_Mod) (N := 61) hx hb hts in_Mod hown hK hP 0 rfl rfl 43 (by decide) (hts _ wd_1293) (fun _ h9 => h9) rfl d_Mod_goOn_194 ?_
                      refine lv_iload hx hb d_Mod_goOn_197 (lv_at hl 3 rfl) ?_
                      refine lv_iload hx hb d_Mod_goOn_199 (lv_at hl 0 rfl) ?_
                      refine lv_iadd hx hb d_Mod_goOn_201 ?_
                      refine tw_ri (e2 := nI (128 * tt + k)) (nI_add _ _) ?_
                      refine va_iald hx hb hK hP 3 0 rfl rfl (vp_in_nI (by omega) (by decide)) d_Mod_goOn_202 ?_
                      refine tw_ri (e2 := kd9 (128 * tt + k)) (by rw [nI_clamp (by omega)]) ?_
                      refine lv_aload_n hx hb d_Mod_goOn_203 rfl (lv_at hl 6 rfl) ?_
                      refine lv_iload hx hb d_Mod_goOn_204 (lv_at hl 0 rfl) ?_
                      refine va_iald hx hb hK hP 5 0 rfl rfl (vp_in_nI (by omega) (by decide)) d_Mod_goOn_206 ?_
                      refine tw_ri (e2 := bf k) (by rw [nI_clamp (by omega)]) ?_
                      refine lv_icmp_eq (tgt := 237) hx hb d_Mod_goOn_207 (by decide) (fun h207 => ?_) (fun h207 => ?_)
                      · refine lv_iinc (k := 0) (v := nI (k + 1)) hx hb d_Mod_goOn_237 hl rfl ((nI_succ k).symm) (by decide) rfl (fun ls hl => ?_)
                        have hl : lv_has ls 10 [(7, .int (nI (k + 1))), (6, .int c9), (5, .int s9), (4, .int (nI (128 * tt))), (0, .ref h0), (1, .int (nI tt)), (2, .ref (q 48)), (3, .int (nI dd))] := hl
                        refine lv_goto (tgt := 186) hx hb d_Mod_goOn_240 (by decide) ?_
                        have hP : va_P g.1 classes [(h0, .inr (10, mob q rf n mm mb fa fp av ev wi mn tp tc sc nf fd me mp xn mt wh tq ag an ig)), ((q 41), aI g 600 dp), ((q 42), aZ g 600 iw), ((q 43), aI g 76800 kd9), ((q 47), aI g 128 nw), ((q 48), aI g 64 bf)] H := hP.sub [0, 1, 2, 3, 4, 5] rfl
                        have hD : va_D A [(h0, .inr (10, mob q rf n mm mb fa fp av ev wi mn tp tc sc nf fd me mp xn mt wh tq ag an ig)), ((q 41), aI g 600 dp), ((q 42), aZ g 600 iw), ((q 43), aI g 76800 kd9), ((q 47), aI g 128 nw), ((q 48), aI g 64 bf)] := hD.sub [0, 1, 2, 3, 4, 5] (by decide) rfl
                        exact ih186 _ (by omega) c9 (k + 1) kd9 ls _ _ rfl (by omega) hKD hCN (lv_sub hl [0, 1, 2, 3, 4, 5, 6, 7] rfl) hP hD hS
                      · refine lv_aload_n hx hb d_Mod_goOn_210 rfl (lv_at hl 4 rfl) ?_
                        refine va_get (D := g.1) (ci := 10) (v := .ref (q 43)) (C := R_Mod) (T := F_Mod) (N := 61) hx hb hts in_Mod hown hK hP 0 rfl rfl 43 (by decide) (hts _ wd_1293) (fun _ h9 => h9) rfl d_Mod_goOn_211 ?_
                        refine lv_iload hx hb d_Mod_goOn_214 (lv_at hl 3 rfl) ?_
                        refine lv_iload hx hb d_Mod_goOn_216 (lv_at hl 0 rfl) ?_
                        refine lv_iadd hx hb d_Mod_goOn_218 ?_
                        refine tw_ri (e2 := nI (128 * tt + k)) (nI_add _ _) ?_
                        refine va_iald hx hb hK hP 3 0 rfl rfl (vp_in_nI (by omega) (by decide)) d_Mod_goOn_219 ?_
                        refine tw_ri (e2 := kd9 (128 * tt + k)) (by rw [nI_clamp (by omega)]) ?_
                        refine lv_if_eq (tgt := 237) hx hb d_Mod_goOn_220 (by decide) (fun h220 => ?_) (fun h220 => ?_)
                        · refine lv_iinc (k := 0) (v := nI (k + 1)) hx hb d_Mod_goOn_237 hl rfl ((nI_succ k).symm) (by decide) rfl (fun ls hl => ?_)
                          have hl : lv_has ls 10 [(7, .int (nI (k + 1))), (6, .int c9), (5, .int s9), (4, .int (nI (128 * tt))), (0, .ref h0), (1, .int (nI tt)), (2, .ref (q 48)), (3, .int (nI dd))] := hl
                          refine lv_goto (tgt := 186) hx hb d_Mod_goOn_240 (by decide) ?_
                          have hP : va_P g.1 classes [(h0, .inr (10, mob q rf n mm mb fa fp av ev wi mn tp tc sc nf fd me mp xn mt wh tq ag an ig)), ((q 41), aI g 600 dp), ((q 42), aZ g 600 iw), ((q 43), aI g 76800 kd9), ((q 47), aI g 128 nw), ((q 48), aI g 64 bf)] H := hP.sub [0, 1, 2, 3, 4, 5] rfl
                          have hD : va_D A [(h0, .inr (10, mob q rf n mm mb fa fp av ev wi mn tp tc sc nf fd me mp xn mt wh tq ag an ig)), ((q 41), aI g 600 dp), ((q 42), aZ g 600 iw), ((q 43), aI g 76800 kd9), ((q 47), aI g 128 nw), ((q 48), aI g 64 bf)] := hD.sub [0, 1, 2, 3, 4, 5] (by decide) rfl
                          exact ih186 _ (by omega) c9 (k + 1) kd9 ls _ _ rfl (by omega) hKD hCN (lv_sub hl [0, 1, 2, 3, 4, 5, 6, 7] rfl) hP hD hS
                        · refine lv_aload_n hx hb d_Mod_goOn_223 rfl (lv_at hl 4 rfl) ?_
                          refine va_get (D := g.1) (ci := 10) (v := .ref (q 43)) (C := R_Mod) (T := F_Mod) (N := 61) hx hb hts in_Mod hown hK hP 0 rfl rfl 43 (by decide) (hts _ wd_1293) (fun _ h9 => h9) rfl d_Mod_goOn_224 ?_
                          refine lv_iload hx hb d_Mod_goOn_227 (lv_at hl 3 rfl) ?_
                          refine lv_iload hx hb d_Mod_goOn_229 (lv_at hl 0 rfl) ?_
                          refine lv_iadd hx hb d_Mod_goOn_231 ?_
                          refine tw_ri (e2 := nI (128 * tt + k)) (nI_add _ _) ?_
                          refine lv_iconst (v := 0) hx hb d_Mod_goOn_232 (by decide) ?_
                          refine va_iast hx hb hK hP hD hS 3 0 rfl rfl (vp_in_nI (by omega) (by decide)) d_Mod_goOn_233 (fun H locs hP hD hS => ?_)
                          have hP : va_P g.1 classes [(h0, .inr (10, mob q rf n mm mb fa fp av ev wi mn tp tc sc nf fd me mp xn mt wh tq ag an ig)), ((q 41), aI g 600 dp), ((q 42), aZ g 600 iw), ((q 43), aI g 76800 (upd kd9 (nI (128 * tt + k)).toNatClampNeg 0)), ((q 47), aI g 128 nw), ((q 48), aI g 64 bf)] H := hP
                          have hD : va_D A [(h0, .inr (10, mob q rf n mm mb fa fp av ev wi mn tp tc sc nf fd me mp xn mt wh tq ag an ig)), ((q 41), aI g 600 dp), ((q 42), aZ g 600 iw), ((q 43), aI g 76800 (upd kd9 (nI (128 * tt + k)).toNatClampNeg 0)), ((q 47), aI g 128 nw), ((q 48), aI g 64 bf)] := hD
                          have e9 : upd kd9 (nI (128 * tt + k)).toNatClampNeg 0 = upd kd9 (128 * tt + k) 0 := by rw [nI_clamp (by omega)]
                          rw [e9] at hP hD
                          refine lv_iconst (v := 1) hx hb d_Mod_goOn_234 (by decide) ?_
                          refine lv_istore hx hb d_Mod_goOn_235 hl (by decide) rfl (fun ls hl => ?_)
                          have hl : lv_has ls 10 [(6, .int 1), (7, .int (nI k)), (5, .int s9), (4, .int (nI (128 * tt))), (0, .ref h0), (1, .int (nI tt)), (2, .ref (q 48)), (3, .int (nI dd))] := hl
                          refine lv_iinc (k := 1) (v := nI (k + 1)) hx hb d_Mod_goOn_237 hl rfl ((nI_succ k).symm) (by decide) rfl (fun ls hl => ?_)
                          have hl : lv_has ls 10 [(7, .int (nI (k + 1))), (6, .int 1), (5, .int s9), (4, .int (nI (128 * tt))), (0, .ref h0), (1, .int (nI tt)), (2, .ref (q 48)), (3, .int (nI dd))] := hl
                          refine lv_goto (tgt := 186) hx hb d_Mod_goOn_240 (by decide) ?_
                          have hP : va_P g.1 classes [(h0, .inr (10, mob q rf n mm mb fa fp av ev wi mn tp tc sc nf fd me mp xn mt wh tq ag an ig)), ((q 41), aI g 600 dp), ((q 42), aZ g 600 iw), ((q 43), aI g 76800 (upd kd9 (128 * tt + k) 0)), ((q 47), aI g 128 nw), ((q 48), aI g 64 bf)] H := hP.sub [0, 1, 2, 3, 4, 5] rfl
                          have hD : va_D A [(h0, .inr (10, mob q rf n mm mb fa fp av ev wi mn tp tc sc nf fd me mp xn mt wh tq ag an ig)), ((q 41), aI g 600 dp), ((q 42), aZ g 600 iw), ((q 43), aI g 76800 (upd kd9 (128 * tt + k) 0)), ((q 47), aI g 128 nw), ((q 48), aI g 64 bf)] := hD.sub [0, 1, 2, 3, 4, 5] (by decide) rfl
                          exact ih186 _ (by omega) 1 (k + 1) (upd kd9 (128 * tt + k) 0) ls _ _ rfl (by omega) (hKD.put (fun _ => by decide)) (nk_dn hCN (by omega) (by omega) h220) (lv_sub hl [0, 1, 2, 3, 4, 5, 6, 7] rfl) hP hD hS
                exact loop186 _ 0 0 kd ls _ _ rfl (Nat.zero_le _) hFR.2.2 (Or.inl ⟨rfl, rfl⟩) (hl) hP hD hS
              · exact absurd h166 h116
            · have h122 := tn_nle h122 (by omega) (by omega)
              refine lv_aload_n hx hb d_Mod_goOn_125 rfl (lv_at hl 3 rfl) ?_
              refine va_get (D := g.1) (ci := 10) (v := .ref (q 43)) (C := R_Mod) (T := F_Mod) (N := 61) hx hb hts in_Mod hown hK hP 0 rfl rfl 43 (by decide) (hts _ wd_1293) (fun _ h9 => h9) rfl d_Mod_goOn_126 ?_
              refine lv_iload hx hb d_Mod_goOn_129 (lv_at hl 2 rfl) ?_
              refine lv_bipush (v := 64) hx hb d_Mod_goOn_131 (by decide) ?_
              refine lv_iadd hx hb d_Mod_goOn_133 ?_
              refine tw_ri (e2 := nI (128 * tt + 64)) (nI_add _ 64) ?_
              refine lv_iload hx hb d_Mod_goOn_134 (lv_at hl 0 rfl) ?_
              refine lv_iadd hx hb d_Mod_goOn_136 ?_
              refine tw_ri (e2 := nI (128 * tt + 64 + k)) (nI_add _ _) ?_
              refine va_iald hx hb hK hP 3 0 rfl rfl (vp_in_nI (by omega) (by decide)) d_Mod_goOn_137 ?_
              obtain ⟨x6, ex6⟩ : ∃ z : Int32, kd ((nI (128 * tt + 64 + k)).toNatClampNeg) = z := ⟨_, rfl⟩
              refine tw_ri (e2 := x6) ex6 ?_
              refine lv_aload_n hx hb d_Mod_goOn_138 rfl (lv_at hl 3 rfl) ?_
              refine va_get (D := g.1) (ci := 10) (v := .ref (q 47)) (C := R_Mod) (T := F_Mod) (N := 61) hx hb hts in_Mod hown hK hP 0 rfl rfl 47 (by decide) (hts _ wd_1297) (fun _ h9 => h9) rfl d_Mod_goOn_139 ?_
              refine lv_bipush (v := 64) hx hb d_Mod_goOn_142 (by decide) ?_
              refine lv_iload hx hb d_Mod_goOn_144 (lv_at hl 0 rfl) ?_
              refine lv_iadd hx hb d_Mod_goOn_146 ?_
              refine tw_ri (e2 := nI (64 + k)) (nI_add 64 k) ?_
              refine va_iald hx hb hK hP 4 0 rfl rfl (vp_in_nI (by omega) (by decide)) d_Mod_goOn_147 ?_
              obtain ⟨x7, ex7⟩ : ∃ z : Int32, nw ((nI (64 + k)).toNatClampNeg) = z := ⟨_, rfl⟩
              refine tw_ri (e2 := x7) ex7 ?_
              refine lv_icmp_ne (tgt := 155) hx hb d_Mod_goOn_148 (by decide) (fun h148 => ?_) (fun h148 => ?_)
              · refine lv_iconst (v := 0) hx hb d_Mod_goOn_155 (by decide) ?_
                refine lv_istore hx hb d_Mod_goOn_156 hl (by decide) rfl (fun ls hl => ?_)
                have hl : lv_has ls 10 [(5, .int 0), (6, .int (nI k)), (4, .int (nI (128 * tt))), (0, .ref h0), (1, .int (nI tt)), (2, .ref (q 48)), (3, .int (nI dd))] := hl
                refine lv_iinc (k := 1) (v := nI (k + 1)) hx hb d_Mod_goOn_158 hl rfl ((nI_succ k).symm) (by decide) rfl (fun ls hl => ?_)
                have hl : lv_has ls 10 [(6, .int (nI (k + 1))), (5, .int 0), (4, .int (nI (128 * tt))), (0, .ref h0), (1, .int (nI tt)), (2, .ref (q 48)), (3, .int (nI dd))] := hl
                refine lv_goto (tgt := 114) hx hb d_Mod_goOn_161 (by decide) ?_
                have hP : va_P g.1 classes [(h0, .inr (10, mob q rf n mm mb fa fp av ev wi mn tp tc sc nf fd me mp xn mt wh tq ag an ig)), ((q 41), aI g 600 dp), ((q 42), aZ g 600 iw), ((q 43), aI g 76800 kd), ((q 47), aI g 128 nw), ((q 48), aI g 64 bf)] H := hP.sub [0, 1, 2, 3, 4, 5] rfl
                have hD : va_D A [(h0, .inr (10, mob q rf n mm mb fa fp av ev wi mn tp tc sc nf fd me mp xn mt wh tq ag an ig)), ((q 41), aI g 600 dp), ((q 42), aZ g 600 iw), ((q 43), aI g 76800 kd), ((q 47), aI g 128 nw), ((q 48), aI g 64 bf)] := hD.sub [0, 1, 2, 3, 4, 5] (by decide) rfl
                exact ih _ (by omega) 0 (k + 1) ls _ _ rfl (by omega) (lv_sub hl [0, 1, 2, 3, 4, 5, 6] rfl) hP hD hS
              · refine lv_iconst (v := 1) hx hb d_Mod_goOn_151 (by decide) ?_
                refine lv_goto (tgt := 156) hx hb d_Mod_goOn_152 (by decide) ?_
                refine lv_istore hx hb d_Mod_goOn_156 hl (by decide) rfl (fun ls hl => ?_)
                have hl : lv_has ls 10 [(5, .int 1), (6, .int (nI k)), (4, .int (nI (128 * tt))), (0, .ref h0), (1, .int (nI tt)), (2, .ref (q 48)), (3, .int (nI dd))] := hl
                refine lv_iinc (k := 1) (v := nI (k + 1)) hx hb d_Mod_goOn_158 hl rfl ((nI_succ k).symm) (by decide) rfl (fun ls hl => ?_)
                have hl : lv_has ls 10 [(6, .int (nI (k + 1))), (5, .int 1), (4, .int (nI (128 * tt))), (0, .ref h0), (1, .int (nI tt)), (2, .ref (q 48)), (3, .int (nI dd))] := hl
                refine lv_goto (tgt := 114) hx hb d_Mod_goOn_161 (by decide) ?_
                have hP : va_P g.1 classes [(h0, .inr (10, mob q rf n mm mb fa fp av ev wi mn tp tc sc nf fd me mp xn mt wh tq ag an ig)), ((q 41), aI g 600 dp), ((q 42), aZ g 600 iw), ((q 43), aI g 76800 kd), ((q 47), aI g 128 nw), ((q 48), aI g 64 bf)] H := hP.sub [0, 1, 2, 3, 4, 5] rfl
                have hD : va_D A [(h0, .inr (10, mob q rf n mm mb fa fp av ev wi mn tp tc sc nf fd me mp xn mt wh tq ag an ig)), ((q 41), aI g 600 dp), ((q 42), aZ g 600 iw), ((q 43), aI g 76800 kd), ((q 47), aI g 128 nw), ((q 48), aI g 64 bf)] := hD.sub [0, 1, 2, 3, 4, 5] (by decide) rfl
                exact ih _ (by omega) 1 (k + 1) ls _ _ rfl (by omega) (lv_sub hl [0, 1, 2, 3, 4, 5, 6] rfl) hP hD hS
      exact loop114 _ 0 0 ls _ _ rfl (Nat.zero_le _) (hl) hP hD hS
    · refine lv_iconst (v := 1) hx hb d_Mod_goOn_104 (by decide) ?_
      refine lv_goto (tgt := 109) hx hb d_Mod_goOn_105 (by decide) ?_
      refine lv_istore hx hb d_Mod_goOn_109 hl (by decide) rfl (fun ls hl => ?_)
      have hl : lv_has ls 10 [(5, .int 1), (4, .int (nI (128 * tt))), (0, .ref h0), (1, .int (nI tt)), (2, .ref (q 48)), (3, .int (nI dd))] := hl
      refine lv_iconst (v := 0) hx hb d_Mod_goOn_111 (by decide) ?_
      refine lv_istore hx hb d_Mod_goOn_112 hl (by decide) rfl (fun ls hl => ?_)
      have hl : lv_has ls 10 [(6, .int 0), (5, .int 1), (4, .int (nI (128 * tt))), (0, .ref h0), (1, .int (nI tt)), (2, .ref (q 48)), (3, .int (nI dd))] := hl
      have loop114 : ∀ (kq : Nat) (s9 : Int32) (k : Nat) (ls : Array Slot) (H : Heap) (locs : List Loc) , dd - k = kq → (hkd : k ≤ dd) → lv_has ls 10 [(6, .int (nI k)), (5, .int s9), (4, .int (nI (128 * tt))), (0, .ref h0), (1, .int (nI tt)), (2, .ref (q 48)), (3, .int (nI dd))] → va_P g.1 classes [(h0, .inr (10, mob q rf n mm mb fa fp av ev wi mn tp tc sc nf fd me mp xn mt wh tq ag an ig)), ((q 41), aI g 600 dp), ((q 42), aZ g 600 iw), ((q 43), aI g 76800 kd), ((q 47), aI g 128 nw), ((q 48), aI g 64 bf)] H → va_D A [(h0, .inr (10, mob q rf n mm mb fa fp av ev wi mn tp tc sc nf fd me mp xn mt wh tq ag an ig)), ((q 41), aI g 600 dp), ((q 42), aZ g 600 iw), ((q 43), aI g 76800 kd), ((q 47), aI g 128 nw), ((q 48), aI g 64 bf)] → va_S A s.heap H locs → W p l e ({ frames := 1, cells := 0, slots := 0, locals := 22 }) s m [.ref h0, .int (nI tt), .ref (q 48), .int (nI dd)].toArray below meth c H locs 0 0 (MQ below (tw_Qv g (fun (u : Int32 × Int32 × (Nat → Int32) × (Nat → Int32) × (Nat → Int32)) => (u.1 = 0 → fa = 0) ∧ (FRG u.2.2.1 u.2.2.2.1 u.2.2.2.2) ∧ (MU u.2.2.1 u.2.2.2.1 u.2.2.2.2 ≤ MU dp iw kd)) (fun u : Int32 × Int32 × (Nat → Int32) × (Nat → Int32) × (Nat → Int32) => [(h0, .inr (10, mob q rf n mm mb u.1 u.2.1 av ev wi mn tp tc sc nf fd me mp xn mt wh tq ag an ig)), ((q 41), aI g 600 u.2.2.1), ((q 42), aZ g 600 u.2.2.2.1), ((q 43), aI g 76800 u.2.2.2.2), ((q 47), aI g 128 nw), ((q 48), aI g 64 bf)]) A) [.ref h0, .int (nI tt), .ref (q 48), .int (nI dd)].toArray s 0 0 A) (F0 m 114 ls []) := by
        intro kq
        induction kq using Nat.strongRecOn with
        | _ kq ih =>
          intro s9 k ls H locs hk hkd hl hP hD hS
          refine lv_iload hx hb d_Mod_goOn_114 (lv_at hl 1 rfl) ?_
          refine lv_if_eq (tgt := 164) hx hb d_Mod_goOn_116 (by decide) (fun h116 => ?_) (fun h116 => ?_)
          · refine lv_iload hx hb d_Mod_goOn_164 (lv_at hl 1 rfl) ?_
            refine lv_if_ne (tgt := 180) hx hb d_Mod_goOn_166 (by decide) (fun h166 => ?_) (fun h166 => ?_)
            · exact absurd h116 h166
            · refine lv_aload_n hx hb d_Mod_goOn_169 rfl (lv_at hl 3 rfl) ?_
              refine lv_bipush (v := 25) hx hb d_Mod_goOn_170 (by decide) ?_
              refine lv_aload_n hx hb d_Mod_goOn_172 rfl (lv_at hl 3 rfl) ?_
              refine va_get (D := g.1) (ci := 10) (v := .int (nI wh)) (C := R_Mod) (T := F_Mod) (N := 61) hx hb hts in_Mod hown hK hP 0 rfl rfl 45 (by decide) (hts _ wd_1295) (fun _ h9 => h9) rfl d_Mod_goOn_173 ?_
              refine tw_wv (wr := [((q 41), aI g 600 dp), ((q 42), aZ g 600 iw), ((q 43), aI g 76800 kd), ((q 47), aI g 128 nw), ((q 48), aI g 64 bf)]) (tw_runV (ws := [(h0, .inr (10, mob q rf n mm mb fa fp av ev wi mn tp tc sc nf fd me mp xn mt wh tq ag an ig)), ((q 41), aI g 600 dp), ((q 42), aZ g 600 iw), ((q 43), aI g 76800 kd), ((q 47), aI g 128 nw), ((q 48), aI g 64 bf)]) (wc := [(h0, .inr (10, mob q rf n mm mb fa fp av ev wi mn tp tc sc nf fd me mp xn mt wh tq ag an ig))]) (As := [.int 25, .int (nI wh)]) (rest := []) E hB hK hZ (g_Mod_fail l g H.size h0 q rf n mm mb av ev wi mn tp tc sc nf fd me mp xn mt wh tq ag an ig fa fp 25 (nI wh) (by decide)) mc_Mod_fail mi_Mod_fail me_Mod_fail wd_1478 hP hD hS hA [0] rfl (by decide) 0 rfl rfl rfl rfl rfl (by decide) rfl hl.1 rfl (Nat.le_of_ble_eq_true rfl) (by decide) d_Mod_goOn_176) hP hD hS hA [0] [1, 2, 3, 4, 5] rfl rfl (by decide) (by decide) (fun u9 H locs hr8 hP hD hS => ?_)
              try dsimp only at hr8
              have hP : va_P g.1 classes [((q 41), aI g 600 dp), ((q 42), aZ g 600 iw), ((q 43), aI g 76800 kd), ((q 47), aI g 128 nw), ((q 48), aI g 64 bf), (h0, .inr (10, mob q rf n mm mb u9.1 u9.2 av ev wi mn tp tc sc nf fd me mp xn mt wh tq ag an ig))] H := hP
              have hD : va_D A [((q 41), aI g 600 dp), ((q 42), aZ g 600 iw), ((q 43), aI g 76800 kd), ((q 47), aI g 128 nw), ((q 48), aI g 64 bf), (h0, .inr (10, mob q rf n mm mb u9.1 u9.2 av ev wi mn tp tc sc nf fd me mp xn mt wh tq ag an ig))] := hD
              have hP : va_P g.1 classes [(h0, .inr (10, mob q rf n mm mb u9.1 u9.2 av ev wi mn tp tc sc nf fd me mp xn mt wh tq ag an ig)), ((q 41), aI g 600 dp), ((q 42), aZ g 600 iw), ((q 43), aI g 76800 kd), ((q 47), aI g 128 nw), ((q 48), aI g 64 bf)] H := hP.sub [5, 0, 1, 2, 3, 4] rfl
              have hD : va_D A [(h0, .inr (10, mob q rf n mm mb u9.1 u9.2 av ev wi mn tp tc sc nf fd me mp xn mt wh tq ag an ig)), ((q 41), aI g 600 dp), ((q 42), aZ g 600 iw), ((q 43), aI g 76800 kd), ((q 47), aI g 128 nw), ((q 48), aI g 64 bf)] := hD.sub [5, 0, 1, 2, 3, 4] (by decide) rfl
              have hp9_0 := hr8
              exact tw_vret E hS (u9.1, u9.2, dp, iw, kd) (⟨(fun h => absurd h hp9_0), hFR, (Nat.le_refl _)⟩) hP hD d_Mod_goOn_179
          · refine lv_iload hx hb d_Mod_goOn_119 (lv_at hl 0 rfl) ?_
            refine lv_iload_n hx hb d_Mod_goOn_121 rfl (lv_at hl 6 rfl) ?_
            refine lv_icmp_ge (tgt := 164) hx hb d_Mod_goOn_122 (by decide) (fun h122 => ?_) (fun h122 => ?_)
            · refine lv_iload hx hb d_Mod_goOn_164 (lv_at hl 1 rfl) ?_
              refine lv_if_ne (tgt := 180) hx hb d_Mod_goOn_166 (by decide) (fun h166 => ?_) (fun h166 => ?_)
              · refine lv_iconst (v := 0) hx hb d_Mod_goOn_180 (by decide) ?_
                refine lv_istore hx hb d_Mod_goOn_181 hl (by decide) rfl (fun ls hl => ?_)
                have hl : lv_has ls 10 [(6, .int 0), (5, .int s9), (4, .int (nI (128 * tt))), (0, .ref h0), (1, .int (nI tt)), (2, .ref (q 48)), (3, .int (nI dd))] := hl
                refine lv_iconst (v := 0) hx hb d_Mod_goOn_183 (by decide) ?_
                refine lv_istore hx hb d_Mod_goOn_184 hl (by decide) rfl (fun ls hl => ?_)
                have hl : lv_has ls 10 [(7, .int 0), (6, .int 0), (5, .int s9), (4, .int (nI (128 * tt))), (0, .ref h0), (1, .int (nI tt)), (2, .ref (q 48)), (3, .int (nI dd))] := hl
                have loop186 : ∀ (kq : Nat) (c9 : Int32) (k : Nat) (kd9 : Nat → Int32) (ls : Array Slot) (H : Heap) (locs : List Loc) , 64 - k = kq → (hk4 : k ≤ 64) → (hKD : KD3 kd9) → (hCN : CHN c9 (NK kd9) (NK kd)) → lv_has ls 10 [(7, .int (nI k)), (6, .int c9), (5, .int s9), (4, .int (nI (128 * tt))), (0, .ref h0), (1, .int (nI tt)), (2, .ref (q 48)), (3, .int (nI dd))] → va_P g.1 classes [(h0, .inr (10, mob q rf n mm mb fa fp av ev wi mn tp tc sc nf fd me mp xn mt wh tq ag an ig)), ((q 41), aI g 600 dp), ((q 42), aZ g 600 iw), ((q 43), aI g 76800 kd9), ((q 47), aI g 128 nw), ((q 48), aI g 64 bf)] H → va_D A [(h0, .inr (10, mob q rf n mm mb fa fp av ev wi mn tp tc sc nf fd me mp xn mt wh tq ag an ig)), ((q 41), aI g 600 dp), ((q 42), aZ g 600 iw), ((q 43), aI g 76800 kd9), ((q 47), aI g 128 nw), ((q 48), aI g 64 bf)] → va_S A s.heap H locs → W p l e ({ frames := 1, cells := 0, slots := 0, locals := 22 }) s m [.ref h0, .int (nI tt), .ref (q 48), .int (nI dd)].toArray below meth c H locs 0 0 (MQ below (tw_Qv g (fun (u : Int32 × Int32 × (Nat → Int32) × (Nat → Int32) × (Nat → Int32)) => (u.1 = 0 → fa = 0) ∧ (FRG u.2.2.1 u.2.2.2.1 u.2.2.2.2) ∧ (MU u.2.2.1 u.2.2.2.1 u.2.2.2.2 ≤ MU dp iw kd)) (fun u : Int32 × Int32 × (Nat → Int32) × (Nat → Int32) × (Nat → Int32) => [(h0, .inr (10, mob q rf n mm mb u.1 u.2.1 av ev wi mn tp tc sc nf fd me mp xn mt wh tq ag an ig)), ((q 41), aI g 600 u.2.2.1), ((q 42), aZ g 600 u.2.2.2.1), ((q 43), aI g 76800 u.2.2.2.2), ((q 47), aI g 128 nw), ((q 48), aI g 64 bf)]) A) [.ref h0, .int (nI tt), .ref (q 48), .int (nI dd)].toArray s 0 0 A) (F0 m 186 ls []) := by
                  intro kq
                  induction kq using Nat.strongRecOn with
                  | _ kq ih186 =>
                    intro c9 k kd9 ls H locs hk186 hk4 hKD hCN hl hP hD hS
                    refine lv_iload hx hb d_Mod_goOn_186 (lv_at hl 0 rfl) ?_
                    refine lv_bipush (v := 64) hx hb d_Mod_goOn_188 (by decide) ?_
                    refine lv_icmp_ge (tgt := 243) hx hb d_Mod_goOn_190 (by decide) (fun h190 => ?_) (fun h190 => ?_)
                    · have h190 := tn_le (a := 64) h190 (by decide) (by omega)
                      refine lv_iconst (v := 0) hx hb d_Mod_goOn_243 (by decide) ?_
                      refine lv_istore hx hb d_Mod_goOn_244 hl (by decide) rfl (fun ls hl => ?_)
                      have hl : lv_has ls 10 [(7, .int 0), (6, .int c9), (5, .int s9), (4, .int (nI (128 * tt))), (0, .ref h0), (1, .int (nI tt)), (2, .ref (q 48)), (3, .int (nI dd))] := hl
                      have loop246 : ∀ (kq : Nat) (c8 : Int32) (k : Nat) (kd8 : Nat → Int32) (ls : Array Slot) (H : Heap) (locs : List Loc) , 64 - k = kq → (hk48 : k ≤ 64) → (hKD8 : KD3 kd8) → (hCN8 : CHN c8 (NK kd8) (NK kd)) → lv_has ls 10 [(7, .int (nI k)), (6, .int c8), (4, .int (nI (128 * tt))), (0, .ref h0), (1, .int (nI tt)), (2, .ref (q 48)), (3, .int (nI dd))] → va_P g.1 classes [(h0, .inr (10, mob q rf n mm mb fa fp av ev wi mn tp tc sc nf fd me mp xn mt wh tq ag an ig)), ((q 41), aI g 600 dp), ((q 42), aZ g 600 iw), ((q 43), aI g 76800 kd8), ((q 47), aI g 128 nw), ((q 48), aI g 64 bf)] H → va_D A [(h0, .inr (10, mob q rf n mm mb fa fp av ev wi mn tp tc sc nf fd me mp xn mt wh tq ag an ig)), ((q 41), aI g 600 dp), ((q 42), aZ g 600 iw), ((q 43), aI g 76800 kd8), ((q 47), aI g 128 nw), ((q 48), aI g 64 bf)] → va_S A s.heap H locs → W p l e ({ frames := 1, cells := 0, slots := 0, locals := 22 }) s m [.ref h0, .int (nI tt), .ref (q 48), .int (nI dd)].toArray below meth c H locs 0 0 (MQ below (tw_Qv g (fun (u : Int32 × Int32 × (Nat → Int32) × (Nat → Int32) × (Nat → Int32)) => (u.1 = 0 → fa = 0) ∧ (FRG u.2.2.1 u.2.2.2.1 u.2.2.2.2) ∧ (MU u.2.2.1 u.2.2.2.1 u.2.2.2.2 ≤ MU dp iw kd)) (fun u : Int32 × Int32 × (Nat → Int32) × (Nat → Int32) × (Nat → Int32) => [(h0, .inr (10, mob q rf n mm mb u.1 u.2.1 av ev wi mn tp tc sc nf fd me mp xn mt wh tq ag an ig)), ((q 41), aI g 600 u.2.2.1), ((q 42), aZ g 600 u.2.2.2.1), ((q 43), aI g 76800 u.2.2.2.2), ((q 47), aI g 128 nw), ((q 48), aI g 64 bf)]) A) [.ref h0, .int (nI tt), .ref (q 48), .int (nI dd)].toArray s 0 0 A) (F0 m 246 ls []) := by
                        intro kq
                        induction kq using Nat.strongRecOn with
                        | _ kq ih246 =>
                          intro c8 k kd8 ls H locs hk246 hk48 hKD8 hCN8 hl hP hD hS
                          refine lv_iload hx hb d_Mod_goOn_246 (lv_at hl 0 rfl) ?_
                          refine lv_bipush (v := 64) hx hb d_Mod_goOn_248 (by decide) ?_
                          refine lv_icmp_ge (tgt := 353) hx hb d_Mod_goOn_250 (by decide) (fun h250 => ?_) (fun h250 => ?_)
                          · have h250 := tn_le (a := 64) h250 (by decide) (by omega)
                            refine lv_aload_n hx hb d_Mod_goOn_353 rfl (lv_at hl 3 rfl) ?_
                            refine va_get (D := g.1) (ci := 10) (v := .ref (q 42)) (C := R_Mod) (T := F_Mod) (N := 61) hx hb hts in_Mod hown hK hP 0 rfl rfl 42 (by decide) (hts _ wd_1292) (fun _ h9 => h9) rfl d_Mod_goOn_354 ?_
                            refine lv_iload_n hx hb d_Mod_goOn_357 rfl (lv_at hl 4 rfl) ?_
                            refine lv_aload_n hx hb d_Mod_goOn_358 rfl (lv_at hl 3 rfl) ?_
                            refine va_get (D := g.1) (ci := 10) (v := .ref (q 42)) (C := R_Mod) (T := F_Mod) (N := 61) hx hb hts in_Mod hown hK hP 0 rfl rfl 42 (by decide) (hts _ wd_1292) (fun _ h9 => h9) rfl d_Mod_goOn_359 ?_
                            refine lv_iload_n hx hb d_Mod_goOn_362 rfl (lv_at hl 4 rfl) ?_
                            refine va_zald hx hb hK hP 2 3 rfl rfl (vp_in_nI (by omega) (by decide)) d_Mod_goOn_363 ?_
                            refine tw_ri (e2 := iw tt) (by rw [nI_clamp (by omega)]) ?_
                            refine lv_if_ne (tgt := 372) hx hb d_Mod_goOn_364 (by decide) (fun h364 => ?_) (fun h364 => ?_)
                            · refine lv_iconst (v := 1) hx hb d_Mod_goOn_372 (by decide) ?_
                              refine lv_goto (tgt := 377) hx hb d_Mod_goOn_373 (by decide) ?_
                              refine va_zast hx hb hK hP hD hS 2 3 rfl rfl (vp_in_nI (by omega) (by decide)) d_Mod_goOn_377 (fun H locs hP hD hS => ?_)
                              have hP : va_P g.1 classes [(h0, .inr (10, mob q rf n mm mb fa fp av ev wi mn tp tc sc nf fd me mp xn mt wh tq ag an ig)), ((q 41), aI g 600 dp), ((q 42), aZ g 600 (upd iw (nI tt).toNatClampNeg (vp_nar .boolean 1))), ((q 43), aI g 76800 kd8), ((q 47), aI g 128 nw), ((q 48), aI g 64 bf)] H := hP
                              have hD : va_D A [(h0, .inr (10, mob q rf n mm mb fa fp av ev wi mn tp tc sc nf fd me mp xn mt wh tq ag an ig)), ((q 41), aI g 600 dp), ((q 42), aZ g 600 (upd iw (nI tt).toNatClampNeg (vp_nar .boolean 1))), ((q 43), aI g 76800 kd8), ((q 47), aI g 128 nw), ((q 48), aI g 64 bf)] := hD
                              have e9 : upd iw (nI tt).toNatClampNeg (vp_nar .boolean 1) = upd iw tt 1 := by rw [nI_clamp (by omega)]; rfl
                              rw [e9] at hP hD
                              exact tw_vret E hS (fa, fp, dp, upd iw tt 1, kd8) (⟨(fun h => h), (hFR.again h13 hKD8), (mu_keep ht6 (Or.inl ⟨by rw [wC_1 h364]; exact Nat.le_refl _, chn_le hCN8⟩))⟩) hP hD d_Mod_goOn_378
                            · refine lv_iload hx hb d_Mod_goOn_367 (lv_at hl 1 rfl) ?_
                              refine lv_if_eq (tgt := 376) hx hb d_Mod_goOn_369 (by decide) (fun h369 => ?_) (fun h369 => ?_)
                              · refine lv_iconst (v := 0) hx hb d_Mod_goOn_376 (by decide) ?_
                                refine va_zast hx hb hK hP hD hS 2 3 rfl rfl (vp_in_nI (by omega) (by decide)) d_Mod_goOn_377 (fun H locs hP hD hS => ?_)
                                have hP : va_P g.1 classes [(h0, .inr (10, mob q rf n mm mb fa fp av ev wi mn tp tc sc nf fd me mp xn mt wh tq ag an ig)), ((q 41), aI g 600 dp), ((q 42), aZ g 600 (upd iw (nI tt).toNatClampNeg (vp_nar .boolean 0))), ((q 43), aI g 76800 kd8), ((q 47), aI g 128 nw), ((q 48), aI g 64 bf)] H := hP
                                have hD : va_D A [(h0, .inr (10, mob q rf n mm mb fa fp av ev wi mn tp tc sc nf fd me mp xn mt wh tq ag an ig)), ((q 41), aI g 600 dp), ((q 42), aZ g 600 (upd iw (nI tt).toNatClampNeg (vp_nar .boolean 0))), ((q 43), aI g 76800 kd8), ((q 47), aI g 128 nw), ((q 48), aI g 64 bf)] := hD
                                have e9 : upd iw (nI tt).toNatClampNeg (vp_nar .boolean 0) = upd iw tt 0 := by rw [nI_clamp (by omega)]; rfl
                                rw [e9] at hP hD
                                exact tw_vret E hS (fa, fp, dp, upd iw tt 0, kd8) (⟨(fun h => h), (hFR.again h13 hKD8), (mu_keep ht6 (Or.inl ⟨Nat.zero_le _, chn_le hCN8⟩))⟩) hP hD d_Mod_goOn_378
                              · refine lv_iconst (v := 1) hx hb d_Mod_goOn_372 (by decide) ?_
                                refine lv_goto (tgt := 377) hx hb d_Mod_goOn_373 (by decide) ?_
                                refine va_zast hx hb hK hP hD hS 2 3 rfl rfl (vp_in_nI (by omega) (by decide)) d_Mod_goOn_377 (fun H locs hP hD hS => ?_)
                                have hP : va_P g.1 classes [(h0, .inr (10, mob q rf n mm mb fa fp av ev wi mn tp tc sc nf fd me mp xn mt wh tq ag an ig)), ((q 41), aI g 600 dp), ((q 42), aZ g 600 (upd iw (nI tt).toNatClampNeg (vp_nar .boolean 1))), ((q 43), aI g 76800 kd8), ((q 47), aI g 128 nw), ((q 48), aI g 64 bf)] H := hP
                                have hD : va_D A [(h0, .inr (10, mob q rf n mm mb fa fp av ev wi mn tp tc sc nf fd me mp xn mt wh tq ag an ig)), ((q 41), aI g 600 dp), ((q 42), aZ g 600 (upd iw (nI tt).toNatClampNeg (vp_nar .boolean 1))), ((q 43), aI g 76800 kd8), ((q 47), aI g 128 nw), ((q 48), aI g 64 bf)] := hD
                                have e9 : upd iw (nI tt).toNatClampNeg (vp_nar .boolean 1) = upd iw tt 1 := by rw [nI_clamp (by omega)]; rfl
                                rw [e9] at hP hD
                                exact tw_vret E hS (fa, fp, dp, upd iw tt 1, kd8) (⟨(fun h => h), (hFR.again h13 hKD8), (mu_keep ht6 (Or.inr (chn_lt hCN8 h369)))⟩) hP hD d_Mod_goOn_378
                          · have h250 := tn_nle (a := 64) h250 (by decide) (by omega)
                            refine lv_aload_n hx hb d_Mod_goOn_253 rfl (lv_at hl 3 rfl) ?_
                            refine va_get (D := g.1) (ci := 10) (v := .ref (q 43)) (C := R_Mod) (T := F_Mod) (N := 61) hx hb hts in_Mod hown hK hP 0 rfl rfl 43 (by decide) (hts _ wd_1293) (fun _ h9 => h9) rfl d_Mod_goOn_254 ?_
                            refine lv_iload hx hb d_Mod_goOn_257 (lv_at hl 2 rfl) ?_
                            refine lv_iload hx hb d_Mod_goOn_259 (lv_at hl 0 rfl) ?_
                            refine lv_iadd hx hb d_Mod_goOn_261 ?_
                            refine tw_ri (e2 := nI (128 * tt + k)) (nI_add _ _) ?_
                            refine va_iald hx hb hK hP 3 0 rfl rfl (vp_in_nI (by omega) (by decide)) d_Mod_goOn_262 ?_
                            refine tw_ri (e2 := kd8 (128 * tt + k)) (by rw [nI_clamp (by omega)]) ?_
                            refine lv_istore hx hb d_Mod_goOn_263 hl (by decide) rfl (fun ls hl => ?_)
                            have hl : lv_has ls 10 [(8, .int (kd8 (128 * tt + k))), (7, .int (nI k)), (6, .int c8), (4, .int (nI (128 * tt))), (0, .ref h0), (1, .int (nI tt)), (2, .ref (q 48)), (3, .int (nI dd))] := hl
                            refine lv_iload hx hb d_Mod_goOn_265 (lv_at hl 0 rfl) ?_
                            refine lv_iconst (v := 2) hx hb d_Mod_goOn_267 (by decide) ?_
                            refine lv_icmp_ne (tgt := 294) hx hb d_Mod_goOn_268 (by decide) (fun h268 => ?_) (fun h268 => ?_)
                            · refine lv_iload hx hb d_Mod_goOn_294 (lv_at hl 0 rfl) ?_
                              refine lv_iconst (v := 3) hx hb d_Mod_goOn_296 (by decide) ?_
                              refine lv_icmp_ne (tgt := 325) hx hb d_Mod_goOn_297 (by decide) (fun h297 => ?_) (fun h297 => ?_)
                              · refine lv_iconst (v := 0) hx hb d_Mod_goOn_325 (by decide) ?_
                                refine lv_istore hx hb d_Mod_goOn_326 hl (by decide) rfl (fun ls hl => ?_)
                                have hl : lv_has ls 10 [(9, .int 0), (8, .int (kd8 (128 * tt + k))), (7, .int (nI k)), (6, .int c8), (4, .int (nI (128 * tt))), (0, .ref h0), (1, .int (nI tt)), (2, .ref (q 48)), (3, .int (nI dd))] := hl
                                refine lv_iload hx hb d_Mod_goOn_328 (lv_at hl 0 rfl) ?_
                                refine lv_if_eq (tgt := 347) hx hb d_Mod_goOn_330 (by decide) (fun h330 => ?_) (fun h330 => ?_)
                                · refine lv_iinc (k := 2) (v := nI (k + 1)) hx hb d_Mod_goOn_347 hl rfl ((nI_succ k).symm) (by decide) rfl (fun ls hl => ?_)
                                  have hl : lv_has ls 10 [(7, .int (nI (k + 1))), (9, .int 0), (8, .int (kd8 (128 * tt + k))), (6, .int c8), (4, .int (nI (128 * tt))), (0, .ref h0), (1, .int (nI tt)), (2, .ref (q 48)), (3, .int (nI dd))] := hl
                                  refine lv_goto (tgt := 246) hx hb d_Mod_goOn_350 (by decide) ?_
                                  have hP : va_P g.1 classes [(h0, .inr (10, mob q rf n mm mb fa fp av ev wi mn tp tc sc nf fd me mp xn mt wh tq ag an ig)), ((q 41), aI g 600 dp), ((q 42), aZ g 600 iw), ((q 43), aI g 76800 kd8), ((q 47), aI g 128 nw), ((q 48), aI g 64 bf)] H := hP.sub [0, 1, 2, 3, 4, 5] rfl
                                  have hD : va_D A [(h0, .inr (10, mob q rf n mm mb fa fp av ev wi mn tp tc sc nf fd me mp xn mt wh tq ag an ig)), ((q 41), aI g 600 dp), ((q 42), aZ g 600 iw), ((q 43), aI g 76800 kd8), ((q 47), aI g 128 nw), ((q 48), aI g 64 bf)] := hD.sub [0, 1, 2, 3, 4, 5] (by decide) rfl
                                  exact ih246 _ (by omega) c8 (k + 1) kd8 ls _ _ rfl (by omega) hKD8 hCN8 (lv_sub hl [0, 3, 4, 5, 6, 7, 8] rfl) hP hD hS
                                · first | exact absurd h330 (by decide) | exact absurd (by decide) h330
                              · refine lv_iload hx hb d_Mod_goOn_300 (lv_at hl 1 rfl) ?_
                                refine lv_if_eq (tgt := 321) hx hb d_Mod_goOn_302 (by decide) (fun h302 => ?_) (fun h302 => ?_)
                                · refine lv_iconst (v := 1) hx hb d_Mod_goOn_321 (by decide) ?_
                                  refine lv_goto (tgt := 326) hx hb d_Mod_goOn_322 (by decide) ?_
                                  refine lv_istore hx hb d_Mod_goOn_326 hl (by decide) rfl (fun ls hl => ?_)
                                  have hl : lv_has ls 10 [(9, .int 1), (8, .int (kd8 (128 * tt + k))), (7, .int (nI k)), (6, .int c8), (4, .int (nI (128 * tt))), (0, .ref h0), (1, .int (nI tt)), (2, .ref (q 48)), (3, .int (nI dd))] := hl
                                  refine lv_iload hx hb d_Mod_goOn_328 (lv_at hl 0 rfl) ?_
                                  refine lv_if_eq (tgt := 347) hx hb d_Mod_goOn_330 (by decide) (fun h330 => ?_) (fun h330 => ?_)
                                  · first | exact absurd h330 (by decide) | exact absurd (by decide) h330
                                  · refine lv_aload_n hx hb d_Mod_goOn_333 rfl (lv_at hl 5 rfl) ?_
                                    refine va_get (D := g.1) (ci := 10) (v := .ref (q 43)) (C := R_Mod) (T := F_Mod) (N := 61) hx hb hts in_Mod hown hK hP 0 rfl rfl 43 (by decide) (hts _ wd_1293) (fun _ h9 => h9) rfl d_Mod_goOn_334 ?_
                                    refine lv_iload hx hb d_Mod_goOn_337 (lv_at hl 4 rfl) ?_
                                    refine lv_iload hx hb d_Mod_goOn_339 (lv_at hl 2 rfl) ?_
                                    refine lv_iadd hx hb d_Mod_goOn_341 ?_
                                    refine tw_ri (e2 := nI (128 * tt + k)) (nI_add _ _) ?_
                                    refine lv_iconst (v := 0) hx hb d_Mod_goOn_342 (by decide) ?_
                                    refine va_iast hx hb hK hP hD hS 3 0 rfl rfl (vp_in_nI (by omega) (by decide)) d_Mod_goOn_343 (fun H locs hP hD hS => ?_)
                                    have hP : va_P g.1 classes [(h0, .inr (10, mob q rf n mm mb fa fp av ev wi mn tp tc sc nf fd me mp xn mt wh tq ag an ig)), ((q 41), aI g 600 dp), ((q 42), aZ g 600 iw), ((q 43), aI g 76800 (upd kd8 (nI (128 * tt + k)).toNatClampNeg 0)), ((q 47), aI g 128 nw), ((q 48), aI g 64 bf)] H := hP
                                    have hD : va_D A [(h0, .inr (10, mob q rf n mm mb fa fp av ev wi mn tp tc sc nf fd me mp xn mt wh tq ag an ig)), ((q 41), aI g 600 dp), ((q 42), aZ g 600 iw), ((q 43), aI g 76800 (upd kd8 (nI (128 * tt + k)).toNatClampNeg 0)), ((q 47), aI g 128 nw), ((q 48), aI g 64 bf)] := hD
                                    have e9 : upd kd8 (nI (128 * tt + k)).toNatClampNeg 0 = upd kd8 (128 * tt + k) 0 := by rw [nI_clamp (by omega)]
                                    rw [e9] at hP hD
                                    refine lv_iconst (v := 1) hx hb d_Mod_goOn_344 (by decide) ?_
                                    refine lv_istore hx hb d_Mod_goOn_345 hl (by decide) rfl (fun ls hl => ?_)
                                    have hl : lv_has ls 10 [(6, .int 1), (9, .int 1), (8, .int (kd8 (128 * tt + k))), (7, .int (nI k)), (4, .int (nI (128 * tt))), (0, .ref h0), (1, .int (nI tt)), (2, .ref (q 48)), (3, .int (nI dd))] := hl
                                    refine lv_iinc (k := 3) (v := nI (k + 1)) hx hb d_Mod_goOn_347 hl rfl ((nI_succ k).symm) (by decide) rfl (fun ls hl => ?_)
                                    have hl : lv_has ls 10 [(7, .int (nI (k + 1))), (6, .int 1), (9, .int 1), (8, .int (kd8 (128 * tt + k))), (4, .int (nI (128 * tt))), (0, .ref h0), (1, .int (nI tt)), (2, .ref (q 48)), (3, .int (nI dd))] := hl
                                    refine lv_goto (tgt := 246) hx hb d_Mod_goOn_350 (by decide) ?_
                                    have hP : va_P g.1 classes [(h0, .inr (10, mob q rf n mm mb fa fp av ev wi mn tp tc sc nf fd me mp xn mt wh tq ag an ig)), ((q 41), aI g 600 dp), ((q 42), aZ g 600 iw), ((q 43), aI g 76800 (upd kd8 (128 * tt + k) 0)), ((q 47), aI g 128 nw), ((q 48), aI g 64 bf)] H := hP.sub [0, 1, 2, 3, 4, 5] rfl
                                    have hD : va_D A [(h0, .inr (10, mob q rf n mm mb fa fp av ev wi mn tp tc sc nf fd me mp xn mt wh tq ag an ig)), ((q 41), aI g 600 dp), ((q 42), aZ g 600 iw), ((q 43), aI g 76800 (upd kd8 (128 * tt + k) 0)), ((q 47), aI g 128 nw), ((q 48), aI g 64 bf)] := hD.sub [0, 1, 2, 3, 4, 5] (by decide) rfl
                                    exact ih246 _ (by omega) 1 (k + 1) (upd kd8 (128 * tt + k) 0) ls _ _ rfl (by omega) (hKD8.put (fun _ => by decide)) (nk_dn hCN8 (by omega) (by omega) (by rw [h297]; decide)) (lv_sub hl [0, 1, 4, 5, 6, 7, 8] rfl) hP hD hS
                                · have h302 := tn_ne (b := 0) h302
                                  refine lv_aload_n hx hb d_Mod_goOn_305 rfl (lv_at hl 4 rfl) ?_
                                  refine va_get (D := g.1) (ci := 10) (v := .ref (q 43)) (C := R_Mod) (T := F_Mod) (N := 61) hx hb hts in_Mod hown hK hP 0 rfl rfl 43 (by decide) (hts _ wd_1293) (fun _ h9 => h9) rfl d_Mod_goOn_306 ?_
                                  refine lv_iload hx hb d_Mod_goOn_309 (lv_at hl 3 rfl) ?_
                                  refine lv_iload hx hb d_Mod_goOn_311 (lv_at hl 1 rfl) ?_
                                  refine lv_iadd hx hb d_Mod_goOn_313 ?_
                                  refine tw_ri (e2 := nI (128 * tt + k)) (nI_add _ _) ?_
                                  refine lv_iconst (v := 1) hx hb d_Mod_goOn_314 (by decide) ?_
                                  refine lv_isub hx hb d_Mod_goOn_315 ?_
                                  refine tw_ri (e2 := nI (128 * tt + k - 1)) (pk_sub (b := 1) (by omega)) ?_
                                  refine va_iald hx hb hK hP 3 0 rfl rfl (vp_in_nI (by omega) (by decide)) d_Mod_goOn_316 ?_
                                  obtain ⟨x10, ex10⟩ : ∃ z : Int32, kd8 ((nI (128 * tt + k - 1)).toNatClampNeg) = z := ⟨_, rfl⟩
                                  refine tw_ri (e2 := x10) ex10 ?_
                                  refine lv_iconst (v := 2) hx hb d_Mod_goOn_317 (by decide) ?_
                                  refine lv_icmp_eq (tgt := 325) hx hb d_Mod_goOn_318 (by decide) (fun h318 => ?_) (fun h318 => ?_)
                                  · refine lv_iconst (v := 0) hx hb d_Mod_goOn_325 (by decide) ?_
                                    refine lv_istore hx hb d_Mod_goOn_326 hl (by decide) rfl (fun ls hl => ?_)
                                    have hl : lv_has ls 10 [(9, .int 0), (8, .int (kd8 (128 * tt + k))), (7, .int (nI k)), (6, .int c8), (4, .int (nI (128 * tt))), (0, .ref h0), (1, .int (nI tt)), (2, .ref (q 48)), (3, .int (nI dd))] := hl
                                    refine lv_iload hx hb d_Mod_goOn_328 (lv_at hl 0 rfl) ?_
                                    refine lv_if_eq (tgt := 347) hx hb d_Mod_goOn_330 (by decide) (fun h330 => ?_) (fun h330 => ?_)
                                    · refine lv_iinc (k := 2) (v := nI (k + 1)) hx hb d_Mod_goOn_347 hl rfl ((nI_succ k).symm) (by decide) rfl (fun ls hl => ?_)
                                      have hl : lv_has ls 10 [(7, .int (nI (k + 1))), (9, .int 0), (8, .int (kd8 (128 * tt + k))), (6, .int c8), (4, .int (nI (128 * tt))), (0, .ref h0), (1, .int (nI tt)), (2, .ref (q 48)), (3, .int (nI dd))] := hl
                                      refine lv_goto (tgt := 246) hx hb d_Mod_goOn_350 (by decide) ?_
                                      have hP : va_P g.1 classes [(h0, .inr (10, mob q rf n mm mb fa fp av ev wi mn tp tc sc nf fd me mp xn mt wh tq ag an ig)), ((q 41), aI g 600 dp), ((q 42), aZ g 600 iw), ((q 43), aI g 76800 kd8), ((q 47), aI g 128 nw), ((q 48), aI g 64 bf)] H := hP.sub [0, 1, 2, 3, 4, 5] rfl
                                      have hD : va_D A [(h0, .inr (10, mob q rf n mm mb fa fp av ev wi mn tp tc sc nf fd me mp xn mt wh tq ag an ig)), ((q 41), aI g 600 dp), ((q 42), aZ g 600 iw), ((q 43), aI g 76800 kd8), ((q 47), aI g 128 nw), ((q 48), aI g 64 bf)] := hD.sub [0, 1, 2, 3, 4, 5] (by decide) rfl
                                      exact ih246 _ (by omega) c8 (k + 1) kd8 ls _ _ rfl (by omega) hKD8 hCN8 (lv_sub hl [0, 3, 4, 5, 6, 7, 8] rfl) hP hD hS
                                    · first | exact absurd h330 (by decide) | exact absurd (by decide) h330
                                  · refine lv_iconst (v := 1) hx hb d_Mod_goOn_321 (by decide) ?_
                                    refine lv_goto (tgt := 326) hx hb d_Mod_goOn_322 (by decide) ?_
                                    refine lv_istore hx hb d_Mod_goOn_326 hl (by decide) rfl (fun ls hl => ?_)
                                    have hl : lv_has ls 10 [(9, .int 1), (8, .int (kd8 (128 * tt + k))), (7, .int (nI k)), (6, .int c8), (4, .int (nI (128 * tt))), (0, .ref h0), (1, .int (nI tt)), (2, .ref (q 48)), (3, .int (nI dd))] := hl
                                    refine lv_iload hx hb d_Mod_goOn_328 (lv_at hl 0 rfl) ?_
                                    refine lv_if_eq (tgt := 347) hx hb d_Mod_goOn_330 (by decide) (fun h330 => ?_) (fun h330 => ?_)
                                    · first | exact absurd h330 (by decide) | exact absurd (by decide) h330
                                    · refine lv_aload_n hx hb d_Mod_goOn_333 rfl (lv_at hl 5 rfl) ?_
                                      refine va_get (D := g.1) (ci := 10) (v := .ref (q 43)) (C := R_Mod) (T := F_Mod) (N := 61) hx hb hts in_Mod hown hK hP 0 rfl rfl 43 (by decide) (hts _ wd_1293) (fun _ h9 => h9) rfl d_Mod_goOn_334 ?_
                                      refine lv_iload hx hb d_Mod_goOn_337 (lv_at hl 4 rfl) ?_
                                      refine lv_iload hx hb d_Mod_goOn_339 (lv_at hl 2 rfl) ?_
                                      refine lv_iadd hx hb d_Mod_goOn_341 ?_
                                      refine tw_ri (e2 := nI (128 * tt + k)) (nI_add _ _) ?_
                                      refine lv_iconst (v := 0) hx hb d_Mod_goOn_342 (by decide) ?_
                                      refine va_iast hx hb hK hP hD hS 3 0 rfl rfl (vp_in_nI (by omega) (by decide)) d_Mod_goOn_343 (fun H locs hP hD hS => ?_)
                                      have hP : va_P g.1 classes [(h0, .inr (10, mob q rf n mm mb fa fp av ev wi mn tp tc sc nf fd me mp xn mt wh tq ag an ig)), ((q 41), aI g 600 dp), ((q 42), aZ g 600 iw), ((q 43), aI g 76800 (upd kd8 (nI (128 * tt + k)).toNatClampNeg 0)), ((q 47), aI g 128 nw), ((q 48), aI g 64 bf)] H := hP
                                      have hD : va_D A [(h0, .inr (10, mob q rf n mm mb fa fp av ev wi mn tp tc sc nf fd me mp xn mt wh tq ag an ig)), ((q 41), aI g 600 dp), ((q 42), aZ g 600 iw), ((q 43), aI g 76800 (upd kd8 (nI (128 * tt + k)).toNatClampNeg 0)), ((q 47), aI g 128 nw), ((q 48), aI g 64 bf)] := hD
                                      have e9 : upd kd8 (nI (128 * tt + k)).toNatClampNeg 0 = upd kd8 (128 * tt + k) 0 := by rw [nI_clamp (by omega)]
                                      rw [e9] at hP hD
                                      refine lv_iconst (v := 1) hx hb d_Mod_goOn_344 (by decide) ?_
                                      refine lv_istore hx hb d_Mod_goOn_345 hl (by decide) rfl (fun ls hl => ?_)
                                      have hl : lv_has ls 10 [(6, .int 1), (9, .int 1), (8, .int (kd8 (128 * tt + k))), (7, .int (nI k)), (4, .int (nI (128 * tt))), (0, .ref h0), (1, .int (nI tt)), (2, .ref (q 48)), (3, .int (nI dd))] := hl
                                      refine lv_iinc (k := 3) (v := nI (k + 1)) hx hb d_Mod_goOn_347 hl rfl ((nI_succ k).symm) (by decide) rfl (fun ls hl => ?_)
                                      have hl : lv_has ls 10 [(7, .int (nI (k + 1))), (6, .int 1), (9, .int 1), (8, .int (kd8 (128 * tt + k))), (4, .int (nI (128 * tt))), (0, .ref h0), (1, .int (nI tt)), (2, .ref (q 48)), (3, .int (nI dd))] := hl
                                      refine lv_goto (tgt := 246) hx hb d_Mod_goOn_350 (by decide) ?_
                                      have hP : va_P g.1 classes [(h0, .inr (10, mob q rf n mm mb fa fp av ev wi mn tp tc sc nf fd me mp xn mt wh tq ag an ig)), ((q 41), aI g 600 dp), ((q 42), aZ g 600 iw), ((q 43), aI g 76800 (upd kd8 (128 * tt + k) 0)), ((q 47), aI g 128 nw), ((q 48), aI g 64 bf)] H := hP.sub [0, 1, 2, 3, 4, 5] rfl
                                      have hD : va_D A [(h0, .inr (10, mob q rf n mm mb fa fp av ev wi mn tp tc sc nf fd me mp xn mt wh tq ag an ig)), ((q 41), aI g 600 dp), ((q 42), aZ g 600 iw), ((q 43), aI g 76800 (upd kd8 (128 * tt + k) 0)), ((q 47), aI g 128 nw), ((q 48), aI g 64 bf)] := hD.sub [0, 1, 2, 3, 4, 5] (by decide) rfl
                                      exact ih246 _ (by omega) 1 (k + 1) (upd kd8 (128 * tt + k) 0) ls _ _ rfl (by omega) (hKD8.put (fun _ => by decide)) (nk_dn hCN8 (by omega) (by omega) (by rw [h297]; decide)) (lv_sub hl [0, 1, 4, 5, 6, 7, 8] rfl) hP hD hS
                            · refine lv_iload hx hb d_Mod_goOn_271 (lv_at hl 1 rfl) ?_
                              refine lv_bipush (v := 63) hx hb d_Mod_goOn_273 (by decide) ?_
                              refine lv_icmp_eq (tgt := 321) hx hb d_Mod_goOn_275 (by decide) (fun h275 => ?_) (fun h275 => ?_)
                              · refine lv_iconst (v := 1) hx hb d_Mod_goOn_321 (by decide) ?_
                                refine lv_goto (tgt := 326) hx hb d_Mod_goOn_322 (by decide) ?_
                                refine lv_istore hx hb d_Mod_goOn_326 hl (by decide) rfl (fun ls hl => ?_)
                                have hl : lv_has ls 10 [(9, .int 1), (8, .int (kd8 (128 * tt + k))), (7, .int (nI k)), (6, .int c8), (4, .int (nI (128 * tt))), (0, .ref h0), (1, .int (nI tt)), (2, .ref (q 48)), (3, .int (nI dd))] := hl
                                refine lv_iload hx hb d_Mod_goOn_328 (lv_at hl 0 rfl) ?_
                                refine lv_if_eq (tgt := 347) hx hb d_Mod_goOn_330 (by decide) (fun h330 => ?_) (fun h330 => ?_)
                                · first | exact absurd h330 (by decide) | exact absurd (by decide) h330
                                · refine lv_aload_n hx hb d_Mod_goOn_333 rfl (lv_at hl 5 rfl) ?_
                                  refine va_get (D := g.1) (ci := 10) (v := .ref (q 43)) (C := R_Mod) (T := F_Mod) (N := 61) hx hb hts in_Mod hown hK hP 0 rfl rfl 43 (by decide) (hts _ wd_1293) (fun _ h9 => h9) rfl d_Mod_goOn_334 ?_
                                  refine lv_iload hx hb d_Mod_goOn_337 (lv_at hl 4 rfl) ?_
                                  refine lv_iload hx hb d_Mod_goOn_339 (lv_at hl 2 rfl) ?_
                                  refine lv_iadd hx hb d_Mod_goOn_341 ?_
                                  refine tw_ri (e2 := nI (128 * tt + k)) (nI_add _ _) ?_
                                  refine lv_iconst (v := 0) hx hb d_Mod_goOn_342 (by decide) ?_
                                  refine va_iast hx hb hK hP hD hS 3 0 rfl rfl (vp_in_nI (by omega) (by decide)) d_Mod_goOn_343 (fun H locs hP hD hS => ?_)
                                  have hP : va_P g.1 classes [(h0, .inr (10, mob q rf n mm mb fa fp av ev wi mn tp tc sc nf fd me mp xn mt wh tq ag an ig)), ((q 41), aI g 600 dp), ((q 42), aZ g 600 iw), ((q 43), aI g 76800 (upd kd8 (nI (128 * tt + k)).toNatClampNeg 0)), ((q 47), aI g 128 nw), ((q 48), aI g 64 bf)] H := hP
                                  have hD : va_D A [(h0, .inr (10, mob q rf n mm mb fa fp av ev wi mn tp tc sc nf fd me mp xn mt wh tq ag an ig)), ((q 41), aI g 600 dp), ((q 42), aZ g 600 iw), ((q 43), aI g 76800 (upd kd8 (nI (128 * tt + k)).toNatClampNeg 0)), ((q 47), aI g 128 nw), ((q 48), aI g 64 bf)] := hD
                                  have e9 : upd kd8 (nI (128 * tt + k)).toNatClampNeg 0 = upd kd8 (128 * tt + k) 0 := by rw [nI_clamp (by omega)]
                                  rw [e9] at hP hD
                                  refine lv_iconst (v := 1) hx hb d_Mod_goOn_344 (by decide) ?_
                                  refine lv_istore hx hb d_Mod_goOn_345 hl (by decide) rfl (fun ls hl => ?_)
                                  have hl : lv_has ls 10 [(6, .int 1), (9, .int 1), (8, .int (kd8 (128 * tt + k))), (7, .int (nI k)), (4, .int (nI (128 * tt))), (0, .ref h0), (1, .int (nI tt)), (2, .ref (q 48)), (3, .int (nI dd))] := hl
                                  refine lv_iinc (k := 3) (v := nI (k + 1)) hx hb d_Mod_goOn_347 hl rfl ((nI_succ k).symm) (by decide) rfl (fun ls hl => ?_)
                                  have hl : lv_has ls 10 [(7, .int (nI (k + 1))), (6, .int 1), (9, .int 1), (8, .int (kd8 (128 * tt + k))), (4, .int (nI (128 * tt))), (0, .ref h0), (1, .int (nI tt)), (2, .ref (q 48)), (3, .int (nI dd))] := hl
                                  refine lv_goto (tgt := 246) hx hb d_Mod_goOn_350 (by decide) ?_
                                  have hP : va_P g.1 classes [(h0, .inr (10, mob q rf n mm mb fa fp av ev wi mn tp tc sc nf fd me mp xn mt wh tq ag an ig)), ((q 41), aI g 600 dp), ((q 42), aZ g 600 iw), ((q 43), aI g 76800 (upd kd8 (128 * tt + k) 0)), ((q 47), aI g 128 nw), ((q 48), aI g 64 bf)] H := hP.sub [0, 1, 2, 3, 4, 5] rfl
                                  have hD : va_D A [(h0, .inr (10, mob q rf n mm mb fa fp av ev wi mn tp tc sc nf fd me mp xn mt wh tq ag an ig)), ((q 41), aI g 600 dp), ((q 42), aZ g 600 iw), ((q 43), aI g 76800 (upd kd8 (128 * tt + k) 0)), ((q 47), aI g 128 nw), ((q 48), aI g 64 bf)] := hD.sub [0, 1, 2, 3, 4, 5] (by decide) rfl
                                  exact ih246 _ (by omega) 1 (k + 1) (upd kd8 (128 * tt + k) 0) ls _ _ rfl (by omega) (hKD8.put (fun _ => by decide)) (nk_dn hCN8 (by omega) (by omega) (by rw [h268]; decide)) (lv_sub hl [0, 1, 4, 5, 6, 7, 8] rfl) hP hD hS
                              · refine lv_aload_n hx hb d_Mod_goOn_278 rfl (lv_at hl 4 rfl) ?_
                                refine va_get (D := g.1) (ci := 10) (v := .ref (q 43)) (C := R_Mod) (T := F_Mod) (N := 61) hx hb hts in_Mod hown hK hP 0 rfl rfl 43 (by decide) (hts _ wd_1293) (fun _ h9 => h9) rfl d_Mod_goOn_279 ?_
                                refine lv_iload hx hb d_Mod_goOn_282 (lv_at hl 3 rfl) ?_
                                refine lv_iload hx hb d_Mod_goOn_284 (lv_at hl 1 rfl) ?_
                                refine lv_iadd hx hb d_Mod_goOn_286 ?_
                                refine tw_ri (e2 := nI (128 * tt + k)) (nI_add _ _) ?_
                                refine lv_iconst (v := 1) hx hb d_Mod_goOn_287 (by decide) ?_
                                refine lv_iadd hx hb d_Mod_goOn_288 ?_
                                refine tw_ri (e2 := nI (128 * tt + k + 1)) (nI_add _ 1) ?_
                                refine va_iald hx hb hK hP 3 0 rfl rfl (vp_in_nI (by omega) (by decide)) d_Mod_goOn_289 ?_
                                obtain ⟨x11, ex11⟩ : ∃ z : Int32, kd8 ((nI (128 * tt + k + 1)).toNatClampNeg) = z := ⟨_, rfl⟩
                                refine tw_ri (e2 := x11) ex11 ?_
                                refine lv_iconst (v := 3) hx hb d_Mod_goOn_290 (by decide) ?_
                                refine lv_icmp_ne (tgt := 321) hx hb d_Mod_goOn_291 (by decide) (fun h291 => ?_) (fun h291 => ?_)
                                · refine lv_iconst (v := 1) hx hb d_Mod_goOn_321 (by decide) ?_
                                  refine lv_goto (tgt := 326) hx hb d_Mod_goOn_322 (by decide) ?_
                                  refine lv_istore hx hb d_Mod_goOn_326 hl (by decide) rfl (fun ls hl => ?_)
                                  have hl : lv_has ls 10 [(9, .int 1), (8, .int (kd8 (128 * tt + k))), (7, .int (nI k)), (6, .int c8), (4, .int (nI (128 * tt))), (0, .ref h0), (1, .int (nI tt)), (2, .ref (q 48)), (3, .int (nI dd))] := hl
                                  refine lv_iload hx hb d_Mod_goOn_328 (lv_at hl 0 rfl) ?_
                                  refine lv_if_eq (tgt := 347) hx hb d_Mod_goOn_330 (by decide) (fun h330 => ?_) (fun h330 => ?_)
                                  · first | exact absurd h330 (by decide) | exact absurd (by decide) h330
                                  · refine lv_aload_n hx hb d_Mod_goOn_333 rfl (lv_at hl 5 rfl) ?_
                                    refine va_get (D := g.1) (ci := 10) (v := .ref (q 43)) (C := R_Mod) (T := F_Mod) (N := 61) hx hb hts in_Mod hown hK hP 0 rfl rfl 43 (by decide) (hts _ wd_1293) (fun _ h9 => h9) rfl d_Mod_goOn_334 ?_
                                    refine lv_iload hx hb d_Mod_goOn_337 (lv_at hl 4 rfl) ?_
                                    refine lv_iload hx hb d_Mod_goOn_339 (lv_at hl 2 rfl) ?_
                                    refine lv_iadd hx hb d_Mod_goOn_341 ?_
                                    refine tw_ri (e2 := nI (128 * tt + k)) (nI_add _ _) ?_
                                    refine lv_iconst (v := 0) hx hb d_Mod_goOn_342 (by decide) ?_
                                    refine va_iast hx hb hK hP hD hS 3 0 rfl rfl (vp_in_nI (by omega) (by decide)) d_Mod_goOn_343 (fun H locs hP hD hS => ?_)
                                    have hP : va_P g.1 classes [(h0, .inr (10, mob q rf n mm mb fa fp av ev wi mn tp tc sc nf fd me mp xn mt wh tq ag an ig)), ((q 41), aI g 600 dp), ((q 42), aZ g 600 iw), ((q 43), aI g 76800 (upd kd8 (nI (128 * tt + k)).toNatClampNeg 0)), ((q 47), aI g 128 nw), ((q 48), aI g 64 bf)] H := hP
                                    have hD : va_D A [(h0, .inr (10, mob q rf n mm mb fa fp av ev wi mn tp tc sc nf fd me mp xn mt wh tq ag an ig)), ((q 41), aI g 600 dp), ((q 42), aZ g 600 iw), ((q 43), aI g 76800 (upd kd8 (nI (128 * tt + k)).toNatClampNeg 0)), ((q 47), aI g 128 nw), ((q 48), aI g 64 bf)] := hD
                                    have e9 : upd kd8 (nI (128 * tt + k)).toNatClampNeg 0 = upd kd8 (128 * tt + k) 0 := by rw [nI_clamp (by omega)]
                                    rw [e9] at hP hD
                                    refine lv_iconst (v := 1) hx hb d_Mod_goOn_344 (by decide) ?_
                                    refine lv_istore hx hb d_Mod_goOn_345 hl (by decide) rfl (fun ls hl => ?_)
                                    have hl : lv_has ls 10 [(6, .int 1), (9, .int 1), (8, .int (kd8 (128 * tt + k))), (7, .int (nI k)), (4, .int (nI (128 * tt))), (0, .ref h0), (1, .int (nI tt)), (2, .ref (q 48)), (3, .int (nI dd))] := hl
                                    refine lv_iinc (k := 3) (v := nI (k + 1)) hx hb d_Mod_goOn_347 hl rfl ((nI_succ k).symm) (by decide) rfl (fun ls hl => ?_)
                                    have hl : lv_has ls 10 [(7, .int (nI (k + 1))), (6, .int 1), (9, .int 1), (8, .int (kd8 (128 * tt + k))), (4, .int (nI (128 * tt))), (0, .ref h0), (1, .int (nI tt)), (2, .ref (q 48)), (3, .int (nI dd))] := hl
                                    refine lv_goto (tgt := 246) hx hb d_Mod_goOn_350 (by decide) ?_
                                    have hP : va_P g.1 classes [(h0, .inr (10, mob q rf n mm mb fa fp av ev wi mn tp tc sc nf fd me mp xn mt wh tq ag an ig)), ((q 41), aI g 600 dp), ((q 42), aZ g 600 iw), ((q 43), aI g 76800 (upd kd8 (128 * tt + k) 0)), ((q 47), aI g 128 nw), ((q 48), aI g 64 bf)] H := hP.sub [0, 1, 2, 3, 4, 5] rfl
                                    have hD : va_D A [(h0, .inr (10, mob q rf n mm mb fa fp av ev wi mn tp tc sc nf fd me mp xn mt wh tq ag an ig)), ((q 41), aI g 600 dp), ((q 42), aZ g 600 iw), ((q 43), aI g 76800 (upd kd8 (128 * tt + k) 0)), ((q 47), aI g 128 nw), ((q 48), aI g 64 bf)] := hD.sub [0, 1, 2, 3, 4, 5] (by decide) rfl
                                    exact ih246 _ (by omega) 1 (k + 1) (upd kd8 (128 * tt + k) 0) ls _ _ rfl (by omega) (hKD8.put (fun _ => by decide)) (nk_dn hCN8 (by omega) (by omega) (by rw [h268]; decide)) (lv_sub hl [0, 1, 4, 5, 6, 7, 8] rfl) hP hD hS
                                · refine lv_iload hx hb d_Mod_goOn_294 (lv_at hl 0 rfl) ?_
                                  refine lv_iconst (v := 3) hx hb d_Mod_goOn_296 (by decide) ?_
                                  refine lv_icmp_ne (tgt := 325) hx hb d_Mod_goOn_297 (by decide) (fun h297 => ?_) (fun h297 => ?_)
                                  · refine lv_iconst (v := 0) hx hb d_Mod_goOn_325 (by decide) ?_
                                    refine lv_istore hx hb d_Mod_goOn_326 hl (by decide) rfl (fun ls hl => ?_)
                                    have hl : lv_has ls 10 [(9, .int 0), (8, .int (kd8 (128 * tt + k))), (7, .int (nI k)), (6, .int c8), (4, .int (nI (128 * tt))), (0, .ref h0), (1, .int (nI tt)), (2, .ref (q 48)), (3, .int (nI dd))] := hl
                                    refine lv_iload hx hb d_Mod_goOn_328 (lv_at hl 0 rfl) ?_
                                    refine lv_if_eq (tgt := 347) hx hb d_Mod_goOn_330 (by decide) (fun h330 => ?_) (fun h330 => ?_)
                                    · refine lv_iinc (k := 2) (v := nI (k + 1)) hx hb d_Mod_goOn_347 hl rfl ((nI_succ k).symm) (by decide) rfl (fun ls hl => ?_)
                                      have hl : lv_has ls 10 [(7, .int (nI (k + 1))), (9, .int 0), (8, .int (kd8 (128 * tt + k))), (6, .int c8), (4, .int (nI (128 * tt))), (0, .ref h0), (1, .int (nI tt)), (2, .ref (q 48)), (3, .int (nI dd))] := hl
                                      refine lv_goto (tgt := 246) hx hb d_Mod_goOn_350 (by decide) ?_
                                      have hP : va_P g.1 classes [(h0, .inr (10, mob q rf n mm mb fa fp av ev wi mn tp tc sc nf fd me mp xn mt wh tq ag an ig)), ((q 41), aI g 600 dp), ((q 42), aZ g 600 iw), ((q 43), aI g 76800 kd8), ((q 47), aI g 128 nw), ((q 48), aI g 64 bf)] H := hP.sub [0, 1, 2, 3, 4, 5] rfl
                                      have hD : va_D A [(h0, .inr (10, mob q rf n mm mb fa fp av ev wi mn tp tc sc nf fd me mp xn mt wh tq ag an ig)), ((q 41), aI g 600 dp), ((q 42), aZ g 600 iw), ((q 43), aI g 76800 kd8), ((q 47), aI g 128 nw), ((q 48), aI g 64 bf)] := hD.sub [0, 1, 2, 3, 4, 5] (by decide) rfl
                                      exact ih246 _ (by omega) c8 (k + 1) kd8 ls _ _ rfl (by omega) hKD8 hCN8 (lv_sub hl [0, 3, 4, 5, 6, 7, 8] rfl) hP hD hS
                                    · first | exact absurd h330 (by decide) | exact absurd (by decide) h330
                                  · refine lv_iload hx hb d_Mod_goOn_300 (lv_at hl 1 rfl) ?_
                                    refine lv_if_eq (tgt := 321) hx hb d_Mod_goOn_302 (by decide) (fun h302 => ?_) (fun h302 => ?_)
                                    · refine lv_iconst (v := 1) hx hb d_Mod_goOn_321 (by decide) ?_
                                      refine lv_goto (tgt := 326) hx hb d_Mod_goOn_322 (by decide) ?_
                                      refine lv_istore hx hb d_Mod_goOn_326 hl (by decide) rfl (fun ls hl => ?_)
                                      have hl : lv_has ls 10 [(9, .int 1), (8, .int (kd8 (128 * tt + k))), (7, .int (nI k)), (6, .int c8), (4, .int (nI (128 * tt))), (0, .ref h0), (1, .int (nI tt)), (2, .ref (q 48)), (3, .int (nI dd))] := hl
                                      refine lv_iload hx hb d_Mod_goOn_328 (lv_at hl 0 rfl) ?_
                                      refine lv_if_eq (tgt := 347) hx hb d_Mod_goOn_330 (by decide) (fun h330 => ?_) (fun h330 => ?_)
                                      · first | exact absurd h330 (by decide) | exact absurd (by decide) h330
                                      · refine lv_aload_n hx hb d_Mod_goOn_333 rfl (lv_at hl 5 rfl) ?_
                                        refine va_get (D := g.1) (ci := 10) (v := .ref (q 43)) (C := R_Mod) (T := F_Mod) (N := 61) hx hb hts in_Mod hown hK hP 0 rfl rfl 43 (by decide) (hts _ wd_1293) (fun _ h9 => h9) rfl d_Mod_goOn_334 ?_
                                        refine lv_iload hx hb d_Mod_goOn_337 (lv_at hl 4 rfl) ?_
                                        refine lv_iload hx hb d_Mod_goOn_339 (lv_at hl 2 rfl) ?_
                                        refine lv_iadd hx hb d_Mod_goOn_341 ?_
                                        refine tw_ri (e2 := nI (128 * tt + k)) (nI_add _ _) ?_
                                        refine lv_iconst (v := 0) hx hb d_Mod_goOn_342 (by decide) ?_
                                        refine va_iast hx hb hK hP hD hS 3 0 rfl rfl (vp_in_nI (by omega) (by decide)) d_Mod_goOn_343 (fun H locs hP hD hS => ?_)
                                        have hP : va_P g.1 classes [(h0, .inr (10, mob q rf n mm mb fa fp av ev wi mn tp tc sc nf fd me mp xn mt wh tq ag an ig)), ((q 41), aI g 600 dp), ((q 42), aZ g 600 iw), ((q 43), aI g 76800 (upd kd8 (nI (128 * tt + k)).toNatClampNeg 0)), ((q 47), aI g 128 nw), ((q 48), aI g 64 bf)] H := hP
                                        have hD : va_D A [(h0, .inr (10, mob q rf n mm mb fa fp av ev wi mn tp tc sc nf fd me mp xn mt wh tq ag an ig)), ((q 41), aI g 600 dp), ((q 42), aZ g 600 iw), ((q 43), aI g 76800 (upd kd8 (nI (128 * tt + k)).toNatClampNeg 0)), ((q 47), aI g 128 nw), ((q 48), aI g 64 bf)] := hD
                                        have e9 : upd kd8 (nI (128 * tt + k)).toNatClampNeg 0 = upd kd8 (128 * tt + k) 0 := by rw [nI_clamp (by omega)]
                                        rw [e9] at hP hD
                                        refine lv_iconst (v := 1) hx hb d_Mod_goOn_344 (by decide) ?_
                                        refine lv_istore hx hb d_Mod_goOn_345 hl (by decide) rfl (fun ls hl => ?_)
                                        have hl : lv_has ls 10 [(6, .int 1), (9, .int 1), (8, .int (kd8 (128 * tt + k))), (7, .int (nI k)), (4, .int (nI (128 * tt))), (0, .ref h0), (1, .int (nI tt)), (2, .ref (q 48)), (3, .int (nI dd))] := hl
                                        refine lv_iinc (k := 3) (v := nI (k + 1)) hx hb d_Mod_goOn_347 hl rfl ((nI_succ k).symm) (by decide) rfl (fun ls hl => ?_)
                                        have hl : lv_has ls 10 [(7, .int (nI (k + 1))), (6, .int 1), (9, .int 1), (8, .int (kd8 (128 * tt + k))), (4, .int (nI (128 * tt))), (0, .ref h0), (1, .int (nI tt)), (2, .ref (q 48)), (3, .int (nI dd))] := hl
                                        refine lv_goto (tgt := 246) hx hb d_Mod_goOn_350 (by decide) ?_
                                        have hP : va_P g.1 classes [(h0, .inr (10, mob q rf n mm mb fa fp av ev wi mn tp tc sc nf fd me mp xn mt wh tq ag an ig)), ((q 41), aI g 600 dp), ((q 42), aZ g 600 iw), ((q 43), aI g 76800 (upd kd8 (128 * tt + k) 0)), ((q 47), aI g 128 nw), ((q 48), aI g 64 bf)] H := hP.sub [0, 1, 2, 3, 4, 5] rfl
                                        have hD : va_D A [(h0, .inr (10, mob q rf n mm mb fa fp av ev wi mn tp tc sc nf fd me mp xn mt wh tq ag an ig)), ((q 41), aI g 600 dp), ((q 42), aZ g 600 iw), ((q 43), aI g 76800 (upd kd8 (128 * tt + k) 0)), ((q 47), aI g 128 nw), ((q 48), aI g 64 bf)] := hD.sub [0, 1, 2, 3, 4, 5] (by decide) rfl
                                        exact ih246 _ (by omega) 1 (k + 1) (upd kd8 (128 * tt + k) 0) ls _ _ rfl (by omega) (hKD8.put (fun _ => by decide)) (nk_dn hCN8 (by omega) (by omega) (by rw [h297]; decide)) (lv_sub hl [0, 1, 4, 5, 6, 7, 8] rfl) hP hD hS
                                    · have h302 := tn_ne (b := 0) h302
                                      refine lv_aload_n hx hb d_Mod_goOn_305 rfl (lv_at hl 4 rfl) ?_
                                      refine va_get (D := g.1) (ci := 10) (v := .ref (q 43)) (C := R_Mod) (T := F_Mod) (N := 61) hx hb hts in_Mod hown hK hP 0 rfl rfl 43 (by decide) (hts _ wd_1293) (fun _ h9 => h9) rfl d_Mod_goOn_306 ?_
                                      refine lv_iload hx hb d_Mod_goOn_309 (lv_at hl 3 rfl) ?_
                                      refine lv_iload hx hb d_Mod_goOn_311 (lv_at hl 1 rfl) ?_
                                      refine lv_iadd hx hb d_Mod_goOn_313 ?_
                                      refine tw_ri (e2 := nI (128 * tt + k)) (nI_add _ _) ?_
                                      refine lv_iconst (v := 1) hx hb d_Mod_goOn_314 (by decide) ?_
                                      refine lv_isub hx hb d_Mod_goOn_315 ?_
                                      refine tw_ri (e2 := nI (128 * tt + k - 1)) (pk_sub (b := 1) (by omega)) ?_
                                      refine va_iald hx hb hK hP 3 0 rfl rfl (vp_in_nI (by omega) (by decide)) d_Mod_goOn_316 ?_
                                      obtain ⟨x12, ex12⟩ : ∃ z : Int32, kd8 ((nI (128 * tt + k - 1)).toNatClampNeg) = z := ⟨_, rfl⟩
                                      refine tw_ri (e2 := x12) ex12 ?_
                                      refine lv_iconst (v := 2) hx hb d_Mod_goOn_317 (by decide) ?_
                                      refine lv_icmp_eq (tgt := 325) hx hb d_Mod_goOn_318 (by decide) (fun h318 => ?_) (fun h318 => ?_)
                                      · refine lv_iconst (v := 0) hx hb d_Mod_goOn_325 (by decide) ?_
                                        refine lv_istore hx hb d_Mod_goOn_326 hl (by decide) rfl (fun ls hl => ?_)
                                        have hl : lv_has ls 10 [(9, .int 0), (8, .int (kd8 (128 * tt + k))), (7, .int (nI k)), (6, .int c8), (4, .int (nI (128 * tt))), (0, .ref h0), (1, .int (nI tt)), (2, .ref (q 48)), (3, .int (nI dd))] := hl
                                        refine lv_iload hx hb d_Mod_goOn_328 (lv_at hl 0 rfl) ?_
                                        refine lv_if_eq (tgt := 347) hx hb d_Mod_goOn_330 (by decide) (fun h330 => ?_) (fun h330 => ?_)
                                        · refine lv_iinc (k := 2) (v := nI (k + 1)) hx hb d_Mod_goOn_347 hl rfl ((nI_succ k).symm) (by decide) rfl (fun ls hl => ?_)
                                          have hl : lv_has ls 10 [(7, .int (nI (k + 1))), (9, .int 0), (8, .int (kd8 (128 * tt + k))), (6, .int c8), (4, .int (nI (128 * tt))), (0, .ref h0), (1, .int (nI tt)), (2, .ref (q 48)), (3, .int (nI dd))] := hl
                                          refine lv_goto (tgt := 246) hx hb d_Mod_goOn_350 (by decide) ?_
                                          have hP : va_P g.1 classes [(h0, .inr (10, mob q rf n mm mb fa fp av ev wi mn tp tc sc nf fd me mp xn mt wh tq ag an ig)), ((q 41), aI g 600 dp), ((q 42), aZ g 600 iw), ((q 43), aI g 76800 kd8), ((q 47), aI g 128 nw), ((q 48), aI g 64 bf)] H := hP.sub [0, 1, 2, 3, 4, 5] rfl
                                          have hD : va_D A [(h0, .inr (10, mob q rf n mm mb fa fp av ev wi mn tp tc sc nf fd me mp xn mt wh tq ag an ig)), ((q 41), aI g 600 dp), ((q 42), aZ g 600 iw), ((q 43), aI g 76800 kd8), ((q 47), aI g 128 nw), ((q 48), aI g 64 bf)] := hD.sub [0, 1, 2, 3, 4, 5] (by decide) rfl
                                          exact ih246 _ (by omega) c8 (k + 1) kd8 ls _ _ rfl (by omega) hKD8 hCN8 (lv_sub hl [0, 3, 4, 5, 6, 7, 8] rfl) hP hD hS
                                        · first | exact absurd h330 (by decide) | exact absurd (by decide) h330
                                      · refine lv_iconst (v := 1) hx hb d_Mod_goOn_321 (by decide) ?_
                                        refine lv_goto (tgt := 326) hx hb d_Mod_goOn_322 (by decide) ?_
                                        refine lv_istore hx hb d_Mod_goOn_326 hl (by decide) rfl (fun ls hl => ?_)
                                        have hl : lv_has ls 10 [(9, .int 1), (8, .int (kd8 (128 * tt + k))), (7, .int (nI k)), (6, .int c8), (4, .int (nI (128 * tt))), (0, .ref h0), (1, .int (nI tt)), (2, .ref (q 48)), (3, .int (nI dd))] := hl
                                        refine lv_iload hx hb d_Mod_goOn_328 (lv_at hl 0 rfl) ?_
                                        refine lv_if_eq (tgt := 347) hx hb d_Mod_goOn_330 (by decide) (fun h330 => ?_) (fun h330 => ?_)
                                        · first | exact absurd h330 (by decide) | exact absurd (by decide) h330
                                        · refine lv_aload_n hx hb d_Mod_goOn_333 rfl (lv_at hl 5 rfl) ?_
                                          refine va_get (D := g.1) (ci := 10) (v := .ref (q 43)) (C := R_Mod) (T := F_Mod) (N := 61) hx hb hts in_Mod hown hK hP 0 rfl rfl 43 (by decide) (hts _ wd_1293) (fun _ h9 => h9) rfl d_Mod_goOn_334 ?_
                                          refine lv_iload hx hb d_Mod_goOn_337 (lv_at hl 4 rfl) ?_
                                          refine lv_iload hx hb d_Mod_goOn_339 (lv_at hl 2 rfl) ?_
                                          refine lv_iadd hx hb d_Mod_goOn_341 ?_
                                          refine tw_ri (e2 := nI (128 * tt + k)) (nI_add _ _) ?_
                                          refine lv_iconst (v := 0) hx hb d_Mod_goOn_342 (by decide) ?_
                                          refine va_iast hx hb hK hP hD hS 3 0 rfl rfl (vp_in_nI (by omega) (by decide)) d_Mod_goOn_343 (fun H locs hP hD hS => ?_)
                                          have hP : va_P g.1 classes [(h0, .inr (10, mob q rf n mm mb fa fp av ev wi mn tp tc sc nf fd me mp xn mt wh tq ag an ig)), ((q 41), aI g 600 dp), ((q 42), aZ g 600 iw), ((q 43), aI g 76800 (upd kd8 (nI (128 * tt + k)).toNatClampNeg 0)), ((q 47), aI g 128 nw), ((q 48), aI g 64 bf)] H := hP
                                          have hD : va_D A [(h0, .inr (10, mob q rf n mm mb fa fp av ev wi mn tp tc sc nf fd me mp xn mt wh tq ag an ig)), ((q 41), aI g 600 dp), ((q 42), aZ g 600 iw), ((q 43), aI g 76800 (upd kd8 (nI (128 * tt + k)).toNatClampNeg 0)), ((q 47), aI g 128 nw), ((q 48), aI g 64 bf)] := hD
                                          have e9 : upd kd8 (nI (128 * tt + k)).toNatClampNeg 0 = upd kd8 (128 * tt + k) 0 := by rw [nI_clamp (by omega)]
                                          rw [e9] at hP hD
                                          refine lv_iconst (v := 1) hx hb d_Mod_goOn_344 (by decide) ?_
                                          refine lv_istore hx hb d_Mod_goOn_345 hl (by decide) rfl (fun ls hl => ?_)
                                          have hl : lv_has ls 10 [(6, .int 1), (9, .int 1), (8, .int (kd8 (128 * tt + k))), (7, .int (nI k)), (4, .int (nI (128 * tt))), (0, .ref h0), (1, .int (nI tt)), (2, .ref (q 48)), (3, .int (nI dd))] := hl
                                          refine lv_iinc (k := 3) (v := nI (k + 1)) hx hb d_Mod_goOn_347 hl rfl ((nI_succ k).symm) (by decide) rfl (fun ls hl => ?_)
                                          have hl : lv_has ls 10 [(7, .int (nI (k + 1))), (6, .int 1), (9, .int 1), (8, .int (kd8 (128 * tt + k))), (4, .int (nI (128 * tt))), (0, .ref h0), (1, .int (nI tt)), (2, .ref (q 48)), (3, .int (nI dd))] := hl
                                          refine lv_goto (tgt := 246) hx hb d_Mod_goOn_350 (by decide) ?_
                                          have hP : va_P g.1 classes [(h0, .inr (10, mob q rf n mm mb fa fp av ev wi mn tp tc sc nf fd me mp xn mt wh tq ag an ig)), ((q 41), aI g 600 dp), ((q 42), aZ g 600 iw), ((q 43), aI g 76800 (upd kd8 (128 * tt + k) 0)), ((q 47), aI g 128 nw), ((q 48), aI g 64 bf)] H := hP.sub [0, 1, 2, 3, 4, 5] rfl
                                          have hD : va_D A [(h0, .inr (10, mob q rf n mm mb fa fp av ev wi mn tp tc sc nf fd me mp xn mt wh tq ag an ig)), ((q 41), aI g 600 dp), ((q 42), aZ g 600 iw), ((q 43), aI g 76800 (upd kd8 (128 * tt + k) 0)), ((q 47), aI g 128 nw), ((q 48), aI g 64 bf)] := hD.sub [0, 1, 2, 3, 4, 5] (by decide) rfl
                                          exact ih246 _ (by omega) 1 (k + 1) (upd kd8 (128 * tt + k) 0) ls _ _ rfl (by omega) (hKD8.put (fun _ => by decide)) (nk_dn hCN8 (by omega) (by omega) (by rw [h297]; decide)) (lv_sub hl [0, 1, 4, 5, 6, 7, 8] rfl) hP hD hS
                      exact loop246 _ c9 0 kd9 ls _ _ rfl (Nat.zero_le _) hKD hCN (lv_sub hl [0, 1, 3, 4, 5, 6, 7] rfl) hP hD hS
                    · have h190 := tn_nle (a := 64) h190 (by decide) (by omega)
                      refine lv_aload_n hx hb d_Mod_goOn_193 rfl (lv_at hl 4 rfl) ?_
                      refine va_get (D := g.1) (ci := 10) (v := .ref (q 43)) (C := R_Mod) (T := F_Mod) (N := 61) hx hb hts in_Mod hown hK hP 0 rfl rfl 43 (by decide) (hts _ wd_1293) (fun _ h9 => h9) rfl d_Mod_goOn_194 ?_
                      refine lv_iload hx hb d_Mod_goOn_197 (lv_at hl 3 rfl) ?_
                      refine lv_iload hx hb d_Mod_goOn_199 (lv_at hl 0 rfl) ?_
                      refine lv_iadd hx hb d_Mod_goOn_201 ?_
                      refine tw_ri (e2 := nI (128 * tt + k)) (nI_add _ _) ?_
                      refine va_iald hx hb hK hP 3 0 rfl rfl (vp_in_nI (by omega) (by decide)) d_Mod_goOn_202 ?_
                      refine tw_ri (e2 := kd9 (128 * tt + k)) (by rw [nI_clamp (by omega)]) ?_
                      refine lv_aload_n hx hb d_Mod_goOn_203 rfl (lv_at hl 6 rfl) ?_
                      refine lv_iload hx hb d_Mod_goOn_204 (lv_at hl 0 rfl) ?_
                      refine va_iald hx hb hK hP 5 0 rfl rfl (vp_in_nI (by omega) (by decide)) d_Mod_goOn_206 ?_
                      refine tw_ri (e2 := bf k) (by rw [nI_clamp (by omega)]) ?_
                      refine lv_icmp_eq (tgt := 237) hx hb d_Mod_goOn_207 (by decide) (fun h207 => ?_) (fun h207 => ?_)
                      · refine lv_iinc (k := 0) (v := nI (k + 1)) hx hb d_Mod_goOn_237 hl rfl ((nI_succ k).symm) (by decide) rfl (fun ls hl => ?_)
                        have hl : lv_has ls 10 [(7, .int (nI (k + 1))), (6, .int c9), (5, .int s9), (4, .int (nI (128 * tt))), (0, .ref h0), (1, .int (nI tt)), (2, .ref (q 48)), (3, .int (nI dd))] := hl
                        refine lv_goto (tgt := 186) hx hb d_Mod_goOn_240 (by decide) ?_
                        have hP : va_P g.1 classes [(h0, .inr (10, mob q rf n mm mb fa fp av ev wi mn tp tc sc nf fd me mp xn mt wh tq ag an ig)), ((q 41), aI g 600 dp), ((q 42), aZ g 600 iw), ((q 43), aI g 76800 kd9), ((q 47), aI g 128 nw), ((q 48), aI g 64 bf)] H := hP.sub [0, 1, 2, 3, 4, 5] rfl
                        have hD : va_D A [(h0, .inr (10, mob q rf n mm mb fa fp av ev wi mn tp tc sc nf fd me mp xn mt wh tq ag an ig)), ((q 41), aI g 600 dp), ((q 42), aZ g 600 iw), ((q 43), aI g 76800 kd9), ((q 47), aI g 128 nw), ((q 48), aI g 64 bf)] := hD.sub [0, 1, 2, 3, 4, 5] (by decide) rfl
                        exact ih186 _ (by omega) c9 (k + 1) kd9 ls _ _ rfl (by omega) hKD hCN (lv_sub hl [0, 1, 2, 3, 4, 5, 6, 7] rfl) hP hD hS
                      · refine lv_aload_n hx hb d_Mod_goOn_210 rfl (lv_at hl 4 rfl) ?_
                        refine va_get (D := g.1) (ci := 10) (v := .ref (q 43)) (C := R_Mod) (T := F_Mod) (N := 61) hx hb hts in_Mod hown hK hP 0 rfl rfl 43 (by decide) (hts _ wd_1293) (fun _ h9 => h9) rfl d_Mod_goOn_211 ?_
                        refine lv_iload hx hb d_Mod_goOn_214 (lv_at hl 3 rfl) ?_
                        refine lv_iload hx hb d_Mod_goOn_216 (lv_at hl 0 rfl) ?_
                        refine lv_iadd hx hb d_Mod_goOn_218 ?_
                        refine tw_ri (e2 := nI (128 * tt + k)) (nI_add _ _) ?_
                        refine va_iald hx hb hK hP 3 0 rfl rfl (vp_in_nI (by omega) (by decide)) d_Mod_goOn_219 ?_
                        refine tw_ri (e2 := kd9 (128 * tt + k)) (by rw [nI_clamp (by omega)]) ?_
                        refine lv_if_eq (tgt := 237) hx hb d_Mod_goOn_220 (by decide) (fun h220 => ?_) (fun h220 => ?_)
                        · refine lv_iinc (k := 0) (v := nI (k + 1)) hx hb d_Mod_goOn_237 hl rfl ((nI_succ k).symm) (by decide) rfl (fun ls hl => ?_)
                          have hl : lv_has ls 10 [(7, .int (nI (k + 1))), (6, .int c9), (5, .int s9), (4, .int (nI (128 * tt))), (0, .ref h0), (1, .int (nI tt)), (2, .ref (q 48)), (3, .int (nI dd))] := hl
                          refine lv_goto (tgt := 186) hx hb d_Mod_goOn_240 (by decide) ?_
                          have hP : va_P g.1 classes [(h0, .inr (10, mob q rf n mm mb fa fp av ev wi mn tp tc sc nf fd me mp xn mt wh tq ag an ig)), ((q 41), aI g 600 dp), ((q 42), aZ g 600 iw), ((q 43), aI g 76800 kd9), ((q 47), aI g 128 nw), ((q 48), aI g 64 bf)] H := hP.sub [0, 1, 2, 3, 4, 5] rfl
                          have hD : va_D A [(h0, .inr (10, mob q rf n mm mb fa fp av ev wi mn tp tc sc nf fd me mp xn mt wh tq ag an ig)), ((q 41), aI g 600 dp), ((q 42), aZ g 600 iw), ((q 43), aI g 76800 kd9), ((q 47), aI g 128 nw), ((q 48), aI g 64 bf)] := hD.sub [0, 1, 2, 3, 4, 5] (by decide) rfl
                          exact ih186 _ (by omega) c9 (k + 1) kd9 ls _ _ rfl (by omega) hKD hCN (lv_sub hl [0, 1, 2, 3, 4, 5, 6, 7] rfl) hP hD hS
                        · refine lv_aload_n hx hb d_Mod_goOn_223 rfl (lv_at hl 4 rfl) ?_
                          refine va_get (D := g.1) (ci := 10) (v := .ref (q 43)) (C := R_Mod) (T := F_Mod) (N := 61) hx hb hts in_Mod hown hK hP 0 rfl rfl 43 (by decide) (hts _ wd_1293) (fun _ h9 => h9) rfl d_Mod_goOn_224 ?_
                          refine lv_iload hx hb d_Mod_goOn_227 (lv_at hl 3 rfl) ?_
                          refine lv_iload hx hb d_Mod_goOn_229 (lv_at hl 0 rfl) ?_
                          refine lv_iadd hx hb d_Mod_goOn_231 ?_
                          refine tw_ri (e2 := nI (128 * tt + k)) (nI_add _ _) ?_
                          refine lv_iconst (v := 0) hx hb d_Mod_goOn_232 (by decide) ?_
                          refine va_iast hx hb hK hP hD hS 3 0 rfl rfl (vp_in_nI (by omega) (by decide)) d_Mod_goOn_233 (fun H locs hP hD hS => ?_)
                          have hP : va_P g.1 classes [(h0, .inr (10, mob q rf n mm mb fa fp av ev wi mn tp tc sc nf fd me mp xn mt wh tq ag an ig)), ((q 41), aI g 600 dp), ((q 42), aZ g 600 iw), ((q 43), aI g 76800 (upd kd9 (nI (128 * tt + k)).toNatClampNeg 0)), ((q 47), aI g 128 nw), ((q 48), aI g 64 bf)] H := hP
                          have hD : va_D A [(h0, .inr (10, mob q rf n mm mb fa fp av ev wi mn tp tc sc nf fd me mp xn mt wh tq ag an ig)), ((q 41), aI g 600 dp), ((q 42), aZ g 600 iw), ((q 43), aI g 76800 (upd kd9 (nI (128 * tt + k)).toNatClampNeg 0)), ((q 47), aI g 128 nw), ((q 48), aI g 64 bf)] := hD
                          have e9 : upd kd9 (nI (128 * tt + k)).toNatClampNeg 0 = upd kd9 (128 * tt + k) 0 := by rw [nI_clamp (by omega)]
                          rw [e9] at hP hD
                          refine lv_iconst (v := 1) hx hb d_Mod_goOn_234 (by decide) ?_
                          refine lv_istore hx hb d_Mod_goOn_235 hl (by decide) rfl (fun ls hl => ?_)
                          have hl : lv_has ls 10 [(6, .int 1), (7, .int (nI k)), (5, .int s9), (4, .int (nI (128 * tt))), (0, .ref h0), (1, .int (nI tt)), (2, .ref (q 48)), (3, .int (nI dd))] := hl
                          refine lv_iinc (k := 1) (v := nI (k + 1)) hx hb d_Mod_goOn_237 hl rfl ((nI_succ k).symm) (by decide) rfl (fun ls hl => ?_)
                          have hl : lv_has ls 10 [(7, .int (nI (k + 1))), (6, .int 1), (5, .int s9), (4, .int (nI (128 * tt))), (0, .ref h0), (1, .int (nI tt)), (2, .ref (q 48)), (3, .int (nI dd))] := hl
                          refine lv_goto (tgt := 186) hx hb d_Mod_goOn_240 (by decide) ?_
                          have hP : va_P g.1 classes [(h0, .inr (10, mob q rf n mm mb fa fp av ev wi mn tp tc sc nf fd me mp xn mt wh tq ag an ig)), ((q 41), aI g 600 dp), ((q 42), aZ g 600 iw), ((q 43), aI g 76800 (upd kd9 (128 * tt + k) 0)), ((q 47), aI g 128 nw), ((q 48), aI g 64 bf)] H := hP.sub [0, 1, 2, 3, 4, 5] rfl
                          have hD : va_D A [(h0, .inr (10, mob q rf n mm mb fa fp av ev wi mn tp tc sc nf fd me mp xn mt wh tq ag an ig)), ((q 41), aI g 600 dp), ((q 42), aZ g 600 iw), ((q 43), aI g 76800 (upd kd9 (128 * tt + k) 0)), ((q 47), aI g 128 nw), ((q 48), aI g 64 bf)] := hD.sub [0, 1, 2, 3, 4, 5] (by decide) rfl
                          exact ih186 _ (by omega) 1 (k + 1) (upd kd9 (128 * tt + k) 0) ls _ _ rfl (by omega) (hKD.put (fun _ => by decide)) (nk_dn hCN (by omega) (by omega) h220) (lv_sub hl [0, 1, 2, 3, 4, 5, 6, 7] rfl) hP hD hS
                exact loop186 _ 0 0 kd ls _ _ rfl (Nat.zero_le _) hFR.2.2 (Or.inl ⟨rfl, rfl⟩) (hl) hP hD hS
              · exact absurd h166 h116
            · have h122 := tn_nle h122 (by omega) (by omega)
              refine lv_aload_n hx hb d_Mod_goOn_125 rfl (lv_at hl 3 rfl) ?_
              refine va_get (D := g.1) (ci := 10) (v := .ref (q 43)) (C := R_Mod) (T := F_Mod) (N := 61) hx hb hts in_Mod hown hK hP 0 rfl rfl 43 (by decide) (hts _ wd_1293) (fun _ h9 => h9) rfl d_Mod_goOn_126 ?_
              refine lv_iload hx hb d_Mod_goOn_129 (lv_at hl 2 rfl) ?_
              refine lv_bipush (v := 64) hx hb d_Mod_goOn_131 (by decide) ?_
              refine lv_iadd hx hb d_Mod_goOn_133 ?_
              refine tw_ri (e2 := nI (128 * tt + 64)) (nI_add _ 64) ?_
              refine lv_iload hx hb d_Mod_goOn_134 (lv_at hl 0 rfl) ?_
              refine lv_iadd hx hb d_Mod_goOn_136 ?_
              refine tw_ri (e2 := nI (128 * tt + 64 + k)) (nI_add _ _) ?_
              refine va_iald hx hb hK hP 3 0 rfl rfl (vp_in_nI (by omega) (by decide)) d_Mod_goOn_137 ?_
              obtain ⟨x13, ex13⟩ : ∃ z : Int32, kd ((nI (128 * tt + 64 + k)).toNatClampNeg) = z := ⟨_, rfl⟩
              refine tw_ri (e2 := x13) ex13 ?_
              refine lv_aload_n hx hb d_Mod_goOn_138 rfl (lv_at hl 3 rfl) ?_
              refine va_get (D := g.1) (ci := 10) (v := .ref (q 47)) (C := R_Mod) (T := F_Mod) (N := 61) hx hb hts in_Mod hown hK hP 0 rfl rfl 47 (by decide) (hts _ wd_1297) (fun _ h9 => h9) rfl d_Mod_goOn_139 ?_
              refine lv_bipush (v := 64) hx hb d_Mod_goOn_142 (by decide) ?_
              refine lv_iload hx hb d_Mod_goOn_144 (lv_at hl 0 rfl) ?_
              refine lv_iadd hx hb d_Mod_goOn_146 ?_
              refine tw_ri (e2 := nI (64 + k)) (nI_add 64 k) ?_
              refine va_iald hx hb hK hP 4 0 rfl rfl (vp_in_nI (by omega) (by decide)) d_Mod_goOn_147 ?_
              obtain ⟨x14, ex14⟩ : ∃ z : Int32, nw ((nI (64 + k)).toNatClampNeg) = z := ⟨_, rfl⟩
              refine tw_ri (e2 := x14) ex14 ?_
              refine lv_icmp_ne (tgt := 155) hx hb d_Mod_goOn_148 (by decide) (fun h148 => ?_) (fun h148 => ?_)
              · refine lv_iconst (v := 0) hx hb d_Mod_goOn_155 (by decide) ?_
                refine lv_istore hx hb d_Mod_goOn_156 hl (by decide) rfl (fun ls hl => ?_)
                have hl : lv_has ls 10 [(5, .int 0), (6, .int (nI k)), (4, .int (nI (128 * tt))), (0, .ref h0), (1, .int (nI tt)), (2, .ref (q 48)), (3, .int (nI dd))] := hl
                refine lv_iinc (k := 1) (v := nI (k + 1)) hx hb d_Mod_goOn_158 hl rfl ((nI_succ k).symm) (by decide) rfl (fun ls hl => ?_)
                have hl : lv_has ls 10 [(6, .int (nI (k + 1))), (5, .int 0), (4, .int (nI (128 * tt))), (0, .ref h0), (1, .int (nI tt)), (2, .ref (q 48)), (3, .int (nI dd))] := hl
                refine lv_goto (tgt := 114) hx hb d_Mod_goOn_161 (by decide) ?_
                have hP : va_P g.1 classes [(h0, .inr (10, mob q rf n mm mb fa fp av ev wi mn tp tc sc nf fd me mp xn mt wh tq ag an ig)), ((q 41), aI g 600 dp), ((q 42), aZ g 600 iw), ((q 43), aI g 76800 kd), ((q 47), aI g 128 nw), ((q 48), aI g 64 bf)] H := hP.sub [0, 1, 2, 3, 4, 5] rfl
                have hD : va_D A [(h0, .inr (10, mob q rf n mm mb fa fp av ev wi mn tp tc sc nf fd me mp xn mt wh tq ag an ig)), ((q 41), aI g 600 dp), ((q 42), aZ g 600 iw), ((q 43), aI g 76800 kd), ((q 47), aI g 128 nw), ((q 48), aI g 64 bf)] := hD.sub [0, 1, 2, 3, 4, 5] (by decide) rfl
                exact ih _ (by omega) 0 (k + 1) ls _ _ rfl (by omega) (lv_sub hl [0, 1, 2, 3, 4, 5, 6] rfl) hP hD hS
              · refine lv_iconst (v := 1) hx hb d_Mod_goOn_151 (by decide) ?_
                refine lv_goto (tgt := 156) hx hb d_Mod_goOn_152 (by decide) ?_
                refine lv_istore hx hb d_Mod_goOn_156 hl (by decide) rfl (fun ls hl => ?_)
                have hl : lv_has ls 10 [(5, .int 1), (6, .int (nI k)), (4, .int (nI (128 * tt))), (0, .ref h0), (1, .int (nI tt)), (2, .ref (q 48)), (3, .int (nI dd))] := hl
                refine lv_iinc (k := 1) (v := nI (k + 1)) hx hb d_Mod_goOn_158 hl rfl ((nI_succ k).symm) (by decide) rfl (fun ls hl => ?_)
                have hl : lv_has ls 10 [(6, .int (nI (k + 1))), (5, .int 1), (4, .int (nI (128 * tt))), (0, .ref h0), (1, .int (nI tt)), (2, .ref (q 48)), (3, .int (nI dd))] := hl
                refine lv_goto (tgt := 114) hx hb d_Mod_goOn_161 (by decide) ?_
                have hP : va_P g.1 classes [(h0, .inr (10, mob q rf n mm mb fa fp av ev wi mn tp tc sc nf fd me mp xn mt wh tq ag an ig)), ((q 41), aI g 600 dp), ((q 42), aZ g 600 iw), ((q 43), aI g 76800 kd), ((q 47), aI g 128 nw), ((q 48), aI g 64 bf)] H := hP.sub [0, 1, 2, 3, 4, 5] rfl
                have hD : va_D A [(h0, .inr (10, mob q rf n mm mb fa fp av ev wi mn tp tc sc nf fd me mp xn mt wh tq ag an ig)), ((q 41), aI g 600 dp), ((q 42), aZ g 600 iw), ((q 43), aI g 76800 kd), ((q 47), aI g 128 nw), ((q 48), aI g 64 bf)] := hD.sub [0, 1, 2, 3, 4, 5] (by decide) rfl
                exact ih _ (by omega) 1 (k + 1) ls _ _ rfl (by omega) (lv_sub hl [0, 1, 2, 3, 4, 5, 6] rfl) hP hD hS
      exact loop114 _ 1 0 ls _ _ rfl (Nat.zero_le _) (hl) hP hD hS
  · have hdm := fr_none hFR ht6 h13
    refine lv_iconst (v := 0) hx hb d_Mod_goOn_16 (by decide) ?_
    refine lv_istore hx hb d_Mod_goOn_17 hl (by decide) rfl (fun ls hl => ?_)
    have hl : lv_has ls 10 [(5, .int 0), (4, .int (nI (128 * tt))), (0, .ref h0), (1, .int (nI tt)), (2, .ref (q 48)), (3, .int (nI dd))] := hl
    have loop19 : ∀ (kq : Nat) (k : Nat) (kd9 : Nat → Int32) (ls : Array Slot) (H : Heap) (locs : List Loc) , 64 - k = kq → (hk4 : k ≤ 64) → (hKD : KD3 kd9) → (hNk : NK kd9 ≤ NK kd + k) → lv_has ls 10 [(5, .int (nI k)), (4, .int (nI (128 * tt))), (0, .ref h0), (1, .int (nI tt)), (2, .ref (q 48)), (3, .int (nI dd))] → va_P g.1 classes [(h0, .inr (10, mob q rf n mm mb fa fp av ev wi mn tp tc sc nf fd me mp xn mt wh tq ag an ig)), ((q 41), aI g 600 dp), ((q 42), aZ g 600 iw), ((q 43), aI g 76800 kd9), ((q 47), aI g 128 nw), ((q 48), aI g 64 bf)] H → va_D A [(h0, .inr (10, mob q rf n mm mb fa fp av ev wi mn tp tc sc nf fd me mp xn mt wh tq ag an ig)), ((q 41), aI g 600 dp), ((q 42), aZ g 600 iw), ((q 43), aI g 76800 kd9), ((q 47), aI g 128 nw), ((q 48), aI g 64 bf)] → va_S A s.heap H locs → W p l e ({ frames := 1, cells := 0, slots := 0, locals := 22 }) s m [.ref h0, .int (nI tt), .ref (q 48), .int (nI dd)].toArray below meth c H locs 0 0 (MQ below (tw_Qv g (fun (u : Int32 × Int32 × (Nat → Int32) × (Nat → Int32) × (Nat → Int32)) => (u.1 = 0 → fa = 0) ∧ (FRG u.2.2.1 u.2.2.2.1 u.2.2.2.2) ∧ (MU u.2.2.1 u.2.2.2.1 u.2.2.2.2 ≤ MU dp iw kd)) (fun u : Int32 × Int32 × (Nat → Int32) × (Nat → Int32) × (Nat → Int32) => [(h0, .inr (10, mob q rf n mm mb u.1 u.2.1 av ev wi mn tp tc sc nf fd me mp xn mt wh tq ag an ig)), ((q 41), aI g 600 u.2.2.1), ((q 42), aZ g 600 u.2.2.2.1), ((q 43), aI g 76800 u.2.2.2.2), ((q 47), aI g 128 nw), ((q 48), aI g 64 bf)]) A) [.ref h0, .int (nI tt), .ref (q 48), .int (nI dd)].toArray s 0 0 A) (F0 m 19 ls []) := by
      intro kq
      induction kq using Nat.strongRecOn with
      | _ kq ih =>
        intro k kd9 ls H locs hk hk4 hKD hNk hl hP hD hS
        refine lv_iload hx hb d_Mod_goOn_19 (lv_at hl 0 rfl) ?_
        refine lv_bipush (v := 64) hx hb d_Mod_goOn_21 (by decide) ?_
        refine lv_icmp_ge (tgt := 79) hx hb d_Mod_goOn_23 (by decide) (fun h23 => ?_) (fun h23 => ?_)
        · have h23 := tn_le (a := 64) h23 (by decide) (by omega)
          refine lv_aload_n hx hb d_Mod_goOn_79 rfl (lv_at hl 2 rfl) ?_
          refine va_get (D := g.1) (ci := 10) (v := .ref (q 41)) (C := R_Mod) (T := F_Mod) (N := 61) hx hb hts in_Mod hown hK hP 0 rfl rfl 41 (by decide) (hts _ wd_1291) (fun _ h9 => h9) rfl d_Mod_goOn_80 ?_
          refine lv_iload_n hx hb d_Mod_goOn_83 rfl (lv_at hl 3 rfl) ?_
          refine lv_iload_n hx hb d_Mod_goOn_84 rfl (lv_at hl 5 rfl) ?_
          refine va_iast hx hb hK hP hD hS 1 0 rfl rfl (vp_in_nI (by omega) (by decide)) d_Mod_goOn_85 (fun H locs hP hD hS => ?_)
          have hP : va_P g.1 classes [(h0, .inr (10, mob q rf n mm mb fa fp av ev wi mn tp tc sc nf fd me mp xn mt wh tq ag an ig)), ((q 41), aI g 600 (upd dp (nI tt).toNatClampNeg (nI dd))), ((q 42), aZ g 600 iw), ((q 43), aI g 76800 kd9), ((q 47), aI g 128 nw), ((q 48), aI g 64 bf)] H := hP
          have hD : va_D A [(h0, .inr (10, mob q rf n mm mb fa fp av ev wi mn tp tc sc nf fd me mp xn mt wh tq ag an ig)), ((q 41), aI g 600 (upd dp (nI tt).toNatClampNeg (nI dd))), ((q 42), aZ g 600 iw), ((q 43), aI g 76800 kd9), ((q 47), aI g 128 nw), ((q 48), aI g 64 bf)] := hD
          have e9 : upd dp (nI tt).toNatClampNeg (nI dd) = upd dp tt (nI dd) := by rw [nI_clamp (by omega)]
          rw [e9] at hP hD
          refine lv_aload_n hx hb d_Mod_goOn_86 rfl (lv_at hl 2 rfl) ?_
          refine va_get (D := g.1) (ci := 10) (v := .ref (q 42)) (C := R_Mod) (T := F_Mod) (N := 61) hx hb hts in_Mod hown hK hP 0 rfl rfl 42 (by decide) (hts _ wd_1292) (fun _ h9 => h9) rfl d_Mod_goOn_87 ?_
          refine lv_iload_n hx hb d_Mod_goOn_90 rfl (lv_at hl 3 rfl) ?_
          refine lv_iconst (v := 1) hx hb d_Mod_goOn_91 (by decide) ?_
          refine va_zast hx hb hK hP hD hS 2 3 rfl rfl (vp_in_nI (by omega) (by decide)) d_Mod_goOn_92 (fun H locs hP hD hS => ?_)
          have hP : va_P g.1 classes [(h0, .inr (10, mob q rf n mm mb fa fp av ev wi mn tp tc sc nf fd me mp xn mt wh tq ag an ig)), ((q 41), aI g 600 (upd dp tt (nI dd))), ((q 42), aZ g 600 (upd iw (nI tt).toNatClampNeg (vp_nar .boolean 1))), ((q 43), aI g 76800 kd9), ((q 47), aI g 128 nw), ((q 48), aI g 64 bf)] H := hP
          have hD : va_D A [(h0, .inr (10, mob q rf n mm mb fa fp av ev wi mn tp tc sc nf fd me mp xn mt wh tq ag an ig)), ((q 41), aI g 600 (upd dp tt (nI dd))), ((q 42), aZ g 600 (upd iw (nI tt).toNatClampNeg (vp_nar .boolean 1))), ((q 43), aI g 76800 kd9), ((q 47), aI g 128 nw), ((q 48), aI g 64 bf)] := hD
          have e9 : upd iw (nI tt).toNatClampNeg (vp_nar .boolean 1) = upd iw tt 1 := by rw [nI_clamp (by omega)]; rfl
          rw [e9] at hP hD
          exact tw_vret E hS (fa, fp, upd dp tt (nI dd), upd iw tt 1, kd9) (⟨(fun h => h), (hFR.new hd64 hKD), (mu_new hdm ht6 (by first | omega | (dsimp only <;> omega)) hd64)⟩) hP hD d_Mod_goOn_93
        · have h23 := tn_nle (a := 64) h23 (by decide) (by omega)
          refine lv_aload_n hx hb d_Mod_goOn_26 rfl (lv_at hl 2 rfl) ?_
          refine va_get (D := g.1) (ci := 10) (v := .ref (q 43)) (C := R_Mod) (T := F_Mod) (N := 61) hx hb hts in_Mod hown hK hP 0 rfl rfl 43 (by decide) (hts _ wd_1293) (fun _ h9 => h9) rfl d_Mod_goOn_27 ?_
          refine lv_iload hx hb d_Mod_goOn_30 (lv_at hl 1 rfl) ?_
          refine lv_iload hx hb d_Mod_goOn_32 (lv_at hl 0 rfl) ?_
          refine lv_iadd hx hb d_Mod_goOn_34 ?_
          refine tw_ri (e2 := nI (128 * tt + k)) (nI_add _ _) ?_
          refine lv_aload_n hx hb d_Mod_goOn_35 rfl (lv_at hl 4 rfl) ?_
          refine lv_iload hx hb d_Mod_goOn_36 (lv_at hl 0 rfl) ?_
          refine va_iald hx hb hK hP 5 0 rfl rfl (vp_in_nI (by omega) (by decide)) d_Mod_goOn_38 ?_
          refine tw_ri (e2 := bf k) (by rw [nI_clamp (by omega)]) ?_
          refine va_iast hx hb hK hP hD hS 3 0 rfl rfl (vp_in_nI (by omega) (by decide)) d_Mod_goOn_39 (fun H locs hP hD hS => ?_)
          have hP : va_P g.1 classes [(h0, .inr (10, mob q rf n mm mb fa fp av ev wi mn tp tc sc nf fd me mp xn mt wh tq ag an ig)), ((q 41), aI g 600 dp), ((q 42), aZ g 600 iw), ((q 43), aI g 76800 (upd kd9 (nI (128 * tt + k)).toNatClampNeg (bf k))), ((q 47), aI g 128 nw), ((q 48), aI g 64 bf)] H := hP
          have hD : va_D A [(h0, .inr (10, mob q rf n mm mb fa fp av ev wi mn tp tc sc nf fd me mp xn mt wh tq ag an ig)), ((q 41), aI g 600 dp), ((q 42), aZ g 600 iw), ((q 43), aI g 76800 (upd kd9 (nI (128 * tt + k)).toNatClampNeg (bf k))), ((q 47), aI g 128 nw), ((q 48), aI g 64 bf)] := hD
          have e9 : upd kd9 (nI (128 * tt + k)).toNatClampNeg (bf k) = upd kd9 (128 * tt + k) (bf k) := by rw [nI_clamp (by omega)]
          rw [e9] at hP hD
          refine lv_aload_n hx hb d_Mod_goOn_40 rfl (lv_at hl 2 rfl) ?_
          refine va_get (D := g.1) (ci := 10) (v := .ref (q 43)) (C := R_Mod) (T := F_Mod) (N := 61) hx hb hts in_Mod hown hK hP 0 rfl rfl 43 (by decide) (hts _ wd_1293) (fun _ h9 => h9) rfl d_Mod_goOn_41 ?_
          refine lv_iload hx hb d_Mod_goOn_44 (lv_at hl 1 rfl) ?_
          refine lv_bipush (v := 64) hx hb d_Mod_goOn_46 (by decide) ?_
          refine lv_iadd hx hb d_Mod_goOn_48 ?_
          refine tw_ri (e2 := nI (128 * tt + 64)) (nI_add _ 64) ?_
          refine lv_iload hx hb d_Mod_goOn_49 (lv_at hl 0 rfl) ?_
          refine lv_iadd hx hb d_Mod_goOn_51 ?_
          refine tw_ri (e2 := nI (128 * tt + 64 + k)) (nI_add _ _) ?_
          refine lv_iload hx hb d_Mod_goOn_52 (lv_at hl 0 rfl) ?_
          refine lv_iload_n hx hb d_Mod_goOn_54 rfl (lv_at hl 5 rfl) ?_
          refine lv_icmp_ge (tgt := 71) hx hb d_Mod_goOn_55 (by decide) (fun h55 => ?_) (fun h55 => ?_)
          · refine lv_iconst (v := 0) hx hb d_Mod_goOn_71 (by decide) ?_
            refine va_iast hx hb hK hP hD hS 3 0 rfl rfl (vp_in_nI (by omega) (by decide)) d_Mod_goOn_72 (fun H locs hP hD hS => ?_)
            have hP : va_P g.1 classes [(h0, .inr (10, mob q rf n mm mb fa fp av ev wi mn tp tc sc nf fd me mp xn mt wh tq ag an ig)), ((q 41), aI g 600 dp), ((q 42), aZ g 600 iw), ((q 43), aI g 76800 (upd (upd kd9 (128 * tt + k) (bf k)) (nI (128 * tt + 64 + k)).toNatClampNeg 0)), ((q 47), aI g 128 nw), ((q 48), aI g 64 bf)] H := hP
            have hD : va_D A [(h0, .inr (10, mob q rf n mm mb fa fp av ev wi mn tp tc sc nf fd me mp xn mt wh tq ag an ig)), ((q 41), aI g 600 dp), ((q 42), aZ g 600 iw), ((q 43), aI g 76800 (upd (upd kd9 (128 * tt + k) (bf k)) (nI (128 * tt + 64 + k)).toNatClampNeg 0)), ((q 47), aI g 128 nw), ((q 48), aI g 64 bf)] := hD
            have e9 : upd (upd kd9 (128 * tt + k) (bf k)) (nI (128 * tt + 64 + k)).toNatClampNeg 0 = upd (upd kd9 (128 * tt + k) (bf k)) (128 * tt + 64 + k) 0 := by rw [nI_clamp (by omega)]
            rw [e9] at hP hD
            refine lv_iinc (k := 0) (v := nI (k + 1)) hx hb d_Mod_goOn_73 hl rfl ((nI_succ k).symm) (by decide) rfl (fun ls hl => ?_)
            have hl : lv_has ls 10 [(5, .int (nI (k + 1))), (4, .int (nI (128 * tt))), (0, .ref h0), (1, .int (nI tt)), (2, .ref (q 48)), (3, .int (nI dd))] := hl
            refine lv_goto (tgt := 19) hx hb d_Mod_goOn_76 (by decide) ?_
            have hP : va_P g.1 classes [(h0, .inr (10, mob q rf n mm mb fa fp av ev wi mn tp tc sc nf fd me mp xn mt wh tq ag an ig)), ((q 41), aI g 600 dp), ((q 42), aZ g 600 iw), ((q 43), aI g 76800 (upd (upd kd9 (128 * tt + k) (bf k)) (128 * tt + 64 + k) 0)), ((q 47), aI g 128 nw), ((q 48), aI g 64 bf)] H := hP.sub [0, 1, 2, 3, 4, 5] rfl
            have hD : va_D A [(h0, .inr (10, mob q rf n mm mb fa fp av ev wi mn tp tc sc nf fd me mp xn mt wh tq ag an ig)), ((q 41), aI g 600 dp), ((q 42), aZ g 600 iw), ((q 43), aI g 76800 (upd (upd kd9 (128 * tt + k) (bf k)) (128 * tt + 64 + k) 0)), ((q 47), aI g 128 nw), ((q 48), aI g 64 bf)] := hD.sub [0, 1, 2, 3, 4, 5] (by decide) rfl
            exact ih _ (by omega) (k + 1) (upd (upd kd9 (128 * tt + k) (bf k)) (128 * tt + 64 + k) 0) ls _ _ rfl (by omega) ((hKD.put (fun h9 => by have e0 : k = 0 := (by omega); rw [e0]; exact hr3)).put (fun _ => by decide)) (nk_two hNk (by omega) (by omega) (by omega)) (lv_sub hl [0, 1, 2, 3, 4, 5] rfl) hP hD hS
          · have h55 := tn_nle h55 (by omega) (by omega)
            refine lv_aload_n hx hb d_Mod_goOn_58 rfl (lv_at hl 2 rfl) ?_
            refine va_get (D := g.1) (ci := 10) (v := .ref (q 47)) (C := R_Mod) (T := F_Mod) (N := 61) hx hb hts in_Mod hown hK hP 0 rfl rfl 47 (by decide) (hts _ wd_1297) (fun _ h9 => h9) rfl d_Mod_goOn_59 ?_
            refine lv_bipush (v := 64) hx hb d_Mod_goOn_62 (by decide) ?_
            refine lv_iload hx hb d_Mod_goOn_64 (lv_at hl 0 rfl) ?_
            refine lv_iadd hx hb d_Mod_goOn_66 ?_
            refine tw_ri (e2 := nI (64 + k)) (nI_add 64 k) ?_
            refine va_iald hx hb hK hP 4 0 rfl rfl (vp_in_nI (by omega) (by decide)) d_Mod_goOn_67 ?_
            refine tw_ri (e2 := nw (64 + k)) (by rw [nI_clamp (by omega)]) ?_
            refine lv_goto (tgt := 72) hx hb d_Mod_goOn_68 (by decide) ?_
            refine va_iast hx hb hK hP hD hS 3 0 rfl rfl (vp_in_nI (by omega) (by decide)) d_Mod_goOn_72 (fun H locs hP hD hS => ?_)
            have hP : va_P g.1 classes [(h0, .inr (10, mob q rf n mm mb fa fp av ev wi mn tp tc sc nf fd me mp xn mt wh tq ag an ig)), ((q 41), aI g 600 dp), ((q 42), aZ g 600 iw), ((q 43), aI g 76800 (upd (upd kd9 (128 * tt + k) (bf k)) (nI (128 * tt + 64 + k)).toNatClampNeg (nw (64 + k)))), ((q 47), aI g 128 nw), ((q 48), aI g 64 bf)] H := hP
            have hD : va_D A [(h0, .inr (10, mob q rf n mm mb fa fp av ev wi mn tp tc sc nf fd me mp xn mt wh tq ag an ig)), ((q 41), aI g 600 dp), ((q 42), aZ g 600 iw), ((q 43), aI g 76800 (upd (upd kd9 (128 * tt + k) (bf k)) (nI (128 * tt + 64 + k)).toNatClampNeg (nw (64 + k)))), ((q 47), aI g 128 nw), ((q 48), aI g 64 bf)] := hD
            have e9 : upd (upd kd9 (128 * tt + k) (bf k)) (nI (128 * tt + 64 + k)).toNatClampNeg (nw (64 + k)) = upd (upd kd9 (128 * tt + k) (bf k)) (128 * tt + 64 + k) (nw (64 + k)) := by rw [nI_clamp (by omega)]
            rw [e9] at hP hD
            refine lv_iinc (k := 0) (v := nI (k + 1)) hx hb d_Mod_goOn_73 hl rfl ((nI_succ k).symm) (by decide) rfl (fun ls hl => ?_)
            have hl : lv_has ls 10 [(5, .int (nI (k + 1))), (4, .int (nI (128 * tt))), (0, .ref h0), (1, .int (nI tt)), (2, .ref (q 48)), (3, .int (nI dd))] := hl
            refine lv_goto (tgt := 19) hx hb d_Mod_goOn_76 (by decide) ?_
            have hP : va_P g.1 classes [(h0, .inr (10, mob q rf n mm mb fa fp av ev wi mn tp tc sc nf fd me mp xn mt wh tq ag an ig)), ((q 41), aI g 600 dp), ((q 42), aZ g 600 iw), ((q 43), aI g 76800 (upd (upd kd9 (128 * tt + k) (bf k)) (128 * tt + 64 + k) (nw (64 + k)))), ((q 47), aI g 128 nw), ((q 48), aI g 64 bf)] H := hP.sub [0, 1, 2, 3, 4, 5] rfl
            have hD : va_D A [(h0, .inr (10, mob q rf n mm mb fa fp av ev wi mn tp tc sc nf fd me mp xn mt wh tq ag an ig)), ((q 41), aI g 600 dp), ((q 42), aZ g 600 iw), ((q 43), aI g 76800 (upd (upd kd9 (128 * tt + k) (bf k)) (128 * tt + 64 + k) (nw (64 + k)))), ((q 47), aI g 128 nw), ((q 48), aI g 64 bf)] := hD.sub [0, 1, 2, 3, 4, 5] (by decide) rfl
            exact ih _ (by omega) (k + 1) (upd (upd kd9 (128 * tt + k) (bf k)) (128 * tt + 64 + k) (nw (64 + k))) ls _ _ rfl (by omega) ((hKD.put (fun h9 => by have e0 : k = 0 := (by omega); rw [e0]; exact hr3)).put (fun h9 => by have e0 : k = 0 := (by omega); rw [e0]; exact hn3)) (nk_two hNk (by omega) (by omega) (by omega)) (lv_sub hl [0, 1, 2, 3, 4, 5] rfl) hP hD hS
    exact loop19 _ 0 kd ls _ _ rfl (Nat.zero_le _) hFR.2.2 (by omega) (hl) hP hD hS
