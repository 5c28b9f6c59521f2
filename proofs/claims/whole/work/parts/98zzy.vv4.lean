set_option maxHeartbeats 4000000 in
set_option maxRecDepth 100000 in
theorem g_Mod_firstFrame (l : Launch) (g : tw_G) (sz : Nat) (h0 : Nat) (q : Nat → Nat) (rf : Int32) (n : Nat) (mm : Int32) (mb : Int32) (av : Nat) (ev : Nat) (wi : Int32) (mn : Nat) (tp : Int32) (tc : Int32) (sc : Int32) (nf : Nat) (fd : Nat) (me : Nat) (mp : Int32) (xn : Nat) (mt : Nat) (wh : Nat) (tq : Nat) (ig : Int32) (bs : Nat → Int32) (on : Nat → Int32) (tw : Nat → Int32) (fl : Nat → Int32) (pl : Nat → Int32) (ty : Nat → Int32) (lo : Nat → Int32) (bg : Nat → Int32) (fa : Int32) (fp : Int32) (ag : Nat) (an : Int32) (dp : Nat → Int32) (iw : Nat → Int32) (kd : Nat → Int32) (nw : Nat → Int32) (ak : Nat → Int32) (b1 l1 o1 jt pt lt1 : Nat) (hmt : mt < 160) (hbg : bg mt = nI b1) (hb6 : b1 < 600) (hlo : lo mt = nI o1) (ho64 : o1 ≤ 64) (hFR : FRG dp iw kd) (hty : ty mt = nI jt) (jt6 : jt < 620) (hj1 : on jt = nI pt) (hj2 : tw jt = nI lt1) (hj3 : pt + lt1 ≤ 600) (hj4 : MTY bs pt (pt + lt1)) : Met l y_Mod_firstFrame [.code y_Mod_firstFrame b_Mod_firstFrame 7 none] ({ frames := 5, cells := 0, slots := 0, locals := 117 }) (tw_P g [.ref h0, .int (nI mt)] [(h0, .inr (10, mob q rf n mm mb fa fp av ev wi mn tp tc sc nf fd me mp xn mt wh tq ag an ig)), ((q 2), aI g 600 bs), ((q 16), aI g 620 on), ((q 17), aI g 620 tw), ((q 27), aI g 160 fl), ((q 28), aI g 160 pl), ((q 30), aI g 160 ty), ((q 33), aI g 160 lo), ((q 34), aI g 160 bg), ((q 41), aI g 600 dp), ((q 42), aZ g 600 iw), ((q 43), aI g 76800 kd), ((q 47), aI g 128 nw), ((q 50), aI g 600 ak)] sz) (tw_Qv g (fun (u : Int32 × Int32 × Nat × Int32 × (Nat → Int32) × (Nat → Int32) × (Nat → Int32) × (Nat → Int32) × (Nat → Int32)) => (u.1 = 0 → fa = 0) ∧ (FRG u.2.2.2.2.1 u.2.2.2.2.2.1 u.2.2.2.2.2.2.1) ∧ (MU u.2.2.2.2.1 u.2.2.2.2.2.1 u.2.2.2.2.2.2.1 ≤ MU dp iw kd)) (fun u : Int32 × Int32 × Nat × Int32 × (Nat → Int32) × (Nat → Int32) × (Nat → Int32) × (Nat → Int32) × (Nat → Int32) => [(h0, .inr (10, mob q rf n mm mb u.1 u.2.1 av ev wi mn tp tc sc nf fd me mp xn mt wh tq u.2.2.1 u.2.2.2.1 ig)), ((q 2), aI g 600 bs), ((q 16), aI g 620 on), ((q 17), aI g 620 tw), ((q 27), aI g 160 fl), ((q 28), aI g 160 pl), ((q 30), aI g 160 ty), ((q 33), aI g 160 lo), ((q 34), aI g 160 bg), ((q 41), aI g 600 u.2.2.2.2.1), ((q 42), aZ g 600 u.2.2.2.2.2.1), ((q 43), aI g 76800 u.2.2.2.2.2.2.1), ((q 47), aI g 128 u.2.2.2.2.2.2.2.1), ((q 50), aI g 600 u.2.2.2.2.2.2.2.2)]) (va_A [(h0, .inr (10, mob q rf n mm mb fa fp av ev wi mn tp tc sc nf fd me mp xn mt wh tq ag an ig)), ((q 2), aI g 600 bs), ((q 16), aI g 620 on), ((q 17), aI g 620 tw), ((q 27), aI g 160 fl), ((q 28), aI g 160 pl), ((q 30), aI g 160 ty), ((q 33), aI g 160 lo), ((q 34), aI g 160 bg), ((q 41), aI g 600 dp), ((q 42), aZ g 600 iw), ((q 43), aI g 76800 kd), ((q 47), aI g 128 nw), ((q 50), aI g 600 ak)] sz)) 0 0 (va_A [(h0, .inr (10, mob q rf n mm mb fa fp av ev wi mn tp tc sc nf fd me mp xn mt wh tq ag an ig)), ((q 2), aI g 600 bs), ((q 16), aI g 620 on), ((q 17), aI g 620 tw), ((q 27), aI g 160 fl), ((q 28), aI g 160 pl), ((q 30), aI g 160 ty), ((q 33), aI g 160 lo), ((q 34), aI g 160 bg), ((q 41), aI g 600 dp), ((q 42), aZ g 600 iw), ((q 43), aI g 76800 kd), ((q 47), aI g 128 nw), ((q 50), aI g 600 ak)] sz) := by
  refine tw_metW (l := l) (g := g) (y := y_Mod_firstFrame) (cc := b_Mod_firstFrame) (maxL := 7) (ret := none) (rm := { frames := 5, cells := 0, slots := 0, locals := 117 }) (mc := 0) (ms := 0) (av := [.ref h0, .int (nI mt)]) (ws := [(h0, .inr (10, mob q rf n mm mb fa fp av ev wi mn tp tc sc nf fd me mp xn mt wh tq ag an ig)), ((q 2), aI g 600 bs), ((q 16), aI g 620 on), ((q 17), aI g 620 tw), ((q 27), aI g 160 fl), ((q 28), aI g 160 pl), ((q 30), aI g 160 ty), ((q 33), aI g 160 lo), ((q 34), aI g 160 bg), ((q 41), aI g 600 dp), ((q 42), aZ g 600 iw), ((q 43), aI g 76800 kd), ((q 47), aI g 128 nw), ((q 50), aI g 600 ak)]) (sz := sz) (Qc := fun A => (tw_Qv g (fun (u : Int32 × Int32 × Nat × Int32 × (Nat → Int32) × (Nat → Int32) × (Nat → Int32) × (Nat → Int32) × (Nat → Int32)) => (u.1 = 0 → fa = 0) ∧ (FRG u.2.2.2.2.1 u.2.2.2.2.2.1 u.2.2.2.2.2.2.1) ∧ (MU u.2.2.2.2.1 u.2.2.2.2.2.1 u.2.2.2.2.2.2.1 ≤ MU dp iw kd)) (fun u : Int32 × Int32 × Nat × Int32 × (Nat → Int32) × (Nat → Int32) × (Nat → Int32) × (Nat → Int32) × (Nat → Int32) => [(h0, .inr (10, mob q rf n mm mb u.1 u.2.1 av ev wi mn tp tc sc nf fd me mp xn mt wh tq u.2.2.1 u.2.2.2.1 ig)), ((q 2), aI g 600 bs), ((q 16), aI g 620 on), ((q 17), aI g 620 tw), ((q 27), aI g 160 fl), ((q 28), aI g 160 pl), ((q 30), aI g 160 ty), ((q 33), aI g 160 lo), ((q 34), aI g 160 bg), ((q 41), aI g 600 u.2.2.2.2.1), ((q 42), aZ g 600 u.2.2.2.2.2.1), ((q 43), aI g 76800 u.2.2.2.2.2.2.1), ((q 47), aI g 128 u.2.2.2.2.2.2.2.1), ((q 50), aI g 600 u.2.2.2.2.2.2.2.2)]) A)) (by decide) (Nat.le_of_ble_eq_true rfl) ?_
  intro p e s m below meth c ls H A E hB hK hZ hP hD hS hA hl
  obtain ⟨hx, hb, hml, hr, hown, hts, hlocks, hin⟩ := id E
  have hl : lv_has ls 7 [(0, .ref h0), (1, .int (nI mt))] := hl
  refine lv_iconst (v := 0) hx hb d_Mod_firstFrame_0 (by decide) ?_
  refine lv_istore_n hx hb d_Mod_firstFrame_1 rfl hl (by decide) rfl (fun ls hl => ?_)
  have hl : lv_has ls 7 [(2, .int 0), (0, .ref h0), (1, .int (nI mt))] := hl
  have loop2 : ∀ (kq : Nat) (k : Nat) (nw9 : Nat → Int32) (ls : Array Slot) (H : Heap) (locs : List Loc) , 128 - k = kq → (hk4 : k ≤ 128) → (hzr : ∀ j, j < k → nw9 j = 0) → lv_has ls 7 [(2, .int (nI k)), (0, .ref h0), (1, .int (nI mt))] → va_P g.1 classes [(h0, .inr (10, mob q rf n mm mb fa fp av ev wi mn tp tc sc nf fd me mp xn mt wh tq ag an ig)), ((q 2), aI g 600 bs), ((q 16), aI g 620 on), ((q 17), aI g 620 tw), ((q 27), aI g 160 fl), ((q 28), aI g 160 pl), ((q 30), aI g 160 ty), ((q 33), aI g 160 lo), ((q 34), aI g 160 bg), ((q 41), aI g 600 dp), ((q 42), aZ g 600 iw), ((q 43), aI g 76800 kd), ((q 47), aI g 128 nw9), ((q 50), aI g 600 ak)] H → va_D A [(h0, .inr (10, mob q rf n mm mb fa fp av ev wi mn tp tc sc nf fd me mp xn mt wh tq ag an ig)), ((q 2), aI g 600 bs), ((q 16), aI g 620 on), ((q 17), aI g 620 tw), ((q 27), aI g 160 fl), ((q 28), aI g 160 pl), ((q 30), aI g 160 ty), ((q 33), aI g 160 lo), ((q 34), aI g 160 bg), ((q 41), aI g 600 dp), ((q 42), aZ g 600 iw), ((q 43), aI g 76800 kd), ((q 47), aI g 128 nw9), ((q 50), aI g 600 ak)] → va_S A s.heap H locs → W p l e ({ frames := 5, cells := 0, slots := 0, locals := 117 }) s m [.ref h0, .int (nI mt)].toArray below meth c H locs 0 0 (MQ below (tw_Qv g (fun (u : Int32 × Int32 × Nat × Int32 × (Nat → Int32) × (Nat → Int32) × (Nat → Int32) × (Nat → Int32) × (Nat → Int32)) => (u.1 = 0 → fa = 0) ∧ (FRG u.2.2.2.2.1 u.2.2.2.2.2.1 u.2.2.2.2.2.2.1) ∧ (MU u.2.2.2.2.1 u.2.2.2.2.2.1 u.2.2.2.2.2.2.1 ≤ MU dp iw kd)) (fun u : Int32 × Int32 × Nat × Int32 × (Nat → Int32) × (Nat → Int32) × (Nat → Int32) × (Nat → Int32) × (Nat → Int32) => [(h0, .inr (10, mob q rf n mm mb u.1 u.2.1 av ev wi mn tp tc sc nf fd me mp xn mt wh tq u.2.2.1 u.2.2.2.1 ig)), ((q 2), aI g 600 bs), ((q 16), aI g 620 on), ((q 17), aI g 620 tw), ((q 27), aI g 160 fl), ((q 28), aI g 160 pl), ((q 30), aI g 160 ty), ((q 33), aI g 160 lo), ((q 34), aI g 160 bg), ((q 41), aI g 600 u.2.2.2.2.1), ((q 42), aZ g 600 u.2.2.2.2.2.1), ((q 43), aI g 76800 u.2.2.2.2.2.2.1), ((q 47), aI g 128 u.2.2.2.2.2.2.2.1), ((q 50), aI g 600 u.2.2.2.2.2.2.2.2)]) A) [.ref h0, .int (nI mt)].toArray s 0 0 A) (F0 m 2 ls []) := by
    intro kq
    induction kq using Nat.strongRecOn with
    | _ kq ih =>
      intro k nw9 ls H locs hk hk4 hzr hl hP hD hS
      refine lv_iload_n hx hb d_Mod_firstFrame_2 rfl (lv_at hl 0 rfl) ?_
      refine lv_sipush (v := 128) hx hb d_Mod_firstFrame_3 (by decide) ?_
      refine lv_icmp_ge (tgt := 22) hx hb d_Mod_firstFrame_6 (by decide) (fun h6 => ?_) (fun h6 => ?_)
      · have h6 := tn_le (a := 128) h6 (by decide) (by omega)
        have hNW1 : NOW nw9 := zr_now (fun j hj => hzr j (by omega))
        refine lv_aload_n hx hb d_Mod_firstFrame_22 rfl (lv_at hl 1 rfl) ?_
        refine lv_aload_n hx hb d_Mod_firstFrame_23 rfl (lv_at hl 1 rfl) ?_
        refine va_get (D := g.1) (ci := 10) (v := .ref (q 30)) (C := R_Mod) (T := F_Mod) (N := 61) hx hb hts in_Mod hown hK hP 0 rfl rfl 30 (by decide) (hts _ wd_1280) (fun _ h9 => h9) rfl d_Mod_firstFrame_24 ?_
        refine lv_iload_n hx hb d_Mod_firstFrame_27 rfl (lv_at hl 2 rfl) ?_
        refine va_iald hx hb hK hP 6 0 rfl rfl (vp_in_nI (by omega) (by decide)) d_Mod_firstFrame_28 ?_
        refine tw_ri (e2 := nI jt) (by rw [nI_clamp (by omega)]; exact hty) ?_
        refine tw_wv (wr := [((q 27), aI g 160 fl), ((q 28), aI g 160 pl), ((q 30), aI g 160 ty), ((q 33), aI g 160 lo), ((q 34), aI g 160 bg), ((q 41), aI g 600 dp), ((q 42), aZ g 600 iw), ((q 43), aI g 76800 kd), ((q 47), aI g 128 nw9)]) (tw_runV (ws := [(h0, .inr (10, mob q rf n mm mb fa fp av ev wi mn tp tc sc nf fd me mp xn mt wh tq ag an ig)), ((q 2), aI g 600 bs), ((q 16), aI g 620 on), ((q 17), aI g 620 tw), ((q 27), aI g 160 fl), ((q 28), aI g 160 pl), ((q 30), aI g 160 ty), ((q 33), aI g 160 lo), ((q 34), aI g 160 bg), ((q 41), aI g 600 dp), ((q 42), aZ g 600 iw), ((q 43), aI g 76800 kd), ((q 47), aI g 128 nw9), ((q 50), aI g 600 ak)]) (wc := [(h0, .inr (10, mob q rf n mm mb fa fp av ev wi mn tp tc sc nf fd me mp xn mt wh tq ag an ig)), ((q 2), aI g 600 bs), ((q 16), aI g 620 on), ((q 17), aI g 620 tw), ((q 50), aI g 600 ak)]) (As := [.int (nI jt)]) (rest := []) E hB hK hZ (g_Mod_readTypes l g H.size h0 q rf n mm mb fa fp av ev wi mn tp tc sc nf fd me mp xn mt wh tq ig bs on tw ag an ak jt pt lt1 (by omega) hj1 hj2 hj3 hj4) mc_Mod_readTypes mi_Mod_readTypes me_Mod_readTypes wd_1628 hP hD hS hA [0, 1, 2, 3, 13] rfl (by decide) 0 rfl rfl rfl rfl rfl (by decide) rfl hl.1 rfl (Nat.le_of_ble_eq_true rfl) (by decide) d_Mod_firstFrame_29) hP hD hS hA [0, 1, 2, 3, 13] [4, 5, 6, 7, 8, 9, 10, 11, 12] rfl rfl (by decide) (by decide) (fun u2 H locs hr1 hP hD hS => ?_)
        try dsimp only at hr1
        have hP : va_P g.1 classes [((q 27), aI g 160 fl), ((q 28), aI g 160 pl), ((q 30), aI g 160 ty), ((q 33), aI g 160 lo), ((q 34), aI g 160 bg), ((q 41), aI g 600 dp), ((q 42), aZ g 600 iw), ((q 43), aI g 76800 kd), ((q 47), aI g 128 nw9), (h0, .inr (10, mob q rf n mm mb fa fp av ev wi mn tp tc sc nf fd me mp xn mt wh tq u2.1 u2.2.1 ig)), ((q 2), aI g 600 bs), ((q 16), aI g 620 on), ((q 17), aI g 620 tw), ((q 50), aI g 600 u2.2.2)] H := hP
        have hD : va_D A [((q 27), aI g 160 fl), ((q 28), aI g 160 pl), ((q 30), aI g 160 ty), ((q 33), aI g 160 lo), ((q 34), aI g 160 bg), ((q 41), aI g 600 dp), ((q 42), aZ g 600 iw), ((q 43), aI g 76800 kd), ((q 47), aI g 128 nw9), (h0, .inr (10, mob q rf n mm mb fa fp av ev wi mn tp tc sc nf fd me mp xn mt wh tq u2.1 u2.2.1 ig)), ((q 2), aI g 600 bs), ((q 16), aI g 620 on), ((q 17), aI g 620 tw), ((q 50), aI g 600 u2.2.2)] := hD
        have hP : va_P g.1 classes [(h0, .inr (10, mob q rf n mm mb fa fp av ev wi mn tp tc sc nf fd me mp xn mt wh tq u2.1 u2.2.1 ig)), ((q 2), aI g 600 bs), ((q 16), aI g 620 on), ((q 17), aI g 620 tw), ((q 27), aI g 160 fl), ((q 28), aI g 160 pl), ((q 30), aI g 160 ty), ((q 33), aI g 160 lo), ((q 34), aI g 160 bg), ((q 41), aI g 600 dp), ((q 42), aZ g 600 iw), ((q 43), aI g 76800 kd), ((q 47), aI g 128 nw9), ((q 50), aI g 600 u2.2.2)] H := hP.sub [9, 10, 11, 12, 0, 1, 2, 3, 4, 5, 6, 7, 8, 13] rfl
        have hD : va_D A [(h0, .inr (10, mob q rf n mm mb fa fp av ev wi mn tp tc sc nf fd me mp xn mt wh tq u2.1 u2.2.1 ig)), ((q 2), aI g 600 bs), ((q 16), aI g 620 on), ((q 17), aI g 620 tw), ((q 27), aI g 160 fl), ((q 28), aI g 160 pl), ((q 30), aI g 160 ty), ((q 33), aI g 160 lo), ((q 34), aI g 160 bg), ((q 41), aI g 600 dp), ((q 42), aZ g 600 iw), ((q 43), aI g 76800 kd), ((q 47), aI g 128 nw9), ((q 50), aI g 600 u2.2.2)] := hD.sub [9, 10, 11, 12, 0, 1, 2, 3, 4, 5, 6, 7, 8, 13] (by decide) rfl
        obtain ⟨hp2_0, hp2_1, hp2_2⟩ := hr1
        refine lv_iconst (v := 0) hx hb d_Mod_firstFrame_32 (by decide) ?_
        refine lv_istore_n hx hb d_Mod_firstFrame_33 rfl hl (by decide) rfl (fun ls hl => ?_)
        have hl : lv_has ls 7 [(2, .int 0), (0, .ref h0), (1, .int (nI mt))] := hl
        refine lv_iconst (v := 1) hx hb d_Mod_firstFrame_34 (by decide) ?_
        refine lv_istore_n hx hb d_Mod_firstFrame_35 rfl hl (by decide) rfl (fun ls hl => ?_)
        have hl : lv_has ls 7 [(3, .int 1), (2, .int 0), (0, .ref h0), (1, .int (nI mt))] := hl
        refine lv_aload_n hx hb d_Mod_firstFrame_36 rfl (lv_at hl 2 rfl) ?_
        refine va_get (D := g.1) (ci := 10) (v := .ref (q 27)) (C := R_Mod) (T := F_Mod) (N := 61) hx hb hts in_Mod hown hK hP 0 rfl rfl 27 (by decide) (hts _ wd_1277) (fun _ h9 => h9) rfl d_Mod_firstFrame_37 ?_
        refine lv_iload_n hx hb d_Mod_firstFrame_40 rfl (lv_at hl 3 rfl) ?_
        refine va_iald hx hb hK hP 4 0 rfl rfl (vp_in_nI (by omega) (by decide)) d_Mod_firstFrame_41 ?_
        obtain ⟨x3, ex3⟩ : ∃ z : Int32, fl ((nI mt).toNatClampNeg) = z := ⟨_, rfl⟩
        refine tw_ri (e2 := x3) ex3 ?_
        refine lv_bipush (v := 8) hx hb d_Mod_firstFrame_42 (by decide) ?_
        refine lv_iand hx hb d_Mod_firstFrame_44 ?_
        obtain ⟨x4, ex4⟩ : ∃ z : Int32, x3 &&& 8 = z := ⟨_, rfl⟩
        refine tw_ri (e2 := x4) ex4 ?_
        refine lv_if_eq (tgt := 52) hx hb d_Mod_firstFrame_45 (by decide) (fun h45 => ?_) (fun h45 => ?_)
        · refine lv_iconst (v := (-1)) hx hb d_Mod_firstFrame_52 (by decide) ?_
          refine lv_istore hx hb d_Mod_firstFrame_53 hl (by decide) rfl (fun ls hl => ?_)
          have hl : lv_has ls 7 [(4, .int (-1)), (3, .int 1), (2, .int 0), (0, .ref h0), (1, .int (nI mt))] := hl
          have loop55 : ∀ (kq : Nat) (nx : Nat) (ft : Int32) (qq : Nat) (nw8 : Nat → Int32) (ls : Array Slot) (H : Heap) (locs : List Loc) , u2.1 + 1 - qq = kq → (hnx : nx ≤ 2 * qq) → (hqq : qq ≤ u2.1 + 1) → (hNW8 : NOW nw8) → lv_has ls 7 [(4, .int (nI qq - 1)), (3, .int ft), (2, .int (nI nx)), (0, .ref h0), (1, .int (nI mt))] → va_P g.1 classes [(h0, .inr (10, mob q rf n mm mb fa fp av ev wi mn tp tc sc nf fd me mp xn mt wh tq u2.1 u2.2.1 ig)), ((q 2), aI g 600 bs), ((q 16), aI g 620 on), ((q 17), aI g 620 tw), ((q 27), aI g 160 fl), ((q 28), aI g 160 pl), ((q 30), aI g 160 ty), ((q 33), aI g 160 lo), ((q 34), aI g 160 bg), ((q 41), aI g 600 dp), ((q 42), aZ g 600 iw), ((q 43), aI g 76800 kd), ((q 47), aI g 128 nw8), ((q 50), aI g 600 u2.2.2)] H → va_D A [(h0, .inr (10, mob q rf n mm mb fa fp av ev wi mn tp tc sc nf fd me mp xn mt wh tq u2.1 u2.2.1 ig)), ((q 2), aI g 600 bs), ((q 16), aI g 620 on), ((q 17), aI g 620 tw), ((q 27), aI g 160 fl), ((q 28), aI g 160 pl), ((q 30), aI g 160 ty), ((q 33), aI g 160 lo), ((q 34), aI g 160 bg), ((q 41), aI g 600 dp), ((q 42), aZ g 600 iw), ((q 43), aI g 76800 kd), ((q 47), aI g 128 nw8), ((q 50), aI g 600 u2.2.2)] → va_S A s.heap H locs → W p l e ({ frames := 5, cells := 0, slots := 0, locals := 117 }) s m [.ref h0, .int (nI mt)].toArray below meth c H locs 0 0 (MQ below (tw_Qv g (fun (u : Int32 × Int32 × Nat × Int32 × (Nat → Int32) × (Nat → Int32) × (Nat → Int32) × (Nat → Int32) × (Nat → Int32)) => (u.1 = 0 → fa = 0) ∧ (FRG u.2.2.2.2.1 u.2.2.2.2.2.1 u.2.2.2.2.2.2.1) ∧ (MU u.2.2.2.2.1 u.2.2.2.2.2.1 u.2.2.2.2.2.2.1 ≤ MU dp iw kd)) (fun u : Int32 × Int32 × Nat × Int32 × (Nat → Int32) × (Nat → Int32) × (Nat → Int32) × (Nat → Int32) × (Nat → Int32) => [(h0, .inr (10, mob q rf n mm mb u.1 u.2.1 av ev wi mn tp tc sc nf fd me mp xn mt wh tq u.2.2.1 u.2.2.2.1 ig)), ((q 2), aI g 600 bs), ((q 16), aI g 620 on), ((q 17), aI g 620 tw), ((q 27), aI g 160 fl), ((q 28), aI g 160 pl), ((q 30), aI g 160 ty), ((q 33), aI g 160 lo), ((q 34), aI g 160 bg), ((q 41), aI g 600 u.2.2.2.2.1), ((q 42), aZ g 600 u.2.2.2.2.2.1), ((q 43), aI g 76800 u.2.2.2.2.2.2.1), ((q 47), aI g 128 u.2.2.2.2.2.2.2.1), ((q 50), aI g 600 u.2.2.2.2.2.2.2.2)]) A) [.ref h0, .int (nI mt)].toArray s 0 0 A) (F0 m 55 ls []) := by
            intro kq
            induction kq using Nat.strongRecOn with
            | _ kq ih55 =>
              intro nx ft qq nw8 ls H locs hk55 hnx hqq hNW8 hl hP hD hS
              refine lv_iload hx hb d_Mod_firstFrame_55 (lv_at hl 0 rfl) ?_
              refine lv_aload_n hx hb d_Mod_firstFrame_57 rfl (lv_at hl 3 rfl) ?_
              refine va_get (D := g.1) (ci := 10) (v := .int (nI u2.1)) (C := R_Mod) (T := F_Mod) (N := 61) hx hb hts in_Mod hown hK hP 0 rfl rfl 49 (by decide) (hts _ wd_1299) (fun _ h9 => h9) rfl d_Mod_firstFrame_58 ?_
              refine lv_icmp_ge (tgt := 174) hx hb d_Mod_firstFrame_61 (by decide) (fun h61 => ?_) (fun h61 => ?_)
              · refine lv_iload_n hx hb d_Mod_firstFrame_174 rfl (lv_at hl 1 rfl) ?_
                refine lv_if_ne (tgt := 191) hx hb d_Mod_firstFrame_175 (by decide) (fun h175 => ?_) (fun h175 => ?_)
                · refine lv_aload_n hx hb d_Mod_firstFrame_191 rfl (lv_at hl 3 rfl) ?_
                  refine lv_aload_n hx hb d_Mod_firstFrame_192 rfl (lv_at hl 3 rfl) ?_
                  refine va_get (D := g.1) (ci := 10) (v := .ref (q 34)) (C := R_Mod) (T := F_Mod) (N := 61) hx hb hts in_Mod hown hK hP 0 rfl rfl 34 (by decide) (hts _ wd_1284) (fun _ h9 => h9) rfl d_Mod_firstFrame_193 ?_
                  refine lv_iload_n hx hb d_Mod_firstFrame_196 rfl (lv_at hl 4 rfl) ?_
                  refine va_iald hx hb hK hP 8 0 rfl rfl (vp_in_nI (by omega) (by decide)) d_Mod_firstFrame_197 ?_
                  refine tw_ri (e2 := nI b1) (by rw [nI_clamp (by omega)]; exact hbg) ?_
                  refine lv_aload_n hx hb d_Mod_firstFrame_198 rfl (lv_at hl 3 rfl) ?_
                  refine va_get (D := g.1) (ci := 10) (v := .ref (q 47)) (C := R_Mod) (T := F_Mod) (N := 61) hx hb hts in_Mod hown hK hP 0 rfl rfl 47 (by decide) (hts _ wd_1297) (fun _ h9 => h9) rfl d_Mod_firstFrame_199 ?_
                  refine lv_iconst (v := 0) hx hb d_Mod_firstFrame_202 (by decide) ?_
                  refine tw_wv (wr := [((q 2), aI g 600 bs), ((q 16), aI g 620 on), ((q 17), aI g 620 tw), ((q 27), aI g 160 fl), ((q 28), aI g 160 pl), ((q 30), aI g 160 ty), ((q 33), aI g 160 lo), ((q 34), aI g 160 bg), ((q 50), aI g 600 u2.2.2)]) (tw_runV (ws := [(h0, .inr (10, mob q rf n mm mb fa fp av ev wi mn tp tc sc nf fd me mp xn mt wh tq u2.1 u2.2.1 ig)), ((q 2), aI g 600 bs), ((q 16), aI g 620 on), ((q 17), aI g 620 tw), ((q 27), aI g 160 fl), ((q 28), aI g 160 pl), ((q 30), aI g 160 ty), ((q 33), aI g 160 lo), ((q 34), aI g 160 bg), ((q 41), aI g 600 dp), ((q 42), aZ g 600 iw), ((q 43), aI g 76800 kd), ((q 47), aI g 128 nw8), ((q 50), aI g 600 u2.2.2)]) (wc := [(h0, .inr (10, mob q rf n mm mb fa fp av ev wi mn tp tc sc nf fd me mp xn mt wh tq u2.1 u2.2.1 ig)), ((q 41), aI g 600 dp), ((q 42), aZ g 600 iw), ((q 43), aI g 76800 kd), ((q 47), aI g 128 nw8)]) (As := [.int (nI b1), .ref (q 47), .int 0]) (rest := []) E hB hK hZ (g_Mod_goOnN l g H.size h0 q rf n mm mb av ev wi mn tp tc sc nf fd me mp xn mt wh tq u2.1 u2.2.1 ig nw8 fa fp dp iw kd b1 0 (by omega) (by omega) hFR hNW8.1 hNW8.2) mc_Mod_goOn mi_Mod_goOn me_Mod_goOn wd_1636 hP hD hS hA [0, 9, 10, 11, 12] rfl (by decide) 0 rfl rfl rfl rfl rfl (by decide) rfl hl.1 rfl (Nat.le_of_ble_eq_true rfl) (by decide) d_Mod_firstFrame_203) hP hD hS hA [0, 9, 10, 11, 12] [1, 2, 3, 4, 5, 6, 7, 8, 13] rfl rfl (by decide) (by decide) (fun u6 H locs hr5 hP hD hS => ?_)
                  try dsimp only at hr5
                  have hP : va_P g.1 classes [((q 2), aI g 600 bs), ((q 16), aI g 620 on), ((q 17), aI g 620 tw), ((q 27), aI g 160 fl), ((q 28), aI g 160 pl), ((q 30), aI g 160 ty), ((q 33), aI g 160 lo), ((q 34), aI g 160 bg), ((q 50), aI g 600 u2.2.2), (h0, .inr (10, mob q rf n mm mb u6.1 u6.2.1 av ev wi mn tp tc sc nf fd me mp xn mt wh tq u2.1 u2.2.1 ig)), ((q 41), aI g 600 u6.2.2.1), ((q 42), aZ g 600 u6.2.2.2.1), ((q 43), aI g 76800 u6.2.2.2.2), ((q 47), aI g 128 nw8)] H := hP
                  have hD : va_D A [((q 2), aI g 600 bs), ((q 16), aI g 620 on), ((q 17), aI g 620 tw), ((q 27), aI g 160 fl), ((q 28), aI g 160 pl), ((q 30), aI g 160 ty), ((q 33), aI g 160 lo), ((q 34), aI g 160 bg), ((q 50), aI g 600 u2.2.2), (h0, .inr (10, mob q rf n mm mb u6.1 u6.2.1 av ev wi mn tp tc sc nf fd me mp xn mt wh tq u2.1 u2.2.1 ig)), ((q 41), aI g 600 u6.2.2.1), ((q 42), aZ g 600 u6.2.2.2.1), ((q 43), aI g 76800 u6.2.2.2.2), ((q 47), aI g 128 nw8)] := hD
                  have hP : va_P g.1 classes [(h0, .inr (10, mob q rf n mm mb u6.1 u6.2.1 av ev wi mn tp tc sc nf fd me mp xn mt wh tq u2.1 u2.2.1 ig)), ((q 2), aI g 600 bs), ((q 16), aI g 620 on), ((q 17), aI g 620 tw), ((q 27), aI g 160 fl), ((q 28), aI g 160 pl), ((q 30), aI g 160 ty), ((q 33), aI g 160 lo), ((q 34), aI g 160 bg), ((q 41), aI g 600 u6.2.2.1), ((q 42), aZ g 600 u6.2.2.2.1), ((q 43), aI g 76800 u6.2.2.2.2), ((q 47), aI g 128 nw8), ((q 50), aI g 600 u2.2.2)] H := hP.sub [9, 0, 1, 2, 3, 4, 5, 6, 7, 10, 11, 12, 13, 8] rfl
                  have hD : va_D A [(h0, .inr (10, mob q rf n mm mb u6.1 u6.2.1 av ev wi mn tp tc sc nf fd me mp xn mt wh tq u2.1 u2.2.1 ig)), ((q 2), aI g 600 bs), ((q 16), aI g 620 on), ((q 17), aI g 620 tw), ((q 27), aI g 160 fl), ((q 28), aI g 160 pl), ((q 30), aI g 160 ty), ((q 33), aI g 160 lo), ((q 34), aI g 160 bg), ((q 41), aI g 600 u6.2.2.1), ((q 42), aZ g 600 u6.2.2.2.1), ((q 43), aI g 76800 u6.2.2.2.2), ((q 47), aI g 128 nw8), ((q 50), aI g 600 u2.2.2)] := hD.sub [9, 0, 1, 2, 3, 4, 5, 6, 7, 10, 11, 12, 13, 8] (by decide) rfl
                  obtain ⟨hp6_0, hp6_1, hp6_2⟩ := hr5
                  exact tw_vret E hS (u6.1, u6.2.1, u2.1, u2.2.1, u6.2.2.1, u6.2.2.2.1, u6.2.2.2.2, nw8, u2.2.2) (⟨(fun h => (fun h => h) (hp6_0 h)), hp6_1, (by first | omega | (dsimp only <;> omega))⟩) hP hD d_Mod_firstFrame_206
                · refine lv_aload_n hx hb d_Mod_firstFrame_178 rfl (lv_at hl 3 rfl) ?_
                  refine lv_bipush (v := 21) hx hb d_Mod_firstFrame_179 (by decide) ?_
                  refine lv_aload_n hx hb d_Mod_firstFrame_181 rfl (lv_at hl 3 rfl) ?_
                  refine va_get (D := g.1) (ci := 10) (v := .ref (q 28)) (C := R_Mod) (T := F_Mod) (N := 61) hx hb hts in_Mod hown hK hP 0 rfl rfl 28 (by decide) (hts _ wd_1278) (fun _ h9 => h9) rfl d_Mod_firstFrame_182 ?_
                  refine lv_iload_n hx hb d_Mod_firstFrame_185 rfl (lv_at hl 4 rfl) ?_
                  refine va_iald hx hb hK hP 5 0 rfl rfl (vp_in_nI (by omega) (by decide)) d_Mod_firstFrame_186 ?_
                  obtain ⟨x7, ex7⟩ : ∃ z : Int32, pl ((nI mt).toNatClampNeg) = z := ⟨_, rfl⟩
                  refine tw_ri (e2 := x7) ex7 ?_
                  refine tw_wv (wr := [((q 2), aI g 600 bs), ((q 16), aI g 620 on), ((q 17), aI g 620 tw), ((q 27), aI g 160 fl), ((q 28), aI g 160 pl), ((q 30), aI g 160 ty), ((q 33), aI g 160 lo), ((q 34), aI g 160 bg), ((q 41), aI g 600 dp), ((q 42), aZ g 600 iw), ((q 43), aI g 76800 kd), ((q 47), aI g 128 nw8), ((q 50), aI g 600 u2.2.2)]) (tw_runV (ws := [(h0, .inr (10, mob q rf n mm mb fa fp av ev wi mn tp tc sc nf fd me mp xn mt wh tq u2.1 u2.2.1 ig)), ((q 2), aI g 600 bs), ((q 16), aI g 620 on), ((q 17), aI g 620 tw), ((q 27), aI g 160 fl), ((q 28), aI g 160 pl), ((q 30), aI g 160 ty), ((q 33), aI g 160 lo), ((q 34), aI g 160 bg), ((q 41), aI g 600 dp), ((q 42), aZ g 600 iw), ((q 43), aI g 76800 kd), ((q 47), aI g 128 nw8), ((q 50), aI g 600 u2.2.2)]) (wc := [(h0, .inr (10, mob q rf n mm mb fa fp av ev wi mn tp tc sc nf fd me mp xn mt wh tq u2.1 u2.2.1 ig))]) (As := [.int 21, .int x7]) (rest := []) E hB hK hZ (g_Mod_fail l g H.size h0 q rf n mm mb av ev wi mn tp tc sc nf fd me mp xn mt wh tq u2.1 u2.2.1 ig fa fp 21 x7 (by decide)) mc_Mod_fail mi_Mod_fail me_Mod_fail wd_1478 hP hD hS hA [0] rfl (by decide) 0 rfl rfl rfl rfl rfl (by decide) rfl hl.1 rfl (Nat.le_of_ble_eq_true rfl) (by decide) d_Mod_firstFrame_187) hP hD hS hA [0] [1, 2, 3, 4, 5, 6, 7, 8, 9, 10, 11, 12, 13] rfl rfl (by decide) (by decide) (fun u9 H locs hr8 hP hD hS => ?_)
                  try dsimp only at hr8
                  have hP : va_P g.1 classes [((q 2), aI g 600 bs), ((q 16), aI g 620 on), ((q 17), aI g 620 tw), ((q 27), aI g 160 fl), ((q 28), aI g 160 pl), ((q 30), aI g 160 ty), ((q 33), aI g 160 lo), ((q 34), aI g 160 bg), ((q 41), aI g 600 dp), ((q 42), aZ g 600 iw), ((q 43), aI g 76800 kd), ((q 47), aI g 128 nw8), ((q 50), aI g 600 u2.2.2), (h0, .inr (10, mob q rf n mm mb u9.1 u9.2 av ev wi mn tp tc sc nf fd me mp xn mt wh tq u2.1 u2.2.1 ig))] H := hP
                  have hD : va_D A [((q 2), aI g 600 bs), ((q 16), aI g 620 on), ((q 17), aI g 620 tw), ((q 27), aI g 160 fl), ((q 28), aI g 160 pl), ((q 30), aI g 160 ty), ((q 33), aI g 160 lo), ((q 34), aI g 160 bg), ((q 41), aI g 600 dp), ((q 42), aZ g 600 iw), ((q 43), aI g 76800 kd), ((q 47), aI g 128 nw8), ((q 50), aI g 600 u2.2.2), (h0, .inr (10, mob q rf n mm mb u9.1 u9.2 av ev wi mn tp tc sc nf fd me mp xn mt wh tq u2.1 u2.2.1 ig))] := hD
                  have hP : va_P g.1 classes [(h0, .inr (10, mob q rf n mm mb u9.1 u9.2 av ev wi mn tp tc sc nf fd me mp xn mt wh tq u2.1 u2.2.1 ig)), ((q 2), aI g 600 bs), ((q 16), aI g 620 on), ((q 17), aI g 620 tw), ((q 27), aI g 160 fl), ((q 28), aI g 160 pl), ((q 30), aI g 160 ty), ((q 33), aI g 160 lo), ((q 34), aI g 160 bg), ((q 41), aI g 600 dp), ((q 42), aZ g 600 iw), ((q 43), aI g 76800 kd), ((q 47), aI g 128 nw8), ((q 50), aI g 600 u2.2.2)] H := hP.sub [13, 0, 1, 2, 3, 4, 5, 6, 7, 8, 9, 10, 11, 12] rfl
                  have hD : va_D A [(h0, .inr (10, mob q rf n mm mb u9.1 u9.2 av ev wi mn tp tc sc nf fd me mp xn mt wh tq u2.1 u2.2.1 ig)), ((q 2), aI g 600 bs), ((q 16), aI g 620 on), ((q 17), aI g 620 tw), ((q 27), aI g 160 fl), ((q 28), aI g 160 pl), ((q 30), aI g 160 ty), ((q 33), aI g 160 lo), ((q 34), aI g 160 bg), ((q 41), aI g 600 dp), ((q 42), aZ g 600 iw), ((q 43), aI g 76800 kd), ((q 47), aI g 128 nw8), ((q 50), aI g 600 u2.2.2)] := hD.sub [13, 0, 1, 2, 3, 4, 5, 6, 7, 8, 9, 10, 11, 12] (by decide) rfl
                  have hp9_0 := hr8
                  exact tw_vret E hS (u9.1, u9.2, u2.1, u2.2.1, dp, iw, kd, nw8, u2.2.2) (⟨(fun h => absurd h hp9_0), hFR, (by first | omega | (dsimp only <;> omega))⟩) hP hD d_Mod_firstFrame_190
              · have h61 := ff_lt h61 (by omega) (by omega)
                refine lv_iload hx hb d_Mod_firstFrame_64 (lv_at hl 0 rfl) ?_
                refine lv_if_ge (tgt := 73) hx hb d_Mod_firstFrame_66 (by decide) (fun h66 => ?_) (fun h66 => ?_)
                · have h66 := ff_ge h66 (by omega)
                  have hkk := hp2_1 (qq - 1) (by omega)
                  refine lv_aload_n hx hb d_Mod_firstFrame_73 rfl (lv_at hl 3 rfl) ?_
                  refine va_get (D := g.1) (ci := 10) (v := .ref (q 50)) (C := R_Mod) (T := F_Mod) (N := 61) hx hb hts in_Mod hown hK hP 0 rfl rfl 50 (by decide) (hts _ wd_1300) (fun _ h9 => h9) rfl d_Mod_firstFrame_74 ?_
                  refine lv_iload hx hb d_Mod_firstFrame_77 (lv_at hl 0 rfl) ?_
                  refine va_iald hx hb hK hP 13 0 rfl rfl (by rw [ff_dn h66]; exact vp_in_nI (by omega) (by decide)) d_Mod_firstFrame_79 ?_
                  refine tw_ri (e2 := u2.2.2 (qq - 1)) (by rw [ff_dn h66, nI_clamp (by omega)]) ?_
                  refine lv_istore hx hb d_Mod_firstFrame_80 hl (by decide) rfl (fun ls hl => ?_)
                  have hl : lv_has ls 7 [(5, .int (u2.2.2 (qq - 1))), (4, .int (nI qq - 1)), (3, .int ft), (2, .int (nI nx)), (0, .ref h0), (1, .int (nI mt))] := hl
                  refine lv_iload hx hb d_Mod_firstFrame_82 (lv_at hl 0 rfl) ?_
                  refine lv_iconst (v := 2) hx hb d_Mod_firstFrame_84 (by decide) ?_
                  refine lv_icmp_eq (tgt := 95) hx hb d_Mod_firstFrame_85 (by decide) (fun h85 => ?_) (fun h85 => ?_)
                  · refine lv_iconst (v := 2) hx hb d_Mod_firstFrame_95 (by decide) ?_
                    refine lv_goto (tgt := 100) hx hb d_Mod_firstFrame_96 (by decide) ?_
                    refine lv_istore hx hb d_Mod_firstFrame_100 hl (by decide) rfl (fun ls hl => ?_)
                    have hl : lv_has ls 7 [(6, .int 2), (5, .int (u2.2.2 (qq - 1))), (4, .int (nI qq - 1)), (3, .int ft), (2, .int (nI nx)), (0, .ref h0), (1, .int (nI mt))] := hl
                    refine lv_iload_n hx hb d_Mod_firstFrame_102 rfl (lv_at hl 3 rfl) ?_
                    refine lv_if_eq (tgt := 123) hx hb d_Mod_firstFrame_103 (by decide) (fun h103 => ?_) (fun h103 => ?_)
                    · refine lv_iconst (v := 0) hx hb d_Mod_firstFrame_123 (by decide) ?_
                      refine lv_istore_n hx hb d_Mod_firstFrame_124 rfl hl (by decide) rfl (fun ls hl => ?_)
                      have hl : lv_has ls 7 [(3, .int 0), (6, .int 2), (5, .int (u2.2.2 (qq - 1))), (4, .int (nI qq - 1)), (2, .int (nI nx)), (0, .ref h0), (1, .int (nI mt))] := hl
                      refine lv_iload_n hx hb d_Mod_firstFrame_125 rfl (lv_at hl 0 rfl) ?_
                      refine lv_if_eq (tgt := 163) hx hb d_Mod_firstFrame_126 (by decide) (fun h126 => ?_) (fun h126 => ?_)
                      · refine lv_iload_n hx hb d_Mod_firstFrame_163 rfl (lv_at hl 4 rfl) ?_
                        refine lv_iload hx hb d_Mod_firstFrame_164 (lv_at hl 1 rfl) ?_
                        refine lv_iadd hx hb d_Mod_firstFrame_166 ?_
                        refine tw_ri (e2 := nI (nx + 2)) (nI_add nx 2) ?_
                        refine lv_istore_n hx hb d_Mod_firstFrame_167 rfl hl (by decide) rfl (fun ls hl => ?_)
                        have hl : lv_has ls 7 [(2, .int (nI (nx + 2))), (3, .int 0), (6, .int 2), (5, .int (u2.2.2 (qq - 1))), (4, .int (nI qq - 1)), (0, .ref h0), (1, .int (nI mt))] := hl
                        refine lv_iinc (k := 4) (v := nI (qq + 1) - 1) hx hb d_Mod_firstFrame_168 hl rfl (ff_up qq) (by decide) rfl (fun ls hl => ?_)
                        have hl : lv_has ls 7 [(4, .int (nI (qq + 1) - 1)), (2, .int (nI (nx + 2))), (3, .int 0), (6, .int 2), (5, .int (u2.2.2 (qq - 1))), (0, .ref h0), (1, .int (nI mt))] := hl
                        refine lv_goto (tgt := 55) hx hb d_Mod_firstFrame_171 (by decide) ?_
                        have hP : va_P g.1 classes [(h0, .inr (10, mob q rf n mm mb fa fp av ev wi mn tp tc sc nf fd me mp xn mt wh tq u2.1 u2.2.1 ig)), ((q 2), aI g 600 bs), ((q 16), aI g 620 on), ((q 17), aI g 620 tw), ((q 27), aI g 160 fl), ((q 28), aI g 160 pl), ((q 30), aI g 160 ty), ((q 33), aI g 160 lo), ((q 34), aI g 160 bg), ((q 41), aI g 600 dp), ((q 42), aZ g 600 iw), ((q 43), aI g 76800 kd), ((q 47), aI g 128 nw8), ((q 50), aI g 600 u2.2.2)] H := hP.sub [0, 1, 2, 3, 4, 5, 6, 7, 8, 9, 10, 11, 12, 13] rfl
                        have hD : va_D A [(h0, .inr (10, mob q rf n mm mb fa fp av ev wi mn tp tc sc nf fd me mp xn mt wh tq u2.1 u2.2.1 ig)), ((q 2), aI g 600 bs), ((q 16), aI g 620 on), ((q 17), aI g 620 tw), ((q 27), aI g 160 fl), ((q 28), aI g 160 pl), ((q 30), aI g 160 ty), ((q 33), aI g 160 lo), ((q 34), aI g 160 bg), ((q 41), aI g 600 dp), ((q 42), aZ g 600 iw), ((q 43), aI g 76800 kd), ((q 47), aI g 128 nw8), ((q 50), aI g 600 u2.2.2)] := hD.sub [0, 1, 2, 3, 4, 5, 6, 7, 8, 9, 10, 11, 12, 13] (by decide) rfl
                        exact ih55 _ (by omega) (nx + 2) 0 (qq + 1) nw8 ls _ _ rfl (by omega) (by omega) hNW8 (lv_sub hl [0, 2, 1, 5, 6] rfl) hP hD hS
                      · first | exact absurd h126 (by decide) | exact absurd (by decide) h126
                    · refine lv_iload_n hx hb d_Mod_firstFrame_106 rfl (lv_at hl 4 rfl) ?_
                      refine lv_iload hx hb d_Mod_firstFrame_107 (lv_at hl 0 rfl) ?_
                      refine lv_iadd hx hb d_Mod_firstFrame_109 ?_
                      refine tw_ri (e2 := nI (nx + 2)) (nI_add nx 2) ?_
                      refine lv_aload_n hx hb d_Mod_firstFrame_110 rfl (lv_at hl 5 rfl) ?_
                      refine va_get (D := g.1) (ci := 10) (v := .ref (q 33)) (C := R_Mod) (T := F_Mod) (N := 61) hx hb hts in_Mod hown hK hP 0 rfl rfl 33 (by decide) (hts _ wd_1283) (fun _ h9 => h9) rfl d_Mod_firstFrame_111 ?_
                      refine lv_iload_n hx hb d_Mod_firstFrame_114 rfl (lv_at hl 6 rfl) ?_
                      refine va_iald hx hb hK hP 7 0 rfl rfl (vp_in_nI (by omega) (by decide)) d_Mod_firstFrame_115 ?_
                      refine tw_ri (e2 := nI o1) (by rw [nI_clamp (by omega)]; exact hlo) ?_
                      refine lv_icmp_gt (tgt := 123) hx hb d_Mod_firstFrame_116 (by decide) (fun h116 => ?_) (fun h116 => ?_)
                      · refine lv_iconst (v := 0) hx hb d_Mod_firstFrame_123 (by decide) ?_
                        refine lv_istore_n hx hb d_Mod_firstFrame_124 rfl hl (by decide) rfl (fun ls hl => ?_)
                        have hl : lv_has ls 7 [(3, .int 0), (6, .int 2), (5, .int (u2.2.2 (qq - 1))), (4, .int (nI qq - 1)), (2, .int (nI nx)), (0, .ref h0), (1, .int (nI mt))] := hl
                        refine lv_iload_n hx hb d_Mod_firstFrame_125 rfl (lv_at hl 0 rfl) ?_
                        refine lv_if_eq (tgt := 163) hx hb d_Mod_firstFrame_126 (by decide) (fun h126 => ?_) (fun h126 => ?_)
                        · refine lv_iload_n hx hb d_Mod_firstFrame_163 rfl (lv_at hl 4 rfl) ?_
                          refine lv_iload hx hb d_Mod_firstFrame_164 (lv_at hl 1 rfl) ?_
                          refine lv_iadd hx hb d_Mod_firstFrame_166 ?_
                          refine tw_ri (e2 := nI (nx + 2)) (nI_add nx 2) ?_
                          refine lv_istore_n hx hb d_Mod_firstFrame_167 rfl hl (by decide) rfl (fun ls hl => ?_)
                          have hl : lv_has ls 7 [(2, .int (nI (nx + 2))), (3, .int 0), (6, .int 2), (5, .int (u2.2.2 (qq - 1))), (4, .int (nI qq - 1)), (0, .ref h0), (1, .int (nI mt))] := hl
                          refine lv_iinc (k := 4) (v := nI (qq + 1) - 1) hx hb d_Mod_firstFrame_168 hl rfl (ff_up qq) (by decide) rfl (fun ls hl => ?_)
                          have hl : lv_has ls 7 [(4, .int (nI (qq + 1) - 1)), (2, .int (nI (nx + 2))), (3, .int 0), (6, .int 2), (5, .int (u2.2.2 (qq - 1))), (0, .ref h0), (1, .int (nI mt))] := hl
                          refine lv_goto (tgt := 55) hx hb d_Mod_firstFrame_171 (by decide) ?_
                          have hP : va_P g.1 classes [(h0, .inr (10, mob q rf n mm mb fa fp av ev wi mn tp tc sc nf fd me mp xn mt wh tq u2.1 u2.2.1 ig)), ((q 2), aI g 600 bs), ((q 16), aI g 620 on), ((q 17), aI g 620 tw), ((q 27), aI g 160 fl), ((q 28), aI g 160 pl), ((q 30), aI g 160 ty), ((q 33), aI g 160 lo), ((q 34), aI g 160 bg), ((q 41), aI g 600 dp), ((q 42), aZ g 600 iw), ((q 43), aI g 76800 kd), ((q 47), aI g 128 nw8), ((q 50), aI g 600 u2.2.2)] H := hP.sub [0, 1, 2, 3, 4, 5, 6, 7, 8, 9, 10, 11, 12, 13] rfl
                          have hD : va_D A [(h0, .inr (10, mob q rf n mm mb fa fp av ev wi mn tp tc sc nf fd me mp xn mt wh tq u2.1 u2.2.1 ig)), ((q 2), aI g 600 bs), ((q 16), aI g 620 on), ((q 17), aI g 620 tw), ((q 27), aI g 160 fl), ((q 28), aI g 160 pl), ((q 30), aI g 160 ty), ((q 33), aI g 160 lo), ((q 34), aI g 160 bg), ((q 41), aI g 600 dp), ((q 42), aZ g 600 iw), ((q 43), aI g 76800 kd), ((q 47), aI g 128 nw8), ((q 50), aI g 600 u2.2.2)] := hD.sub [0, 1, 2, 3, 4, 5, 6, 7, 8, 9, 10, 11, 12, 13] (by decide) rfl
                          exact ih55 _ (by omega) (nx + 2) 0 (qq + 1) nw8 ls _ _ rfl (by omega) (by omega) hNW8 (lv_sub hl [0, 2, 1, 5, 6] rfl) hP hD hS
                        · first | exact absurd h126 (by decide) | exact absurd (by decide) h126
                      · have h116 := tn_nlt h116 (by omega) (by omega)
                        refine lv_iconst (v := 1) hx hb d_Mod_firstFrame_119 (by decide) ?_
                        refine lv_goto (tgt := 124) hx hb d_Mod_firstFrame_120 (by decide) ?_
                        refine lv_istore_n hx hb d_Mod_firstFrame_124 rfl hl (by decide) rfl (fun ls hl => ?_)
                        have hl : lv_has ls 7 [(3, .int 1), (6, .int 2), (5, .int (u2.2.2 (qq - 1))), (4, .int (nI qq - 1)), (2, .int (nI nx)), (0, .ref h0), (1, .int (nI mt))] := hl
                        refine lv_iload_n hx hb d_Mod_firstFrame_125 rfl (lv_at hl 0 rfl) ?_
                        refine lv_if_eq (tgt := 163) hx hb d_Mod_firstFrame_126 (by decide) (fun h126 => ?_) (fun h126 => ?_)
                        · first | exact absurd h126 (by decide) | exact absurd (by decide) h126
                        · refine lv_aload_n hx hb d_Mod_firstFrame_129 rfl (lv_at hl 5 rfl) ?_
                          refine va_get (D := g.1) (ci := 10) (v := .ref (q 47)) (C := R_Mod) (T := F_Mod) (N := 61) hx hb hts in_Mod hown hK hP 0 rfl rfl 47 (by decide) (hts _ wd_1297) (fun _ h9 => h9) rfl d_Mod_firstFrame_130 ?_
                          refine lv_iload_n hx hb d_Mod_firstFrame_133 rfl (lv_at hl 4 rfl) ?_
                          refine lv_iload hx hb d_Mod_firstFrame_134 (lv_at hl 2 rfl) ?_
                          refine lv_bipush (v := 9) hx hb d_Mod_firstFrame_136 (by decide) ?_
                          refine lv_icmp_lt (tgt := 145) hx hb d_Mod_firstFrame_138 (by decide) (fun h138 => ?_) (fun h138 => ?_)
                          · refine lv_iload hx hb d_Mod_firstFrame_145 (lv_at hl 2 rfl) ?_
                            refine va_iast hx hb hK hP hD hS 12 0 rfl rfl (vp_in_nI (by omega) (by decide)) d_Mod_firstFrame_147 (fun H locs hP hD hS => ?_)
                            have hP : va_P g.1 classes [(h0, .inr (10, mob q rf n mm mb fa fp av ev wi mn tp tc sc nf fd me mp xn mt wh tq u2.1 u2.2.1 ig)), ((q 2), aI g 600 bs), ((q 16), aI g 620 on), ((q 17), aI g 620 tw), ((q 27), aI g 160 fl), ((q 28), aI g 160 pl), ((q 30), aI g 160 ty), ((q 33), aI g 160 lo), ((q 34), aI g 160 bg), ((q 41), aI g 600 dp), ((q 42), aZ g 600 iw), ((q 43), aI g 76800 kd), ((q 47), aI g 128 (upd nw8 (nI nx).toNatClampNeg (u2.2.2 (qq - 1)))), ((q 50), aI g 600 u2.2.2)] H := hP
                            have hD : va_D A [(h0, .inr (10, mob q rf n mm mb fa fp av ev wi mn tp tc sc nf fd me mp xn mt wh tq u2.1 u2.2.1 ig)), ((q 2), aI g 600 bs), ((q 16), aI g 620 on), ((q 17), aI g 620 tw), ((q 27), aI g 160 fl), ((q 28), aI g 160 pl), ((q 30), aI g 160 ty), ((q 33), aI g 160 lo), ((q 34), aI g 160 bg), ((q 41), aI g 600 dp), ((q 42), aZ g 600 iw), ((q 43), aI g 76800 kd), ((q 47), aI g 128 (upd nw8 (nI nx).toNatClampNeg (u2.2.2 (qq - 1)))), ((q 50), aI g 600 u2.2.2)] := hD
                            have e9 : upd nw8 (nI nx).toNatClampNeg (u2.2.2 (qq - 1)) = upd nw8 nx (u2.2.2 (qq - 1)) := by rw [nI_clamp (by omega)]
                            rw [e9] at hP hD
                            refine lv_iload hx hb d_Mod_firstFrame_148 (lv_at hl 2 rfl) ?_
                            refine lv_iconst (v := 2) hx hb d_Mod_firstFrame_150 (by decide) ?_
                            refine lv_icmp_ne (tgt := 163) hx hb d_Mod_firstFrame_151 (by decide) (fun h151 => ?_) (fun h151 => ?_)
                            · exact absurd h85 h151
                            · refine lv_aload_n hx hb d_Mod_firstFrame_154 rfl (lv_at hl 5 rfl) ?_
                              refine va_get (D := g.1) (ci := 10) (v := .ref (q 47)) (C := R_Mod) (T := F_Mod) (N := 61) hx hb hts in_Mod hown hK hP 0 rfl rfl 47 (by decide) (hts _ wd_1297) (fun _ h9 => h9) rfl d_Mod_firstFrame_155 ?_
                              refine lv_iload_n hx hb d_Mod_firstFrame_158 rfl (lv_at hl 4 rfl) ?_
                              refine lv_iconst (v := 1) hx hb d_Mod_firstFrame_159 (by decide) ?_
                              refine lv_iadd hx hb d_Mod_firstFrame_160 ?_
                              refine tw_ri (e2 := nI (nx + 1)) (nI_add nx 1) ?_
                              refine lv_iconst (v := 3) hx hb d_Mod_firstFrame_161 (by decide) ?_
                              refine va_iast hx hb hK hP hD hS 12 0 rfl rfl (vp_in_nI (by omega) (by decide)) d_Mod_firstFrame_162 (fun H locs hP hD hS => ?_)
                              have hP : va_P g.1 classes [(h0, .inr (10, mob q rf n mm mb fa fp av ev wi mn tp tc sc nf fd me mp xn mt wh tq u2.1 u2.2.1 ig)), ((q 2), aI g 600 bs), ((q 16), aI g 620 on), ((q 17), aI g 620 tw), ((q 27), aI g 160 fl), ((q 28), aI g 160 pl), ((q 30), aI g 160 ty), ((q 33), aI g 160 lo), ((q 34), aI g 160 bg), ((q 41), aI g 600 dp), ((q 42), aZ g 600 iw), ((q 43), aI g 76800 kd), ((q 47), aI g 128 (upd (upd nw8 nx (u2.2.2 (qq - 1))) (nI (nx + 1)).toNatClampNeg 3)), ((q 50), aI g 600 u2.2.2)] H := hP
                              have hD : va_D A [(h0, .inr (10, mob q rf n mm mb fa fp av ev wi mn tp tc sc nf fd me mp xn mt wh tq u2.1 u2.2.1 ig)), ((q 2), aI g 600 bs), ((q 16), aI g 620 on), ((q 17), aI g 620 tw), ((q 27), aI g 160 fl), ((q 28), aI g 160 pl), ((q 30), aI g 160 ty), ((q 33), aI g 160 lo), ((q 34), aI g 160 bg), ((q 41), aI g 600 dp), ((q 42), aZ g 600 iw), ((q 43), aI g 76800 kd), ((q 47), aI g 128 (upd (upd nw8 nx (u2.2.2 (qq - 1))) (nI (nx + 1)).toNatClampNeg 3)), ((q 50), aI g 600 u2.2.2)] := hD
                              have e9 : upd (upd nw8 nx (u2.2.2 (qq - 1))) (nI (nx + 1)).toNatClampNeg 3 = upd (upd nw8 nx (u2.2.2 (qq - 1))) (nx + 1) 3 := by rw [nI_clamp (by omega)]
                              rw [e9] at hP hD
                              refine lv_iload_n hx hb d_Mod_firstFrame_163 rfl (lv_at hl 4 rfl) ?_
                              refine lv_iload hx hb d_Mod_firstFrame_164 (lv_at hl 1 rfl) ?_
                              refine lv_iadd hx hb d_Mod_firstFrame_166 ?_
                              refine tw_ri (e2 := nI (nx + 2)) (nI_add nx 2) ?_
                              refine lv_istore_n hx hb d_Mod_firstFrame_167 rfl hl (by decide) rfl (fun ls hl => ?_)
                              have hl : lv_has ls 7 [(2, .int (nI (nx + 2))), (3, .int 1), (6, .int 2), (5, .int (u2.2.2 (qq - 1))), (4, .int (nI qq - 1)), (0, .ref h0), (1, .int (nI mt))] := hl
                              refine lv_iinc (k := 4) (v := nI (qq + 1) - 1) hx hb d_Mod_firstFrame_168 hl rfl (ff_up qq) (by decide) rfl (fun ls hl => ?_)
                              have hl : lv_has ls 7 [(4, .int (nI (qq + 1) - 1)), (2, .int (nI (nx + 2))), (3, .int 1), (6, .int 2), (5, .int (u2.2.2 (qq - 1))), (0, .ref h0), (1, .int (nI mt))] := hl
                              refine lv_goto (tgt := 55) hx hb d_Mod_firstFrame_171 (by decide) ?_
                              have hP : va_P g.1 classes [(h0, .inr (10, mob q rf n mm mb fa fp av ev wi mn tp tc sc nf fd me mp xn mt wh tq u2.1 u2.2.1 ig)), ((q 2), aI g 600 bs), ((q 16), aI g 620 on), ((q 17), aI g 620 tw), ((q 27), aI g 160 fl), ((q 28), aI g 160 pl), ((q 30), aI g 160 ty), ((q 33), aI g 160 lo), ((q 34), aI g 160 bg), ((q 41), aI g 600 dp), ((q 42), aZ g 600 iw), ((q 43), aI g 76800 kd), ((q 47), aI g 128 (upd (upd nw8 nx (u2.2.2 (qq - 1))) (nx + 1) 3)), ((q 50), aI g 600 u2.2.2)] H := hP.sub [0, 1, 2, 3, 4, 5, 6, 7, 8, 9, 10, 11, 12, 13] rfl
                              have hD : va_D A [(h0, .inr (10, mob q rf n mm mb fa fp av ev wi mn tp tc sc nf fd me mp xn mt wh tq u2.1 u2.2.1 ig)), ((q 2), aI g 600 bs), ((q 16), aI g 620 on), ((q 17), aI g 620 tw), ((q 27), aI g 160 fl), ((q 28), aI g 160 pl), ((q 30), aI g 160 ty), ((q 33), aI g 160 lo), ((q 34), aI g 160 bg), ((q 41), aI g 600 dp), ((q 42), aZ g 600 iw), ((q 43), aI g 76800 kd), ((q 47), aI g 128 (upd (upd nw8 nx (u2.2.2 (qq - 1))) (nx + 1) 3)), ((q 50), aI g 600 u2.2.2)] := hD.sub [0, 1, 2, 3, 4, 5, 6, 7, 8, 9, 10, 11, 12, 13] (by decide) rfl
                              exact ih55 _ (by omega) (nx + 2) 1 (qq + 1) (upd (upd nw8 nx (u2.2.2 (qq - 1))) (nx + 1) 3) ls _ _ rfl (by omega) (by omega) ((hNW8.put (kn3 hkk)).put2 (by omega) (by omega)) (lv_sub hl [0, 2, 1, 5, 6] rfl) hP hD hS
                          · refine lv_iconst (v := 0) hx hb d_Mod_firstFrame_141 (by decide) ?_
                            refine lv_goto (tgt := 147) hx hb d_Mod_firstFrame_142 (by decide) ?_
                            refine va_iast hx hb hK hP hD hS 12 0 rfl rfl (vp_in_nI (by omega) (by decide)) d_Mod_firstFrame_147 (fun H locs hP hD hS => ?_)
                            have hP : va_P g.1 classes [(h0, .inr (10, mob q rf n mm mb fa fp av ev wi mn tp tc sc nf fd me mp xn mt wh tq u2.1 u2.2.1 ig)), ((q 2), aI g 600 bs), ((q 16), aI g 620 on), ((q 17), aI g 620 tw), ((q 27), aI g 160 fl), ((q 28), aI g 160 pl), ((q 30), aI g 160 ty), ((q 33), aI g 160 lo), ((q 34), aI g 160 bg), ((q 41), aI g 600 dp), ((q 42), aZ g 600 iw), ((q 43), aI g 76800 kd), ((q 47), aI g 128 (upd nw8 (nI nx).toNatClampNeg 0)), ((q 50), aI g 600 u2.2.2)] H := hP
                            have hD : va_D A [(h0, .inr (10, mob q rf n mm mb fa fp av ev wi mn tp tc sc nf fd me mp xn mt wh tq u2.1 u2.2.1 ig)), ((q 2), aI g 600 bs), ((q 16), aI g 620 on), ((q 17), aI g 620 tw), ((q 27), aI g 160 fl), ((q 28), aI g 160 pl), ((q 30), aI g 160 ty), ((q 33), aI g 160 lo), ((q 34), aI g 160 bg), ((q 41), aI g 600 dp), ((q 42), aZ g 600 iw), ((q 43), aI g 76800 kd), ((q 47), aI g 128 (upd nw8 (nI nx).toNatClampNeg 0)), ((q 50), aI g 600 u2.2.2)] := hD
                            have e9 : upd nw8 (nI nx).toNatClampNeg 0 = upd nw8 nx 0 := by rw [nI_clamp (by omega)]
                            rw [e9] at hP hD
                            refine lv_iload hx hb d_Mod_firstFrame_148 (lv_at hl 2 rfl) ?_
                            refine lv_iconst (v := 2) hx hb d_Mod_firstFrame_150 (by decide) ?_
                            refine lv_icmp_ne (tgt := 163) hx hb d_Mod_firstFrame_151 (by decide) (fun h151 => ?_) (fun h151 => ?_)
                            · exact absurd h85 h151
                            · refine lv_aload_n hx hb d_Mod_firstFrame_154 rfl (lv_at hl 5 rfl) ?_
                              refine va_get (D := g.1) (ci := 10) (v := .ref (q 47)) (C := R_Mod) (T := F_Mod) (N := 61) hx hb hts in_Mod hown hK hP 0 rfl rfl 47 (by decide) (hts _ wd_1297) (fun _ h9 => h9) rfl d_Mod_firstFrame_155 ?_
                              refine lv_iload_n hx hb d_Mod_firstFrame_158 rfl (lv_at hl 4 rfl) ?_
                              refine lv_iconst (v := 1) hx hb d_Mod_firstFrame_159 (by decide) ?_
                              refine lv_iadd hx hb d_Mod_firstFrame_160 ?_
                              refine tw_ri (e2 := nI (nx + 1)) (nI_add nx 1) ?_
                              refine lv_iconst (v := 3) hx hb d_Mod_firstFrame_161 (by decide) ?_
                              refine va_iast hx hb hK hP hD hS 12 0 rfl rfl (vp_in_nI (by omega) (by decide)) d_Mod_firstFrame_162 (fun H locs hP hD hS => ?_)
                              have hP : va_P g.1 classes [(h0, .inr (10, mob q rf n mm mb fa fp av ev wi mn tp tc sc nf fd me mp xn mt wh tq u2.1 u2.2.1 ig)), ((q 2), aI g 600 bs), ((q 16), aI g 620 on), ((q 17), aI g 620 tw), ((q 27), aI g 160 fl), ((q 28), aI g 160 pl), ((q 30), aI g 160 ty), ((q 33), aI g 160 lo), ((q 34), aI g 160 bg), ((q 41), aI g 600 dp), ((q 42), aZ g 600 iw), ((q 43), aI g 76800 kd), ((q 47), aI g 128 (upd (upd nw8 nx 0) (nI (nx + 1)).toNatClampNeg 3)), ((q 50), aI g 600 u2.2.2)] H := hP
                              have hD : va_D A [(h0, .inr (10, mob q rf n mm mb fa fp av ev wi mn tp tc sc nf fd me mp xn mt wh tq u2.1 u2.2.1 ig)), ((q 2), aI g 600 bs), ((q 16), aI g 620 on), ((q 17), aI g 620 tw), ((q 27), aI g 160 fl), ((q 28), aI g 160 pl), ((q 30), aI g 160 ty), ((q 33), aI g 160 lo), ((q 34), aI g 160 bg), ((q 41), aI g 600 dp), ((q 42), aZ g 600 iw), ((q 43), aI g 76800 kd), ((q 47), aI g 128 (upd (upd nw8 nx 0) (nI (nx + 1)).toNatClampNeg 3)), ((q 50), aI g 600 u2.2.2)] := hD
                              have e9 : upd (upd nw8 nx 0) (nI (nx + 1)).toNatClampNeg 3 = upd (upd nw8 nx 0) (nx + 1) 3 := by rw [nI_clamp (by omega)]
                              rw [e9] at hP hD
                              refine lv_iload_n hx hb d_Mod_firstFrame_163 rfl (lv_at hl 4 rfl) ?_
                              refine lv_iload hx hb d_Mod_firstFrame_164 (lv_at hl 1 rfl) ?_
                              refine lv_iadd hx hb d_Mod_firstFrame_166 ?_
                              refine tw_ri (e2 := nI (nx + 2)) (nI_add nx 2) ?_
                              refine lv_istore_n hx hb d_Mod_firstFrame_167 rfl hl (by decide) rfl (fun ls hl => ?_)
                              have hl : lv_has ls 7 [(2, .int (nI (nx + 2))), (3, .int 1), (6, .int 2), (5, .int (u2.2.2 (qq - 1))), (4, .int (nI qq - 1)), (0, .ref h0), (1, .int (nI mt))] := hl
                              refine lv_iinc (k := 4) (v := nI (qq + 1) - 1) hx hb d_Mod_firstFrame_168 hl rfl (ff_up qq) (by decide) rfl (fun ls hl => ?_)
                              have hl : lv_has ls 7 [(4, .int (nI (qq + 1) - 1)), (2, .int (nI (nx + 2))), (3, .int 1), (6, .int 2), (5, .int (u2.2.2 (qq - 1))), (0, .ref h0), (1, .int (nI mt))] := hl
                              refine lv_goto (tgt := 55) hx hb d_Mod_firstFrame_171 (by decide) ?_
                              have hP : va_P g.1 classes [(h0, .inr (10, mob q rf n mm mb fa fp av ev wi mn tp tc sc nf fd me mp xn mt wh tq u2.1 u2.2.1 ig)), ((q 2), aI g 600 bs), ((q 16), aI g 620 on), ((q 17), aI g 620 tw), ((q 27), aI g 160 fl), ((q 28), aI g 160 pl), ((q 30), aI g 160 ty), ((q 33), aI g 160 lo), ((q 34), aI g 160 bg), ((q 41), aI g 600 dp), ((q 42), aZ g 600 iw), ((q 43), aI g 76800 kd), ((q 47), aI g 128 (upd (upd nw8 nx 0) (nx + 1) 3)), ((q 50), aI g 600 u2.2.2)] H := hP.sub [0, 1, 2, 3, 4, 5, 6, 7, 8, 9, 10, 11, 12, 13] rfl
                              have hD : va_D A [(h0, .inr (10, mob q rf n mm mb fa fp av ev wi mn tp tc sc nf fd me mp xn mt wh tq u2.1 u2.2.1 ig)), ((q 2), aI g 600 bs), ((q 16), aI g 620 on), ((q 17), aI g 620 tw), ((q 27), aI g 160 fl), ((q 28), aI g 160 pl), ((q 30), aI g 160 ty), ((q 33), aI g 160 lo), ((q 34), aI g 160 bg), ((q 41), aI g 600 dp), ((q 42), aZ g 600 iw), ((q 43), aI g 76800 kd), ((q 47), aI g 128 (upd (upd nw8 nx 0) (nx + 1) 3)), ((q 50), aI g 600 u2.2.2)] := hD.sub [0, 1, 2, 3, 4, 5, 6, 7, 8, 9, 10, 11, 12, 13] (by decide) rfl
                              exact ih55 _ (by omega) (nx + 2) 1 (qq + 1) (upd (upd nw8 nx 0) (nx + 1) 3) ls _ _ rfl (by omega) (by omega) ((hNW8.put (by decide)).put2 (by omega) (by omega)) (lv_sub hl [0, 2, 1, 5, 6] rfl) hP hD hS
                  · refine lv_iload hx hb d_Mod_firstFrame_88 (lv_at hl 0 rfl) ?_
                    refine lv_bipush (v := 9) hx hb d_Mod_firstFrame_90 (by decide) ?_
                    refine lv_icmp_le (tgt := 99) hx hb d_Mod_firstFrame_92 (by decide) (fun h92 => ?_) (fun h92 => ?_)
                    · refine lv_iconst (v := 1) hx hb d_Mod_firstFrame_99 (by decide) ?_
                      refine lv_istore hx hb d_Mod_firstFrame_100 hl (by decide) rfl (fun ls hl => ?_)
                      have hl : lv_has ls 7 [(6, .int 1), (5, .int (u2.2.2 (qq - 1))), (4, .int (nI qq - 1)), (3, .int ft), (2, .int (nI nx)), (0, .ref h0), (1, .int (nI mt))] := hl
                      refine lv_iload_n hx hb d_Mod_firstFrame_102 rfl (lv_at hl 3 rfl) ?_
                      refine lv_if_eq (tgt := 123) hx hb d_Mod_firstFrame_103 (by decide) (fun h103 => ?_) (fun h103 => ?_)
                      · refine lv_iconst (v := 0) hx hb d_Mod_firstFrame_123 (by decide) ?_
                        refine lv_istore_n hx hb d_Mod_firstFrame_124 rfl hl (by decide) rfl (fun ls hl => ?_)
                        have hl : lv_has ls 7 [(3, .int 0), (6, .int 1), (5, .int (u2.2.2 (qq - 1))), (4, .int (nI qq - 1)), (2, .int (nI nx)), (0, .ref h0), (1, .int (nI mt))] := hl
                        refine lv_iload_n hx hb d_Mod_firstFrame_125 rfl (lv_at hl 0 rfl) ?_
                        refine lv_if_eq (tgt := 163) hx hb d_Mod_firstFrame_126 (by decide) (fun h126 => ?_) (fun h126 => ?_)
                        · refine lv_iload_n hx hb d_Mod_firstFrame_163 rfl (lv_at hl 4 rfl) ?_
                          refine lv_iload hx hb d_Mod_firstFrame_164 (lv_at hl 1 rfl) ?_
                          refine lv_iadd hx hb d_Mod_firstFrame_166 ?_
                          refine tw_ri (e2 := nI (nx + 1)) (nI_add nx 1) ?_
                          refine lv_istore_n hx hb d_Mod_firstFrame_167 rfl hl (by decide) rfl (fun ls hl => ?_)
                          have hl : lv_has ls 7 [(2, .int (nI (nx + 1))), (3, .int 0), (6, .int 1), (5, .int (u2.2.2 (qq - 1))), (4, .int (nI qq - 1)), (0, .ref h0), (1, .int (nI mt))] := hl
                          refine lv_iinc (k := 4) (v := nI (qq + 1) - 1) hx hb d_Mod_firstFrame_168 hl rfl (ff_up qq) (by decide) rfl (fun ls hl => ?_)
                          have hl : lv_has ls 7 [(4, .int (nI (qq + 1) - 1)), (2, .int (nI (nx + 1))), (3, .int 0), (6, .int 1), (5, .int (u2.2.2 (qq - 1))), (0, .ref h0), (1, .int (nI mt))] := hl
                          refine lv_goto (tgt := 55) hx hb d_Mod_firstFrame_171 (by decide) ?_
                          have hP : va_P g.1 classes [(h0, .inr (10, mob q rf n mm mb fa fp av ev wi mn tp tc sc nf fd me mp xn mt wh tq u2.1 u2.2.1 ig)), ((q 2), aI g 600 bs), ((q 16), aI g 620 on), ((q 17), aI g 620 tw), ((q 27), aI g 160 fl), ((q 28), aI g 160 pl), ((q 30), aI g 160 ty), ((q 33), aI g 160 lo), ((q 34), aI g 160 bg), ((q 41), aI g 600 dp), ((q 42), aZ g 600 iw), ((q 43), aI g 76800 kd), ((q 47), aI g 128 nw8), ((q 50), aI g 600 u2.2.2)] H := hP.sub [0, 1, 2, 3, 4, 5, 6, 7, 8, 9, 10, 11, 12, 13] rfl
                          have hD : va_D A [(h0, .inr (10, mob q rf n mm mb fa fp av ev wi mn tp tc sc nf fd me mp xn mt wh tq u2.1 u2.2.1 ig)), ((q 2), aI g 600 bs), ((q 16), aI g 620 on), ((q 17), aI g 620 tw), ((q 27), aI g 160 fl), ((q 28), aI g 160 pl), ((q 30), aI g 160 ty), ((q 33), aI g 160 lo), ((q 34), aI g 160 bg), ((q 41), aI g 600 dp), ((q 42), aZ g 600 iw), ((q 43), aI g 76800 kd), ((q 47), aI g 128 nw8), ((q 50), aI g 600 u2.2.2)] := hD.sub [0, 1, 2, 3, 4, 5, 6, 7, 8, 9, 10, 11, 12, 13] (by decide) rfl
                          exact ih55 _ (by omega) (nx + 1) 0 (qq + 1) nw8 ls _ _ rfl (by omega) (by omega) hNW8 (lv_sub hl [0, 2, 1, 5, 6] rfl) hP hD hS
                        · first | exact absurd h126 (by decide) | exact absurd (by decide) h126
                      · refine lv_iload_n hx hb d_Mod_firstFrame_106 rfl (lv_at hl 4 rfl) ?_
                        refine lv_iload hx hb d_Mod_firstFrame_107 (lv_at hl 0 rfl) ?_
                        refine lv_iadd hx hb d_Mod_firstFrame_109 ?_
                        refine tw_ri (e2 := nI (nx + 1)) (nI_add nx 1) ?_
                        refine lv_aload_n hx hb d_Mod_firstFrame_110 rfl (lv_at hl 5 rfl) ?_
                        refine va_get (D := g.1) (ci := 10) (v := .ref (q 33)) (C := R_Mod) (T := F_Mod) (N := 61) hx hb hts in_Mod hown hK hP 0 rfl rfl 33 (by decide) (hts _ wd_1283) (fun _ h9 => h9) rfl d_Mod_firstFrame_111 ?_
                        refine lv_iload_n hx hb d_Mod_firstFrame_114 rfl (lv_at hl 6 rfl) ?_
                        refine va_iald hx hb hK hP 7 0 rfl rfl (vp_in_nI (by omega) (by decide)) d_Mod_firstFrame_115 ?_
                        refine tw_ri (e2 := nI o1) (by rw [nI_clamp (by omega)]; exact hlo) ?_
                        refine lv_icmp_gt (tgt := 123) hx hb d_Mod_firstFrame_116 (by decide) (fun h116 => ?_) (fun h116 => ?_)
                        · refine lv_iconst (v := 0) hx hb d_Mod_firstFrame_123 (by decide) ?_
                          refine lv_istore_n hx hb d_Mod_firstFrame_124 rfl hl (by decide) rfl (fun ls hl => ?_)
                          have hl : lv_has ls 7 [(3, .int 0), (6, .int 1), (5, .int (u2.2.2 (qq - 1))), (4, .int (nI qq - 1)), (2, .int (nI nx)), (0, .ref h0), (1, .int (nI mt))] := hl
                          refine lv_iload_n hx hb d_Mod_firstFrame_125 rfl (lv_at hl 0 rfl) ?_
                          refine lv_if_eq (tgt := 163) hx hb d_Mod_firstFrame_126 (by decide) (fun h126 => ?_) (fun h126 => ?_)
                          · refine lv_iload_n hx hb d_Mod_firstFrame_163 rfl (lv_at hl 4 rfl) ?_
                            refine lv_iload hx hb d_Mod_firstFrame_164 (lv_at hl 1 rfl) ?_
                            refine lv_iadd hx hb d_Mod_firstFrame_166 ?_
                            refine tw_ri (e2 := nI (nx + 1)) (nI_add nx 1) ?_
                            refine lv_istore_n hx hb d_Mod_firstFrame_167 rfl hl (by decide) rfl (fun ls hl => ?_)
                            have hl : lv_has ls 7 [(2, .int (nI (nx + 1))), (3, .int 0), (6, .int 1), (5, .int (u2.2.2 (qq - 1))), (4, .int (nI qq - 1)), (0, .ref h0), (1, .int (nI mt))] := hl
                            refine lv_iinc (k := 4) (v := nI (qq + 1) - 1) hx hb d_Mod_firstFrame_168 hl rfl (ff_up qq) (by decide) rfl (fun ls hl => ?_)
                            have hl : lv_has ls 7 [(4, .int (nI (qq + 1) - 1)), (2, .int (nI (nx + 1))), (3, .int 0), (6, .int 1), (5, .int (u2.2.2 (qq - 1))), (0, .ref h0), (1, .int (nI mt))] := hl
                            refine lv_goto (tgt := 55) hx hb d_Mod_firstFrame_171 (by decide) ?_
                            have hP : va_P g.1 classes [(h0, .inr (10, mob q rf n mm mb fa fp av ev wi mn tp tc sc nf fd me mp xn mt wh tq u2.1 u2.2.1 ig)), ((q 2), aI g 600 bs), ((q 16), aI g 620 on), ((q 17), aI g 620 tw), ((q 27), aI g 160 fl), ((q 28), aI g 160 pl), ((q 30), aI g 160 ty), ((q 33), aI g 160 lo), ((q 34), aI g 160 bg), ((q 41), aI g 600 dp), ((q 42), aZ g 600 iw), ((q 43), aI g 76800 kd), ((q 47), aI g 128 nw8), ((q 50), aI g 600 u2.2.2)] H := hP.sub [0, 1, 2, 3, 4, 5, 6, 7, 8, 9, 10, 11, 12, 13] rfl
                            have hD : va_D A [(h0, .inr (10, mob q rf n mm mb fa fp av ev wi mn tp tc sc nf fd me mp xn mt wh tq u2.1 u2.2.1 ig)), ((q 2), aI g 600 bs), ((q 16), aI g 620 on), ((q 17), aI g 620 tw), ((q 27), aI g 160 fl), ((q 28), aI g 160 pl), ((q 30), aI g 160 ty), ((q 33), aI g 160 lo), ((q 34), aI g 160 bg), ((q 41), aI g 600 dp), ((q 42), aZ g 600 iw), ((q 43), aI g 76800 kd), ((q 47), aI g 128 nw8), ((q 50), aI g 600 u2.2.2)] := hD.sub [0, 1, 2, 3, 4, 5, 6, 7, 8, 9, 10, 11, 12, 13] (by decide) rfl
                            exact ih55 _ (by omega) (nx + 1) 0 (qq + 1) nw8 ls _ _ rfl (by omega) (by omega) hNW8 (lv_sub hl [0, 2, 1, 5, 6] rfl) hP hD hS
                          · first | exact absurd h126 (by decide) | exact absurd (by decide) h126
                        · have h116 := tn_nlt h116 (by omega) (by omega)
                          refine lv_iconst (v := 1) hx hb d_Mod_firstFrame_119 (by decide) ?_
                          refine lv_goto (tgt := 124) hx hb d_Mod_firstFrame_120 (by decide) ?_
                          refine lv_istore_n hx hb d_Mod_firstFrame_124 rfl hl (by decide) rfl (fun ls hl => ?_)
                          have hl : lv_has ls 7 [(3, .int 1), (6, .int 1), (5, .int (u2.2.2 (qq - 1))), (4, .int (nI qq - 1)), (2, .int (nI nx)), (0, .ref h0), (1, .int (nI mt))] := hl
                          refine lv_iload_n hx hb d_Mod_firstFrame_125 rfl (lv_at hl 0 rfl) ?_
                          refine lv_if_eq (tgt := 163) hx hb d_Mod_firstFrame_126 (by decide) (fun h126 => ?_) (fun h126 => ?_)
                          · first | exact absurd h126 (by decide) | exact absurd (by decide) h126
                          · refine lv_aload_n hx hb d_Mod_firstFrame_129 rfl (lv_at hl 5 rfl) ?_
                            refine va_get (D := g.1) (ci := 10) (v := .ref (q 47)) (C := R_Mod) (T := F_Mod) (N := 61) hx hb hts in_Mod hown hK hP 0 rfl rfl 47 (by decide) (hts _ wd_1297) (fun _ h9 => h9) rfl d_Mod_firstFrame_130 ?_
                            refine lv_iload_n hx hb d_Mod_firstFrame_133 rfl (lv_at hl 4 rfl) ?_
                            refine lv_iload hx hb d_Mod_firstFrame_134 (lv_at hl 2 rfl) ?_
                            refine lv_bipush (v := 9) hx hb d_Mod_firstFrame_136 (by decide) ?_
                            refine lv_icmp_lt (tgt := 145) hx hb d_Mod_firstFrame_138 (by decide) (fun h138 => ?_) (fun h138 => ?_)
                            · refine lv_iload hx hb d_Mod_firstFrame_145 (lv_at hl 2 rfl) ?_
                              refine va_iast hx hb hK hP hD hS 12 0 rfl rfl (vp_in_nI (by omega) (by decide)) d_Mod_firstFrame_147 (fun H locs hP hD hS => ?_)
                              have hP : va_P g.1 classes [(h0, .inr (10, mob q rf n mm mb fa fp av ev wi mn tp tc sc nf fd me mp xn mt wh tq u2.1 u2.2.1 ig)), ((q 2), aI g 600 bs), ((q 16), aI g 620 on), ((q 17), aI g 620 tw), ((q 27), aI g 160 fl), ((q 28), aI g 160 pl), ((q 30), aI g 160 ty), ((q 33), aI g 160 lo), ((q 34), aI g 160 bg), ((q 41), aI g 600 dp), ((q 42), aZ g 600 iw), ((q 43), aI g 76800 kd), ((q 47), aI g 128 (upd nw8 (nI nx).toNatClampNeg (u2.2.2 (qq - 1)))), ((q 50), aI g 600 u2.2.2)] H := hP
                              have hD : va_D A [(h0, .inr (10, mob q rf n mm mb fa fp av ev wi mn tp tc sc nf fd me mp xn mt wh tq u2.1 u2.2.1 ig)), ((q 2), aI g 600 bs), ((q 16), aI g 620 on), ((q 17), aI g 620 tw), ((q 27), aI g 160 fl), ((q 28), aI g 160 pl), ((q 30), aI g 160 ty), ((q 33), aI g 160 lo), ((q 34), aI g 160 bg), ((q 41), aI g 600 dp), ((q 42), aZ g 600 iw), ((q 43), aI g 76800 kd), ((q 47), aI g 128 (upd nw8 (nI nx).toNatClampNeg (u2.2.2 (qq - 1)))), ((q 50), aI g 600 u2.2.2)] := hD
                              have e9 : upd nw8 (nI nx).toNatClampNeg (u2.2.2 (qq - 1)) = upd nw8 nx (u2.2.2 (qq - 1)) := by rw [nI_clamp (by omega)]
                              rw [e9] at hP hD
                              refine lv_iload hx hb d_Mod_firstFrame_148 (lv_at hl 2 rfl) ?_
                              refine lv_iconst (v := 2) hx hb d_Mod_firstFrame_150 (by decide) ?_
                              refine lv_icmp_ne (tgt := 163) hx hb d_Mod_firstFrame_151 (by decide) (fun h151 => ?_) (fun h151 => ?_)
                              · refine lv_iload_n hx hb d_Mod_firstFrame_163 rfl (lv_at hl 4 rfl) ?_
                                refine lv_iload hx hb d_Mod_firstFrame_164 (lv_at hl 1 rfl) ?_
                                refine lv_iadd hx hb d_Mod_firstFrame_166 ?_
                                refine tw_ri (e2 := nI (nx + 1)) (nI_add nx 1) ?_
                                refine lv_istore_n hx hb d_Mod_firstFrame_167 rfl hl (by decide) rfl (fun ls hl => ?_)
                                have hl : lv_has ls 7 [(2, .int (nI (nx + 1))), (3, .int 1), (6, .int 1), (5, .int (u2.2.2 (qq - 1))), (4, .int (nI qq - 1)), (0, .ref h0), (1, .int (nI mt))] := hl
                                refine lv_iinc (k := 4) (v := nI (qq + 1) - 1) hx hb d_Mod_firstFrame_168 hl rfl (ff_up qq) (by decide) rfl (fun ls hl => ?_)
                                have hl : lv_has ls 7 [(4, .int (nI (qq + 1) - 1)), (2, .int (nI (nx + 1))), (3, .int 1), (6, .int 1), (5, .int (u2.2.2 (qq - 1))), (0, .ref h0), (1, .int (nI mt))] := hl
                                refine lv_goto (tgt := 55) hx hb d_Mod_firstFrame_171 (by decide) ?_
                                have hP : va_P g.1 classes [(h0, .inr (10, mob q rf n mm mb fa fp av ev wi mn tp tc sc nf fd me mp xn mt wh tq u2.1 u2.2.1 ig)), ((q 2), aI g 600 bs), ((q 16), aI g 620 on), ((q 17), aI g 620 tw), ((q 27), aI g 160 fl), ((q 28), aI g 160 pl), ((q 30), aI g 160 ty), ((q 33), aI g 160 lo), ((q 34), aI g 160 bg), ((q 41), aI g 600 dp), ((q 42), aZ g 600 iw), ((q 43), aI g 76800 kd), ((q 47), aI g 128 (upd nw8 nx (u2.2.2 (qq - 1)))), ((q 50), aI g 600 u2.2.2)] H := hP.sub [0, 1, 2, 3, 4, 5, 6, 7, 8, 9, 10, 11, 12, 13] rfl
                                have hD : va_D A [(h0, .inr (10, mob q rf n mm mb fa fp av ev wi mn tp tc sc nf fd me mp xn mt wh tq u2.1 u2.2.1 ig)), ((q 2), aI g 600 bs), ((q 16), aI g 620 on), ((q 17), aI g 620 tw), ((q 27), aI g 160 fl), ((q 28), aI g 160 pl), ((q 30), aI g 160 ty), ((q 33), aI g 160 lo), ((q 34), aI g 160 bg), ((q 41), aI g 600 dp), ((q 42), aZ g 600 iw), ((q 43), aI g 76800 kd), ((q 47), aI g 128 (upd nw8 nx (u2.2.2 (qq - 1)))), ((q 50), aI g 600 u2.2.2)] := hD.sub [0, 1, 2, 3, 4, 5, 6, 7, 8, 9, 10, 11, 12, 13] (by decide) rfl
                                exact ih55 _ (by omega) (nx + 1) 1 (qq + 1) (upd nw8 nx (u2.2.2 (qq - 1))) ls _ _ rfl (by omega) (by omega) (hNW8.put (kn3 hkk)) (lv_sub hl [0, 2, 1, 5, 6] rfl) hP hD hS
                              · exact absurd h151 h85
                            · refine lv_iconst (v := 0) hx hb d_Mod_firstFrame_141 (by decide) ?_
                              refine lv_goto (tgt := 147) hx hb d_Mod_firstFrame_142 (by decide) ?_
                              refine va_iast hx hb hK hP hD hS 12 0 rfl rfl (vp_in_nI (by omega) (by decide)) d_Mod_firstFrame_147 (fun H locs hP hD hS => ?_)
                              have hP : va_P g.1 classes [(h0, .inr (10, mob q rf n mm mb fa fp av ev wi mn tp tc sc nf fd me mp xn mt wh tq u2.1 u2.2.1 ig)), ((q 2), aI g 600 bs), ((q 16), aI g 620 on), ((q 17), aI g 620 tw), ((q 27), aI g 160 fl), ((q 28), aI g 160 pl), ((q 30), aI g 160 ty), ((q 33), aI g 160 lo), ((q 34), aI g 160 bg), ((q 41), aI g 600 dp), ((q 42), aZ g 600 iw), ((q 43), aI g 76800 kd), ((q 47), aI g 128 (upd nw8 (nI nx).toNatClampNeg 0)), ((q 50), aI g 600 u2.2.2)] H := hP
                              have hD : va_D A [(h0, .inr (10, mob q rf n mm mb fa fp av ev wi mn tp tc sc nf fd me mp xn mt wh tq u2.1 u2.2.1 ig)), ((q 2), aI g 600 bs), ((q 16), aI g 620 on), ((q 17), aI g 620 tw), ((q 27), aI g 160 fl), ((q 28), aI g 160 pl), ((q 30), aI g 160 ty), ((q 33), aI g 160 lo), ((q 34), aI g 160 bg), ((q 41), aI g 600 dp), ((q 42), aZ g 600 iw), ((q 43), aI g 76800 kd), ((q 47), aI g 128 (upd nw8 (nI nx).toNatClampNeg 0)), ((q 50), aI g 600 u2.2.2)] := hD
                              have e9 : upd nw8 (nI nx).toNatClampNeg 0 = upd nw8 nx 0 := by rw [nI_clamp (by omega)]
                              rw [e9] at hP hD
                              refine lv_iload hx hb d_Mod_firstFrame_148 (lv_at hl 2 rfl) ?_
                              refine lv_iconst (v := 2) hx hb d_Mod_firstFrame_150 (by decide) ?_
                              refine lv_icmp_ne (tgt := 163) hx hb d_Mod_firstFrame_151 (by decide) (fun h151 => ?_) (fun h151 => ?_)
                              · refine lv_iload_n hx hb d_Mod_firstFrame_163 rfl (lv_at hl 4 rfl) ?_
                                refine lv_iload hx hb d_Mod_firstFrame_164 (lv_at hl 1 rfl) ?_
                                refine lv_iadd hx hb d_Mod_firstFrame_166 ?_
                                refine tw_ri (e2 := nI (nx + 1)) (nI_add nx 1) ?_
                                refine lv_istore_n hx hb d_Mod_firstFrame_167 rfl hl (by decide) rfl (fun ls hl => ?_)
                                have hl : lv_has ls 7 [(2, .int (nI (nx + 1))), (3, .int 1), (6, .int 1), (5, .int (u2.2.2 (qq - 1))), (4, .int (nI qq - 1)), (0, .ref h0), (1, .int (nI mt))] := hl
                                refine lv_iinc (k := 4) (v := nI (qq + 1) - 1) hx hb d_Mod_firstFrame_168 hl rfl (ff_up qq) (by decide) rfl (fun ls hl => ?_)
                                have hl : lv_has ls 7 [(4, .int (nI (qq + 1) - 1)), (2, .int (nI (nx + 1))), (3, .int 1), (6, .int 1), (5, .int (u2.2.2 (qq - 1))), (0, .ref h0), (1, .int (nI mt))] := hl
                                refine lv_goto (tgt := 55) hx hb d_Mod_firstFrame_171 (by decide) ?_
                                have hP : va_P g.1 classes [(h0, .inr (10, mob q rf n mm mb fa fp av ev wi mn tp tc sc nf fd me mp xn mt wh tq u2.1 u2.2.1 ig)), ((q 2), aI g 600 bs), ((q 16), aI g 620 on), ((q 17), aI g 620 tw), ((q 27), aI g 160 fl), ((q 28), aI g 160 pl), ((q 30), aI g 160 ty), ((q 33), aI g 160 lo), ((q 34), aI g 160 bg), ((q 41), aI g 600 dp), ((q 42), aZ g 600 iw), ((q 43), aI g 76800 kd), ((q 47), aI g 128 (upd nw8 nx 0)), ((q 50), aI g 600 u2.2.2)] H := hP.sub [0, 1, 2, 3, 4, 5, 6, 7, 8, 9, 10, 11, 12, 13] rfl
                                have hD : va_D A [(h0, .inr (10, mob q rf n mm mb fa fp av ev wi mn tp tc sc nf fd me mp xn mt wh tq u2.1 u2.2.1 ig)), ((q 2), aI g 600 bs), ((q 16), aI g 620 on), ((q 17), aI g 620 tw), ((q 27), aI g 160 fl), ((q 28), aI g 160 pl), ((q 30), aI g 160 ty), ((q 33), aI g 160 lo), ((q 34), aI g 160 bg), ((q 41), aI g 600 dp), ((q 42), aZ g 600 iw), ((q 43), aI g 76800 kd), ((q 47), aI g 128 (upd nw8 nx 0)), ((q 50), aI g 600 u2.2.2)] := hD.sub [0, 1, 2, 3, 4, 5, 6, 7, 8, 9, 10, 11, 12, 13] (by decide) rfl
                                exact ih55 _ (by omega) (nx + 1) 1 (qq + 1) (upd nw8 nx 0) ls _ _ rfl (by omega) (by omega) (hNW8.put (by decide)) (lv_sub hl [0, 2, 1, 5, 6] rfl) hP hD hS
                              · exact absurd h151 h85
                    · refine lv_iconst (v := 2) hx hb d_Mod_firstFrame_95 (by decide) ?_
                      refine lv_goto (tgt := 100) hx hb d_Mod_firstFrame_96 (by decide) ?_
                      refine lv_istore hx hb d_Mod_firstFrame_100 hl (by decide) rfl (fun ls hl => ?_)
                      have hl : lv_has ls 7 [(6, .int 2), (5, .int (u2.2.2 (qq - 1))), (4, .int (nI qq - 1)), (3, .int ft), (2, .int (nI nx)), (0, .ref h0), (1, .int (nI mt))] := hl
                      refine lv_iload_n hx hb d_Mod_firstFrame_102 rfl (lv_at hl 3 rfl) ?_
                      refine lv_if_eq (tgt := 123) hx hb d_Mod_firstFrame_103 (by decide) (fun h103 => ?_) (fun h103 => ?_)
                      · refine lv_iconst (v := 0) hx hb d_Mod_firstFrame_123 (by decide) ?_
                        refine lv_istore_n hx hb d_Mod_firstFrame_124 rfl hl (by decide) rfl (fun ls hl => ?_)
                        have hl : lv_has ls 7 [(3, .int 0), (6, .int 2), (5, .int (u2.2.2 (qq - 1))), (4, .int (nI qq - 1)), (2, .int (nI nx)), (0, .ref h0), (1, .int (nI mt))] := hl
                        refine lv_iload_n hx hb d_Mod_firstFrame_125 rfl (lv_at hl 0 rfl) ?_
                        refine lv_if_eq (tgt := 163) hx hb d_Mod_firstFrame_126 (by decide) (fun h126 => ?_) (fun h126 => ?_)
                        · refine lv_iload_n hx hb d_Mod_firstFrame_163 rfl (lv_at hl 4 rfl) ?_
                          refine lv_iload hx hb d_Mod_firstFrame_164 (lv_at hl 1 rfl) ?_
                          refine lv_iadd hx hb d_Mod_firstFrame_166 ?_
                          refine tw_ri (e2 := nI (nx + 2)) (nI_add nx 2) ?_
                          refine lv_istore_n hx hb d_Mod_firstFrame_167 rfl hl (by decide) rfl (fun ls hl => ?_)
                          have hl : lv_has ls 7 [(2, .int (nI (nx + 2))), (3, .int 0), (6, .int 2), (5, .int (u2.2.2 (qq - 1))), (4, .int (nI qq - 1)), (0, .ref h0), (1, .int (nI mt))] := hl
                          refine lv_iinc (k := 4) (v := nI (qq + 1) - 1) hx hb d_Mod_firstFrame_168 hl rfl (ff_up qq) (by decide) rfl (fun ls hl => ?_)
                          have hl : lv_has ls 7 [(4, .int (nI (qq + 1) - 1)), (2, .int (nI (nx + 2))), (3, .int 0), (6, .int 2), (5, .int (u2.2.2 (qq - 1))), (0, .ref h0), (1, .int (nI mt))] := hl
                          refine lv_goto (tgt := 55) hx hb d_Mod_firstFrame_171 (by decide) ?_
                          have hP : va_P g.1 classes [(h0, .inr (10, mob q rf n mm mb fa fp av ev wi mn tp tc sc nf fd me mp xn mt wh tq u2.1 u2.2.1 ig)), ((q 2), aI g 600 bs), ((q 16), aI g 620 on), ((q 17), aI g 620 tw), ((q 27), aI g 160 fl), ((q 28), aI g 160 pl), ((q 30), aI g 160 ty), ((q 33), aI g 160 lo), ((q 34), aI g 160 bg), ((q 41), aI g 600 dp), ((q 42), aZ g 600 iw), ((q 43), aI g 76800 kd), ((q 47), aI g 128 nw8), ((q 50), aI g 600 u2.2.2)] H := hP.sub [0, 1, 2, 3, 4, 5, 6, 7, 8, 9, 10, 11, 12, 13] rfl
                          have hD : va_D A [(h0, .inr (10, mob q rf n mm mb fa fp av ev wi mn tp tc sc nf fd me mp xn mt wh tq u2.1 u2.2.1 ig)), ((q 2), aI g 600 bs), ((q 16), aI g 620 on), ((q 17), aI g 620 tw), ((q 27), aI g 160 fl), ((q 28), aI g 160 pl), ((q 30), aI g 160 ty), ((q 33), aI g 160 lo), ((q 34), aI g 160 bg), ((q 41), aI g 600 dp), ((q 42), aZ g 600 iw), ((q 43), aI g 76800 kd), ((q 47), aI g 128 nw8), ((q 50), aI g 600 u2.2.2)] := hD.sub [0, 1, 2, 3, 4, 5, 6, 7, 8, 9, 10, 11, 12, 13] (by decide) rfl
                          exact ih55 _ (by omega) (nx + 2) 0 (qq + 1) nw8 ls _ _ rfl (by omega) (by omega) hNW8 (lv_sub hl [0, 2, 1, 5, 6] rfl) hP hD hS
                        · first | exact absurd h126 (by decide) | exact absurd (by decide) h126
                      · refine lv_iload_n hx hb d_Mod_firstFrame_106 rfl (lv_at hl 4 rfl) ?_
                        refine lv_iload hx hb d_Mod_firstFrame_107 (lv_at hl 0 rfl) ?_
                        refine lv_iadd hx hb d_Mod_firstFrame_109 ?_
                        refine tw_ri (e2 := nI (nx + 2)) (nI_add nx 2) ?_
                        refine lv_aload_n hx hb d_Mod_firstFrame_110 rfl (lv_at hl 5 rfl) ?_
                        refine va_get (D := g.1) (ci := 10) (v := .ref (q 33)) (C := R_Mod) (T := F_Mod) (N := 61) hx hb hts in_Mod hown hK hP 0 rfl rfl 33 (by decide) (hts _ wd_1283) (fun _ h9 => h9) rfl d_Mod_firstFrame_111 ?_
                        refine lv_iload_n hx hb d_Mod_firstFrame_114 rfl (lv_at hl 6 rfl) ?_
                        refine va_iald hx hb hK hP 7 0 rfl rfl (vp_in_nI (by omega) (by decide)) d_Mod_firstFrame_115 ?_
                        refine tw_ri (e2 := nI o1) (by rw [nI_clamp (by omega)]; exact hlo) ?_
                        refine lv_icmp_gt (tgt := 123) hx hb d_Mod_firstFrame_116 (by decide) (fun h116 => ?_) (fun h116 => ?_)
                        · refine lv_iconst (v := 0) hx hb d_Mod_firstFrame_123 (by decide) ?_
                          refine lv_istore_n hx hb d_Mod_firstFrame_124 rfl hl (by decide) rfl (fun ls hl => ?_)
                          have hl : lv_has ls 7 [(3, .int 0), (6, .int 2), (5, .int (u2.2.2 (qq - 1))), (4, .int (nI qq - 1)), (2, .int (nI nx)), (0, .ref h0), (1, .int (nI mt))] := hl
                          refine lv_iload_n hx hb d_Mod_firstFrame_125 rfl (lv_at hl 0 rfl) ?_
                          refine lv_if_eq (tgt := 163) hx hb d_Mod_firstFrame_126 (by decide) (fun h126 => ?_) (fun h126 => ?_)
                          · refine lv_iload_n hx hb d_Mod_firstFrame_163 rfl (lv_at hl 4 rfl) ?_
                            refine lv_iload hx hb d_Mod_firstFrame_164 (lv_at hl 1 rfl) ?_
                            refine lv_iadd hx hb d_Mod_firstFrame_166 ?_
                            refine tw_ri (e2 := nI (nx + 2)) (nI_add nx 2) ?_
                            refine lv_istore_n hx hb d_Mod_firstFrame_167 rfl hl (by decide) rfl (fun ls hl => ?_)
                            have hl : lv_has ls 7 [(2, .int (nI (nx + 2))), (3, .int 0), (6, .int 2), (5, .int (u2.2.2 (qq - 1))), (4, .int (nI qq - 1)), (0, .ref h0), (1, .int (nI mt))] := hl
                            refine lv_iinc (k := 4) (v := nI (qq + 1) - 1) hx hb d_Mod_firstFrame_168 hl rfl (ff_up qq) (by decide) rfl (fun ls hl => ?_)
                            have hl : lv_has ls 7 [(4, .int (nI (qq + 1) - 1)), (2, .int (nI (nx + 2))), (3, .int 0), (6, .int 2), (5, .int (u2.2.2 (qq - 1))), (0, .ref h0), (1, .int (nI mt))] := hl
                            refine lv_goto (tgt := 55) hx hb d_Mod_firstFrame_171 (by decide) ?_
                            have hP : va_P g.1 classes [(h0, .inr (10, mob q rf n mm mb fa fp av ev wi mn tp tc sc nf fd me mp xn mt wh tq u2.1 u2.2.1 ig)), ((q 2), aI g 600 bs), ((q 16), aI g 620 on), ((q 17), aI g 620 tw), ((q 27), aI g 160 fl), ((q 28), aI g 160 pl), ((q 30), aI g 160 ty), ((q 33), aI g 160 lo), ((q 34), aI g 160 bg), ((q 41), aI g 600 dp), ((q 42), aZ g 600 iw), ((q 43), aI g 76800 kd), ((q 47), aI g 128 nw8), ((q 50), aI g 600 u2.2.2)] H := hP.sub [0, 1, 2, 3, 4, 5, 6, 7, 8, 9, 10, 11, 12, 13] rfl
                            have hD : va_D A [(h0, .inr (10, mob q rf n mm mb fa fp av ev wi mn tp tc sc nf fd me mp xn mt wh tq u2.1 u2.2.1 ig)), ((q 2), aI g 600 bs), ((q 16), aI g 620 on), ((q 17), aI g 620 tw), ((q 27), aI g 160 fl), ((q 28), aI g 160 pl), ((q 30), aI g 160 ty), ((q 33), aI g 160 lo), ((q 34), aI g 160 bg), ((q 41), aI g 600 dp), ((q 42), aZ g 600 iw), ((q 43), aI g 76800 kd), ((q 47), aI g 128 nw8), ((q 50), aI g 600 u2.2.2)] := hD.sub [0, 1, 2, 3, 4, 5, 6, 7, 8, 9, 10, 11, 12, 13] (by decide) rfl
                            exact ih55 _ (by omega) (nx + 2) 0 (qq + 1) nw8 ls _ _ rfl (by omega) (by omega) hNW8 (lv_sub hl [0, 2, 1, 5, 6] rfl) hP hD hS
                          · first | exact absurd h126 (by decide) | exact absurd (by decide) h126
                        · have h116 := tn_nlt h116 (by omega) (by omega)
                          refine lv_iconst (v := 1) hx hb d_Mod_firstFrame_119 (by decide) ?_
                          refine lv_goto (tgt := 124) hx hb d_Mod_firstFrame_120 (by decide) ?_
                          refine lv_istore_n hx hb d_Mod_firstFrame_124 rfl hl (by decide) rfl (fun ls hl => ?_)
                          have hl : lv_has ls 7 [(3, .int 1), (6, .int 2), (5, .int (u2.2.2 (qq - 1))), (4, .int (nI qq - 1)), (2, .int (nI nx)), (0, .ref h0), (1, .int (nI mt))] := hl
                          refine lv_iload_n hx hb d_Mod_firstFrame_125 rfl (lv_at hl 0 rfl) ?_
                          refine lv_if_eq (tgt := 163) hx hb d_Mod_firstFrame_126 (by decide) (fun h126 => ?_) (fun h126 => ?_)
                          · first | exact absurd h126 (by decide) | exact absurd (by decide) h126
                          · refine lv_aload_n hx hb d_Mod_firstFrame_129 rfl (lv_at hl 5 rfl) ?_
                            refine va_get (D := g.1) (ci := 10) (v := .ref (q 47)) (C := R_Mod) (T := F_Mod) (N := 61) hx hb hts in_Mod hown hK hP 0 rfl rfl 47 (by decide) (hts _ wd_1297) (fun _ h9 => h9) rfl d_Mod_firstFrame_130 ?_
                            refine lv_iload_n hx hb d_Mod_firstFrame_133 rfl (lv_at hl 4 rfl) ?_
                            refine lv_iload hx hb d_Mod_firstFrame_134 (lv_at hl 2 rfl) ?_
                            refine lv_bipush (v := 9) hx hb d_Mod_firstFrame_136 (by decide) ?_
                            refine lv_icmp_lt (tgt := 145) hx hb d_Mod_firstFrame_138 (by decide) (fun h138 => ?_) (fun h138 => ?_)
                            · refine lv_iload hx hb d_Mod_firstFrame_145 (lv_at hl 2 rfl) ?_
                              refine va_iast hx hb hK hP hD hS 12 0 rfl rfl (vp_in_nI (by omega) (by decide)) d_Mod_firstFrame_147 (fun H locs hP hD hS => ?_)
                              have hP : va_P g.1 classes [(h0, .inr (10, mob q rf n mm mb fa fp av ev wi mn tp tc sc nf fd me mp xn mt wh tq u2.1 u2.2.1 ig)), ((q 2), aI g 600 bs), ((q 16), aI g 620 on), ((q 17), aI g 620 tw), ((q 27), aI g 160 fl), ((q 28), aI g 160 pl), ((q 30), aI g 160 ty), ((q 33), aI g 160 lo), ((q 34), aI g 160 bg), ((q 41), aI g 600 dp), ((q 42), aZ g 600 iw), ((q 43), aI g 76800 kd), ((q 47), aI g 128 (upd nw8 (nI nx).toNatClampNeg (u2.2.2 (qq - 1)))), ((q 50), aI g 600 u2.2.2)] H := hP
                              have hD : va_D A [(h0, .inr (10, mob q rf n mm mb fa fp av ev wi mn tp tc sc nf fd me mp xn mt wh tq u2.1 u2.2.1 ig)), ((q 2), aI g 600 bs), ((q 16), aI g 620 on), ((q 17), aI g 620 tw), ((q 27), aI g 160 fl), ((q 28), aI g 160 pl), ((q 30), aI g 160 ty), ((q 33), aI g 160 lo), ((q 34), aI g 160 bg), ((q 41), aI g 600 dp), ((q 42), aZ g 600 iw), ((q 43), aI g 76800 kd), ((q 47), aI g 128 (upd nw8 (nI nx).toNatClampNeg (u2.2.2 (qq - 1)))), ((q 50), aI g 600 u2.2.2)] := hD
                              have e9 : upd nw8 (nI nx).toNatClampNeg (u2.2.2 (qq - 1)) = upd nw8 nx (u2.2.2 (qq - 1)) := by rw [nI_clamp (by omega)]
                              rw [e9] at hP hD
                              refine lv_iload hx hb d_Mod_firstFrame_148 (lv_at hl 2 rfl) ?_
                              refine lv_iconst (v := 2) hx hb d_Mod_firstFrame_150 (by decide) ?_
                              refine lv_icmp_ne (tgt := 163) hx hb d_Mod_firstFrame_151 (by decide) (fun h151 => ?_) (fun h151 => ?_)
                              · refine lv_iload_n hx hb d_Mod_firstFrame_163 rfl (lv_at hl 4 rfl) ?_
                                refine lv_iload hx hb d_Mod_firstFrame_164 (lv_at hl 1 rfl) ?_
                                refine lv_iadd hx hb d_Mod_firstFrame_166 ?_
                                refine tw_ri (e2 := nI (nx + 2)) (nI_add nx 2) ?_
                                refine lv_istore_n hx hb d_Mod_firstFrame_167 rfl hl (by decide) rfl (fun ls hl => ?_)
                                have hl : lv_has ls 7 [(2, .int (nI (nx + 2))), (3, .int 1), (6, .int 2), (5, .int (u2.2.2 (qq - 1))), (4, .int (nI qq - 1)), (0, .ref h0), (1, .int (nI mt))] := hl
                                refine lv_iinc (k := 4) (v := nI (qq + 1) - 1) hx hb d_Mod_firstFrame_168 hl rfl (ff_up qq) (by decide) rfl (fun ls hl => ?_)
                                have hl : lv_has ls 7 [(4, .int (nI (qq + 1) - 1)), (2, .int (nI (nx + 2))), (3, .int 1), (6, .int 2), (5, .int (u2.2.2 (qq - 1))), (0, .ref h0), (1, .int (nI mt))] := hl
                                refine lv_goto (tgt := 55) hx hb d_Mod_firstFrame_171 (by decide) ?_
                                have hP : va_P g.1 classes [(h0, .inr (10, mob q rf n mm mb fa fp av ev wi mn tp tc sc nf fd me mp xn mt wh tq u2.1 u2.2.1 ig)), ((q 2), aI g 600 bs), ((q 16), aI g 620 on), ((q 17), aI g 620 tw), ((q 27), aI g 160 fl), ((q 28), aI g 160 pl), ((q 30), aI g 160 ty), ((q 33), aI g 160 lo), ((q 34), aI g 160 bg), ((q 41), aI g 600 dp), ((q 42), aZ g 600 iw), ((q 43), aI g 76800 kd), ((q 47), aI g 128 (upd nw8 nx (u2.2.2 (qq - 1)))), ((q 50), aI g 600 u2.2.2)] H := hP.sub [0, 1, 2, 3, 4, 5, 6, 7, 8, 9, 10, 11, 12, 13] rfl
                                have hD : va_D A [(h0, .inr (10, mob q rf n mm mb fa fp av ev wi mn tp tc sc nf fd me mp xn mt wh tq u2.1 u2.2.1 ig)), ((q 2), aI g 600 bs), ((q 16), aI g 620 on), ((q 17), aI g 620 tw), ((q 27), aI g 160 fl), ((q 28), aI g 160 pl), ((q 30), aI g 160 ty), ((q 33), aI g 160 lo), ((q 34), aI g 160 bg), ((q 41), aI g 600 dp), ((q 42), aZ g 600 iw), ((q 43), aI g 76800 kd), ((q 47), aI g 128 (upd nw8 nx (u2.2.2 (qq - 1)))), ((q 50), aI g 600 u2.2.2)] := hD.sub [0, 1, 2, 3, 4, 5, 6, 7, 8, 9, 10, 11, 12, 13] (by decide) rfl
                                exact ih55 _ (by omega) (nx + 2) 1 (qq + 1) (upd nw8 nx (u2.2.2 (qq - 1))) ls _ _ rfl (by omega) (by omega) (hNW8.put (kn3 hkk)) (lv_sub hl [0, 2, 1, 5, 6] rfl) hP hD hS
                              · exact absurd h151 h85
                            · refine lv_iconst (v := 0) hx hb d_Mod_firstFrame_141 (by decide) ?_
                              refine lv_goto (tgt := 147) hx hb d_Mod_firstFrame_142 (by decide) ?_
                              refine va_iast hx hb hK hP hD hS 12 0 rfl rfl (vp_in_nI (by omega) (by decide)) d_Mod_firstFrame_147 (fun H locs hP hD hS => ?_)
                              have hP : va_P g.1 classes [(h0, .inr (10, mob q rf n mm mb fa fp av ev wi mn tp tc sc nf fd me mp xn mt wh tq u2.1 u2.2.1 ig)), ((q 2), aI g 600 bs), ((q 16), aI g 620 on), ((q 17), aI g 620 tw), ((q 27), aI g 160 fl), ((q 28), aI g 160 pl), ((q 30), aI g 160 ty), ((q 33), aI g 160 lo), ((q 34), aI g 160 bg), ((q 41), aI g 600 dp), ((q 42), aZ g 600 iw), ((q 43), aI g 76800 kd), ((q 47), aI g 128 (upd nw8 (nI nx).toNatClampNeg 0)), ((q 50), aI g 600 u2.2.2)] H := hP
                              have hD : va_D A [(h0, .inr (10, mob q rf n mm mb fa fp av ev wi mn tp tc sc nf fd me mp xn mt wh tq u2.1 u2.2.1 ig)), ((q 2), aI g 600 bs), ((q 16), aI g 620 on), ((q 17), aI g 620 tw), ((q 27), aI g 160 fl), ((q 28), aI g 160 pl), ((q 30), aI g 160 ty), ((q 33), aI g 160 lo), ((q 34), aI g 160 bg), ((q 41), aI g 600 dp), ((q 42), aZ g 600 iw), ((q 43), aI g 76800 kd), ((q 47), aI g 128 (upd nw8 (nI nx).toNatClampNeg 0)), ((q 50), aI g 600 u2.2.2)] := hD
                              have e9 : upd nw8 (nI nx).toNatClampNeg 0 = upd nw8 nx 0 := by rw [nI_clamp (by omega)]
                              rw [e9] at hP hD
                              refine lv_iload hx hb d_Mod_firstFrame_148 (lv_at hl 2 rfl) ?_
                              refine lv_iconst (v := 2) hx hb d_Mod_firstFrame_150 (by decide) ?_
                              refine lv_icmp_ne (tgt := 163) hx hb d_Mod_firstFrame_151 (by decide) (fun h151 => ?_) (fun h151 => ?_)
                              · refine lv_iload_n hx hb d_Mod_firstFrame_163 rfl (lv_at hl 4 rfl) ?_
                                refine lv_iload hx hb d_Mod_firstFrame_164 (lv_at hl 1 rfl) ?_
                                refine lv_iadd hx hb d_Mod_firstFrame_166 ?_
                                refine tw_ri (e2 := nI (nx + 2)) (nI_add nx 2) ?_
                                refine lv_istore_n hx hb d_Mod_firstFrame_167 rfl hl (by decide) rfl (fun ls hl => ?_)
                                have hl : lv_has ls 7 [(2, .int (nI (nx + 2))), (3, .int 1), (6, .int 2), (5, .int (u2.2.2 (qq - 1))), (4, .int (nI qq - 1)), (0, .ref h0), (1, .int (nI mt))] := hl
                                refine lv_iinc (k := 4) (v := nI (qq + 1) - 1) hx hb d_Mod_firstFrame_168 hl rfl (ff_up qq) (by decide) rfl (fun ls hl => ?_)
                                have hl : lv_has ls 7 [(4, .int (nI (qq + 1) - 1)), (2, .int (nI (nx + 2))), (3, .int 1), (6, .int 2), (5, .int (u2.2.2 (qq - 1))), (0, .ref h0), (1, .int (nI mt))] := hl
                                refine lv_goto (tgt := 55) hx hb d_Mod_firstFrame_171 (by decide) ?_
                                have hP : va_P g.1 classes [(h0, .inr (10, mob q rf n mm mb fa fp av ev wi mn tp tc sc nf fd me mp xn mt wh tq u2.1 u2.2.1 ig)), ((q 2), aI g 600 bs), ((q 16), aI g 620 on), ((q 17), aI g 620 tw), ((q 27), aI g 160 fl), ((q 28), aI g 160 pl), ((q 30), aI g 160 ty), ((q 33), aI g 160 lo), ((q 34), aI g 160 bg), ((q 41), aI g 600 dp), ((q 42), aZ g 600 iw), ((q 43), aI g 76800 kd), ((q 47), aI g 128 (upd nw8 nx 0)), ((q 50), aI g 600 u2.2.2)] H := hP.sub [0, 1, 2, 3, 4, 5, 6, 7, 8, 9, 10, 11, 12, 13] rfl
                                have hD : va_D A [(h0, .inr (10, mob q rf n mm mb fa fp av ev wi mn tp tc sc nf fd me mp xn mt wh tq u2.1 u2.2.1 ig)), ((q 2), aI g 600 bs), ((q 16), aI g 620 on), ((q 17), aI g 620 tw), ((q 27), aI g 160 fl), ((q 28), aI g 160 pl), ((q 30), aI g 160 ty), ((q 33), aI g 160 lo), ((q 34), aI g 160 bg), ((q 41), aI g 600 dp), ((q 42), aZ g 600 iw), ((q 43), aI g 76800 kd), ((q 47), aI g 128 (upd nw8 nx 0)), ((q 50), aI g 600 u2.2.2)] := hD.sub [0, 1, 2, 3, 4, 5, 6, 7, 8, 9, 10, 11, 12, 13] (by decide) rfl
                                exact ih55 _ (by omega) (nx + 2) 1 (qq + 1) (upd nw8 nx 0) ls _ _ rfl (by omega) (by omega) (hNW8.put (by decide)) (lv_sub hl [0, 2, 1, 5, 6] rfl) hP hD hS
                              · exact absurd h151 h85
                · refine lv_iconst (v := 4) hx hb d_Mod_firstFrame_69 (by decide) ?_
                  refine lv_goto (tgt := 80) hx hb d_Mod_firstFrame_70 (by decide) ?_
                  refine lv_istore hx hb d_Mod_firstFrame_80 hl (by decide) rfl (fun ls hl => ?_)
                  have hl : lv_has ls 7 [(5, .int 4), (4, .int (nI qq - 1)), (3, .int ft), (2, .int (nI nx)), (0, .ref h0), (1, .int (nI mt))] := hl
                  refine lv_iload hx hb d_Mod_firstFrame_82 (lv_at hl 0 rfl) ?_
                  refine lv_iconst (v := 2) hx hb d_Mod_firstFrame_84 (by decide) ?_
                  refine lv_icmp_eq (tgt := 95) hx hb d_Mod_firstFrame_85 (by decide) (fun h85 => ?_) (fun h85 => ?_)
                  · refine lv_iconst (v := 2) hx hb d_Mod_firstFrame_95 (by decide) ?_
                    refine lv_goto (tgt := 100) hx hb d_Mod_firstFrame_96 (by decide) ?_
                    refine lv_istore hx hb d_Mod_firstFrame_100 hl (by decide) rfl (fun ls hl => ?_)
                    have hl : lv_has ls 7 [(6, .int 2), (5, .int 4), (4, .int (nI qq - 1)), (3, .int ft), (2, .int (nI nx)), (0, .ref h0), (1, .int (nI mt))] := hl
                    refine lv_iload_n hx hb d_Mod_firstFrame_102 rfl (lv_at hl 3 rfl) ?_
                    refine lv_if_eq (tgt := 123) hx hb d_Mod_firstFrame_103 (by decide) (fun h103 => ?_) (fun h103 => ?_)
                    · refine lv_iconst (v := 0) hx hb d_Mod_firstFrame_123 (by decide) ?_
                      refine lv_istore_n hx hb d_Mod_firstFrame_124 rfl hl (by decide) rfl (fun ls hl => ?_)
                      have hl : lv_has ls 7 [(3, .int 0), (6, .int 2), (5, .int 4), (4, .int (nI qq - 1)), (2, .int (nI nx)), (0, .ref h0), (1, .int (nI mt))] := hl
                      refine lv_iload_n hx hb d_Mod_firstFrame_125 rfl (lv_at hl 0 rfl) ?_
                      refine lv_if_eq (tgt := 163) hx hb d_Mod_firstFrame_126 (by decide) (fun h126 => ?_) (fun h126 => ?_)
                      · refine lv_iload_n hx hb d_Mod_firstFrame_163 rfl (lv_at hl 4 rfl) ?_
                        refine lv_iload hx hb d_Mod_firstFrame_164 (lv_at hl 1 rfl) ?_
                        refine lv_iadd hx hb d_Mod_firstFrame_166 ?_
                        refine tw_ri (e2 := nI (nx + 2)) (nI_add nx 2) ?_
                        refine lv_istore_n hx hb d_Mod_firstFrame_167 rfl hl (by decide) rfl (fun ls hl => ?_)
                        have hl : lv_has ls 7 [(2, .int (nI (nx + 2))), (3, .int 0), (6, .int 2), (5, .int 4), (4, .int (nI qq - 1)), (0, .ref h0), (1, .int (nI mt))] := hl
                        refine lv_iinc (k := 4) (v := nI (qq + 1) - 1) hx hb d_Mod_firstFrame_168 hl rfl (ff_up qq) (by decide) rfl (fun ls hl => ?_)
                        have hl : lv_has ls 7 [(4, .int (nI (qq + 1) - 1)), (2, .int (nI (nx + 2))), (3, .int 0), (6, .int 2), (5, .int 4), (0, .ref h0), (1, .int (nI mt))] := hl
                        refine lv_goto (tgt := 55) hx hb d_Mod_firstFrame_171 (by decide) ?_
                        have hP : va_P g.1 classes [(h0, .inr (10, mob q rf n mm mb fa fp av ev wi mn tp tc sc nf fd me mp xn mt wh tq u2.1 u2.2.1 ig)), ((q 2), aI g 600 bs), ((q 16), aI g 620 on), ((q 17), aI g 620 tw), ((q 27), aI g 160 fl), ((q 28), aI g 160 pl), ((q 30), aI g 160 ty), ((q 33), aI g 160 lo), ((q 34), aI g 160 bg), ((q 41), aI g 600 dp), ((q 42), aZ g 600 iw), ((q 43), aI g 76800 kd), ((q 47), aI g 128 nw8), ((q 50), aI g 600 u2.2.2)] H := hP.sub [0, 1, 2, 3, 4, 5, 6, 7, 8, 9, 10, 11, 12, 13] rfl
                        have hD : va_D A [(h0, .inr (10, mob q rf n mm mb fa fp av ev wi mn tp tc sc nf fd me mp xn mt wh tq u2.1 u2.2.1 ig)), ((q 2), aI g 600 bs), ((q 16), aI g 620 on), ((q 17), aI g 620 tw), ((q 27), aI g 160 fl), ((q 28), aI g 160 pl), ((q 30), aI g 160 ty), ((q 33), aI g 160 lo), ((q 34), aI g 160 bg), ((q 41), aI g 600 dp), ((q 42), aZ g 600 iw), ((q 43), aI g 76800 kd), ((q 47), aI g 128 nw8), ((q 50), aI g 600 u2.2.2)] := hD.sub [0, 1, 2, 3, 4, 5, 6, 7, 8, 9, 10, 11, 12, 13] (by decide) rfl
                        exact ih55 _ (by omega) (nx + 2) 0 (qq + 1) nw8 ls _ _ rfl (by omega) (by omega) hNW8 (lv_sub hl [0, 2, 1, 5, 6] rfl) hP hD hS
                      · first | exact absurd h126 (by decide) | exact absurd (by decide) h126
                    · refine lv_iload_n hx hb d_Mod_firstFrame_106 rfl (lv_at hl 4 rfl) ?_
                      refine lv_iload hx hb d_Mod_firstFrame_107 (lv_at hl 0 rfl) ?_
                      refine lv_iadd hx hb d_Mod_firstFrame_109 ?_
                      refine tw_ri (e2 := nI (nx + 2)) (nI_add nx 2) ?_
                      refine lv_aload_n hx hb d_Mod_firstFrame_110 rfl (lv_at hl 5 rfl) ?_
                      refine va_get (D := g.1) (ci := 10) (v := .ref (q 33)) (C := R_Mod) (T := F_Mod) (N := 61) hx hb hts in_Mod hown hK hP 0 rfl rfl 33 (by decide) (hts _ wd_1283) (fun _ h9 => h9) rfl d_Mod_firstFrame_111 ?_
                      refine lv_iload_n hx hb d_Mod_firstFrame_114 rfl (lv_at hl 6 rfl) ?_
                      refine va_iald hx hb hK hP 7 0 rfl rfl (vp_in_nI (by omega) (by decide)) d_Mod_firstFrame_115 ?_
                      refine tw_ri (e2 := nI o1) (by rw [nI_clamp (by omega)]; exact hlo) ?_
                      refine lv_icmp_gt (tgt := 123) hx hb d_Mod_firstFrame_116 (by decide) (fun h116 => ?_) (fun h116 => ?_)
                      · refine lv_iconst (v := 0) hx hb d_Mod_firstFrame_123 (by decide) ?_
                        refine lv_istore_n hx hb d_Mod_firstFrame_124 rfl hl (by decide) rfl (fun ls hl => ?_)
                        have hl : lv_has ls 7 [(3, .int 0), (6, .int 2), (5, .int 4), (4, .int (nI qq - 1)), (2, .int (nI nx)), (0, .ref h0), (1, .int (nI mt))] := hl
                        refine lv_iload_n hx hb d_Mod_firstFrame_125 rfl (lv_at hl 0 rfl) ?_
                        refine lv_if_eq (tgt := 163) hx hb d_Mod_firstFrame_126 (by decide) (fun h126 => ?_) (fun h126 => ?_)
                        · refine lv_iload_n hx hb d_Mod_firstFrame_163 rfl (lv_at hl 4 rfl) ?_
                          refine lv_iload hx hb d_Mod_firstFrame_164 (lv_at hl 1 rfl) ?_
                          refine lv_iadd hx hb d_Mod_firstFrame_166 ?_
                          refine tw_ri (e2 := nI (nx + 2)) (nI_add nx 2) ?_
                          refine lv_istore_n hx hb d_Mod_firstFrame_167 rfl hl (by decide) rfl (fun ls hl => ?_)
                          have hl : lv_has ls 7 [(2, .int (nI (nx + 2))), (3, .int 0), (6, .int 2), (5, .int 4), (4, .int (nI qq - 1)), (0, .ref h0), (1, .int (nI mt))] := hl
                          refine lv_iinc (k := 4) (v := nI (qq + 1) - 1) hx hb d_Mod_firstFrame_168 hl rfl (ff_up qq) (by decide) rfl (fun ls hl => ?_)
                          have hl : lv_has ls 7 [(4, .int (nI (qq + 1) - 1)), (2, .int (nI (nx + 2))), (3, .int 0), (6, .int 2), (5, .int 4), (0, .ref h0), (1, .int (nI mt))] := hl
                          refine lv_goto (tgt := 55) hx hb d_Mod_firstFrame_171 (by decide) ?_
                          have hP : va_P g.1 classes [(h0, .inr (10, mob q rf n mm mb fa fp av ev wi mn tp tc sc nf fd me mp xn mt wh tq u2.1 u2.2.1 ig)), ((q 2), aI g 600 bs), ((q 16), aI g 620 on), ((q 17), aI g 620 tw), ((q 27), aI g 160 fl), ((q 28), aI g 160 pl), ((q 30), aI g 160 ty), ((q 33), aI g 160 lo), ((q 34), aI g 160 bg), ((q 41), aI g 600 dp), ((q 42), aZ g 600 iw), ((q 43), aI g 76800 kd), ((q 47), aI g 128 nw8), ((q 50), aI g 600 u2.2.2)] H := hP.sub [0, 1, 2, 3, 4, 5, 6, 7, 8, 9, 10, 11, 12, 13] rfl
                          have hD : va_D A [(h0, .inr (10, mob q rf n mm mb fa fp av ev wi mn tp tc sc nf fd me mp xn mt wh tq u2.1 u2.2.1 ig)), ((q 2), aI g 600 bs), ((q 16), aI g 620 on), ((q 17), aI g 620 tw), ((q 27), aI g 160 fl), ((q 28), aI g 160 pl), ((q 30), aI g 160 ty), ((q 33), aI g 160 lo), ((q 34), aI g 160 bg), ((q 41), aI g 600 dp), ((q 42), aZ g 600 iw), ((q 43), aI g 76800 kd), ((q 47), aI g 128 nw8), ((q 50), aI g 600 u2.2.2)] := hD.sub [0, 1, 2, 3, 4, 5, 6, 7, 8, 9, 10, 11, 12, 13] (by decide) rfl
                          exact ih55 _ (by omega) (nx + 2) 0 (qq + 1) nw8 ls _ _ rfl (by omega) (by omega) hNW8 (lv_sub hl [0, 2, 1, 5, 6] rfl) hP hD hS
                        · first | exact absurd h126 (by decide) | exact absurd (by decide) h126
                      · have h116 := tn_nlt h116 (by omega) (by omega)
                        refine lv_iconst (v := 1) hx hb d_Mod_firstFrame_119 (by decide) ?_
                        refine lv_goto (tgt := 124) hx hb d_Mod_firstFrame_120 (by decide) ?_
                        refine lv_istore_n hx hb d_Mod_firstFrame_124 rfl hl (by decide) rfl (fun ls hl => ?_)
                        have hl : lv_has ls 7 [(3, .int 1), (6, .int 2), (5, .int 4), (4, .int (nI qq - 1)), (2, .int (nI nx)), (0, .ref h0), (1, .int (nI mt))] := hl
                        refine lv_iload_n hx hb d_Mod_firstFrame_125 rfl (lv_at hl 0 rfl) ?_
                        refine lv_if_eq (tgt := 163) hx hb d_Mod_firstFrame_126 (by decide) (fun h126 => ?_) (fun h126 => ?_)
                        · first | exact absurd h126 (by decide) | exact absurd (by decide) h126
                        · refine lv_aload_n hx hb d_Mod_firstFrame_129 rfl (lv_at hl 5 rfl) ?_
                          refine va_get (D := g.1) (ci := 10) (v := .ref (q 47)) (C := R_Mod) (T := F_Mod) (N := 61) hx hb hts in_Mod hown hK hP 0 rfl rfl 47 (by decide) (hts _ wd_1297) (fun _ h9 => h9) rfl d_Mod_firstFrame_130 ?_
                          refine lv_iload_n hx hb d_Mod_firstFrame_133 rfl (lv_at hl 4 rfl) ?_
                          refine lv_iload hx hb d_Mod_firstFrame_134 (lv_at hl 2 rfl) ?_
                          refine lv_bipush (v := 9) hx hb d_Mod_firstFrame_136 (by decide) ?_
                          refine lv_icmp_lt (tgt := 145) hx hb d_Mod_firstFrame_138 (by decide) (fun h138 => ?_) (fun h138 => ?_)
                          · refine lv_iload hx hb d_Mod_firstFrame_145 (lv_at hl 2 rfl) ?_
                            refine va_iast hx hb hK hP hD hS 12 0 rfl rfl (vp_in_nI (by omega) (by decide)) d_Mod_firstFrame_147 (fun H locs hP hD hS => ?_)
                            have hP : va_P g.1 classes [(h0, .inr (10, mob q rf n mm mb fa fp av ev wi mn tp tc sc nf fd me mp xn mt wh tq u2.1 u2.2.1 ig)), ((q 2), aI g 600 bs), ((q 16), aI g 620 on), ((q 17), aI g 620 tw), ((q 27), aI g 160 fl), ((q 28), aI g 160 pl), ((q 30), aI g 160 ty), ((q 33), aI g 160 lo), ((q 34), aI g 160 bg), ((q 41), aI g 600 dp), ((q 42), aZ g 600 iw), ((q 43), aI g 76800 kd), ((q 47), aI g 128 (upd nw8 (nI nx).toNatClampNeg 4)), ((q 50), aI g 600 u2.2.2)] H := hP
                            have hD : va_D A [(h0, .inr (10, mob q rf n mm mb fa fp av ev wi mn tp tc sc nf fd me mp xn mt wh tq u2.1 u2.2.1 ig)), ((q 2), aI g 600 bs), ((q 16), aI g 620 on), ((q 17), aI g 620 tw), ((q 27), aI g 160 fl), ((q 28), aI g 160 pl), ((q 30), aI g 160 ty), ((q 33), aI g 160 lo), ((q 34), aI g 160 bg), ((q 41), aI g 600 dp), ((q 42), aZ g 600 iw), ((q 43), aI g 76800 kd), ((q 47), aI g 128 (upd nw8 (nI nx).toNatClampNeg 4)), ((q 50), aI g 600 u2.2.2)] := hD
                            have e9 : upd nw8 (nI nx).toNatClampNeg 4 = upd nw8 nx 4 := by rw [nI_clamp (by omega)]
                            rw [e9] at hP hD
                            refine lv_iload hx hb d_Mod_firstFrame_148 (lv_at hl 2 rfl) ?_
                            refine lv_iconst (v := 2) hx hb d_Mod_firstFrame_150 (by decide) ?_
                            refine lv_icmp_ne (tgt := 163) hx hb d_Mod_firstFrame_151 (by decide) (fun h151 => ?_) (fun h151 => ?_)
                            · exact absurd h85 h151
                            · refine lv_aload_n hx hb d_Mod_firstFrame_154 rfl (lv_at hl 5 rfl) ?_
                              refine va_get (D := g.1) (ci := 10) (v := .ref (q 47)) (C := R_Mod) (T := F_Mod) (N := 61) hx hb hts in_Mod hown hK hP 0 rfl rfl 47 (by decide) (hts _ wd_1297) (fun _ h9 => h9) rfl d_Mod_firstFrame_155 ?_
                              refine lv_iload_n hx hb d_Mod_firstFrame_158 rfl (lv_at hl 4 rfl) ?_
                              refine lv_iconst (v := 1) hx hb d_Mod_firstFrame_159 (by decide) ?_
                              refine lv_iadd hx hb d_Mod_firstFrame_160 ?_
                              refine tw_ri (e2 := nI (nx + 1)) (nI_add nx 1) ?_
                              refine lv_iconst (v := 3) hx hb d_Mod_firstFrame_161 (by decide) ?_
                              refine va_iast hx hb hK hP hD hS 12 0 rfl rfl (vp_in_nI (by omega) (by decide)) d_Mod_firstFrame_162 (fun H locs hP hD hS => ?_)
                              have hP : va_P g.1 classes [(h0, .inr (10, mob q rf n mm mb fa fp av ev wi mn tp tc sc nf fd me mp xn mt wh tq u2.1 u2.2.1 ig)), ((q 2), aI g 600 bs), ((q 16), aI g 620 on), ((q 17), aI g 620 tw), ((q 27), aI g 160 fl), ((q 28), aI g 160 pl), ((q 30), aI g 160 ty), ((q 33), aI g 160 lo), ((q 34), aI g 160 bg), ((q 41), aI g 600 dp), ((q 42), aZ g 600 iw), ((q 43), aI g 76800 kd), ((q 47), aI g 128 (upd (upd nw8 nx 4) (nI (nx + 1)).toNatClampNeg 3)), ((q 50), aI g 600 u2.2.2)] H := hP
                              have hD : va_D A [(h0, .inr (10, mob q rf n mm mb fa fp av ev wi mn tp tc sc nf fd me mp xn mt wh tq u2.1 u2.2.1 ig)), ((q 2), aI g 600 bs), ((q 16), aI g 620 on), ((q 17), aI g 620 tw), ((q 27), aI g 160 fl), ((q 28), aI g 160 pl), ((q 30), aI g 160 ty), ((q 33), aI g 160 lo), ((q 34), aI g 160 bg), ((q 41), aI g 600 dp), ((q 42), aZ g 600 iw), ((q 43), aI g 76800 kd), ((q 47), aI g 128 (upd (upd nw8 nx 4) (nI (nx + 1)).toNatClampNeg 3)), ((q 50), aI g 600 u2.2.2)] := hD
                              have e9 : upd (upd nw8 nx 4) (nI (nx + 1)).toNatClampNeg 3 = upd (upd nw8 nx 4) (nx + 1) 3 := by rw [nI_clamp (by omega)]
                              rw [e9] at hP hD
                              refine lv_iload_n hx hb d_Mod_firstFrame_163 rfl (lv_at hl 4 rfl) ?_
                              refine lv_iload hx hb d_Mod_firstFrame_164 (lv_at hl 1 rfl) ?_
                              refine lv_iadd hx hb d_Mod_firstFrame_166 ?_
                              refine tw_ri (e2 := nI (nx + 2)) (nI_add nx 2) ?_
                              refine lv_istore_n hx hb d_Mod_firstFrame_167 rfl hl (by decide) rfl (fun ls hl => ?_)
                              have hl : lv_has ls 7 [(2, .int (nI (nx + 2))), (3, .int 1), (6, .int 2), (5, .int 4), (4, .int (nI qq - 1)), (0, .ref h0), (1, .int (nI mt))] := hl
                              refine lv_iinc (k := 4) (v := nI (qq + 1) - 1) hx hb d_Mod_firstFrame_168 hl rfl (ff_up qq) (by decide) rfl (fun ls hl => ?_)
                              have hl : lv_has ls 7 [(4, .int (nI (qq + 1) - 1)), (2, .int (nI (nx + 2))), (3, .int 1), (6, .int 2), (5, .int 4), (0, .ref h0), (1, .int (nI mt))] := hl
                              refine lv_goto (tgt := 55) hx hb d_Mod_firstFrame_171 (by decide) ?_
                              have hP : va_P g.1 classes [(h0, .inr (10, mob q rf n mm mb fa fp av ev wi mn tp tc sc nf fd me mp xn mt wh tq u2.1 u2.2.1 ig)), ((q 2), aI g 600 bs), ((q 16), aI g 620 on), ((q 17), aI g 620 tw), ((q 27), aI g 160 fl), ((q 28), aI g 160 pl), ((q 30), aI g 160 ty), ((q 33), aI g 160 lo), ((q 34), aI g 160 bg), ((q 41), aI g 600 dp), ((q 42), aZ g 600 iw), ((q 43), aI g 76800 kd), ((q 47), aI g 128 (upd (upd nw8 nx 4) (nx + 1) 3)), ((q 50), aI g 600 u2.2.2)] H := hP.sub [0, 1, 2, 3, 4, 5, 6, 7, 8, 9, 10, 11, 12, 13] rfl
                              have hD : va_D A [(h0, .inr (10, mob q rf n mm mb fa fp av ev wi mn tp tc sc nf fd me mp xn mt wh tq u2.1 u2.2.1 ig)), ((q 2), aI g 600 bs), ((q 16), aI g 620 on), ((q 17), aI g 620 tw), ((q 27), aI g 160 fl), ((q 28), aI g 160 pl), ((q 30), aI g 160 ty), ((q 33), aI g 160 lo), ((q 34), aI g 160 bg), ((q 41), aI g 600 dp), ((q 42), aZ g 600 iw), ((q 43), aI g 76800 kd), ((q 47), aI g 128 (upd (upd nw8 nx 4) (nx + 1) 3)), ((q 50), aI g 600 u2.2.2)] := hD.sub [0, 1, 2, 3, 4, 5, 6, 7, 8, 9, 10, 11, 12, 13] (by decide) rfl
                              exact ih55 _ (by omega) (nx + 2) 1 (qq + 1) (upd (upd nw8 nx 4) (nx + 1) 3) ls _ _ rfl (by omega) (by omega) ((hNW8.put (by decide)).put2 (by omega) (by omega)) (lv_sub hl [0, 2, 1, 5, 6] rfl) hP hD hS
                          · refine lv_iconst (v := 0) hx hb d_Mod_firstFrame_141 (by decide) ?_
                            refine lv_goto (tgt := 147) hx hb d_Mod_firstFrame_142 (by decide) ?_
                            refine va_iast hx hb hK hP hD hS 12 0 rfl rfl (vp_in_nI (by omega) (by decide)) d_Mod_firstFrame_147 (fun H locs hP hD hS => ?_)
                            have hP : va_P g.1 classes [(h0, .inr (10, mob q rf n mm mb fa fp av ev wi mn tp tc sc nf fd me mp xn mt wh tq u2.1 u2.2.1 ig)), ((q 2), aI g 600 bs), ((q 16), aI g 620 on), ((q 17), aI g 620 tw), ((q 27), aI g 160 fl), ((q 28), aI g 160 pl), ((q 30), aI g 160 ty), ((q 33), aI g 160 lo), ((q 34), aI g 160 bg), ((q 41), aI g 600 dp), ((q 42), aZ g 600 iw), ((q 43), aI g 76800 kd), ((q 47), aI g 128 (upd nw8 (nI nx).toNatClampNeg 0)), ((q 50), aI g 600 u2.2.2)] H := hP
                            have hD : va_D A [(h0, .inr (10, mob q rf n mm mb fa fp av ev wi mn tp tc sc nf fd me mp xn mt wh tq u2.1 u2.2.1 ig)), ((q 2), aI g 600 bs), ((q 16), aI g 620 on), ((q 17), aI g 620 tw), ((q 27), aI g 160 fl), ((q 28), aI g 160 pl), ((q 30), aI g 160 ty), ((q 33), aI g 160 lo), ((q 34), aI g 160 bg), ((q 41), aI g 600 dp), ((q 42), aZ g 600 iw), ((q 43), aI g 76800 kd), ((q 47), aI g 128 (upd nw8 (nI nx).toNatClampNeg 0)), ((q 50), aI g 600 u2.2.2)] := hD
                            have e9 : upd nw8 (nI nx).toNatClampNeg 0 = upd nw8 nx 0 := by rw [nI_clamp (by omega)]
                            rw [e9] at hP hD
                            refine lv_iload hx hb d_Mod_firstFrame_148 (lv_at hl 2 rfl) ?_
                            refine lv_iconst (v := 2) hx hb d_Mod_firstFrame_150 (by decide) ?_
                            refine lv_icmp_ne (tgt := 163) hx hb d_Mod_firstFrame_151 (by decide) (fun h151 => ?_) (fun h151 => ?_)
                            · exact absurd h85 h151
                            · refine lv_aload_n hx hb d_Mod_firstFrame_154 rfl (lv_at hl 5 rfl) ?_
                              refine va_get (D := g.1) (ci := 10) (v := .ref (q 47)) (C := R_Mod) (T := F_Mod) (N := 61) hx hb hts in_Mod hown hK hP 0 rfl rfl 47 (by decide) (hts _ wd_1297) (fun _ h9 => h9) rfl d_Mod_firstFrame_155 ?_
                              refine lv_iload_n hx hb d_Mod_firstFrame_158 rfl (lv_at hl 4 rfl) ?_
                              refine lv_iconst (v := 1) hx hb d_Mod_firstFrame_159 (by decide) ?_
                              refine lv_iadd hx hb d_Mod_firstFrame_160 ?_
                              refine tw_ri (e2 := nI (nx + 1)) (nI_add nx 1) ?_
                              refine lv_iconst (v := 3) hx hb d_Mod_firstFrame_161 (by decide) ?_
                              refine va_iast hx hb hK hP hD hS 12 0 rfl rfl (vp_in_nI (by omega) (by decide)) d_Mod_firstFrame_162 (fun H locs hP hD hS => ?_)
                              have hP : va_P g.1 classes [(h0, .inr (10, mob q rf n mm mb fa fp av ev wi mn tp tc sc nf fd me mp xn mt wh tq u2.1 u2.2.1 ig)), ((q 2), aI g 600 bs), ((q 16), aI g 620 on), ((q 17), aI g 620 tw), ((q 27), aI g 160 fl), ((q 28), aI g 160 pl), ((q 30), aI g 160 ty), ((q 33), aI g 160 lo), ((q 34), aI g 160 bg), ((q 41), aI g 600 dp), ((q 42), aZ g 600 iw), ((q 43), aI g 76800 kd), ((q 47), aI g 128 (upd (upd nw8 nx 0) (nI (nx + 1)).toNatClampNeg 3)), ((q 50), aI g 600 u2.2.2)] H := hP
                              have hD : va_D A [(h0, .inr (10, mob q rf n mm mb fa fp av ev wi mn tp tc sc nf fd me mp xn mt wh tq u2.1 u2.2.1 ig)), ((q 2), aI g 600 bs), ((q 16), aI g 620 on), ((q 17), aI g 620 tw), ((q 27), aI g 160 fl), ((q 28), aI g 160 pl), ((q 30), aI g 160 ty), ((q 33), aI g 160 lo), ((q 34), aI g 160 bg), ((q 41), aI g 600 dp), ((q 42), aZ g 600 iw), ((q 43), aI g 76800 kd), ((q 47), aI g 128 (upd (upd nw8 nx 0) (nI (nx + 1)).toNatClampNeg 3)), ((q 50), aI g 600 u2.2.2)] := hD
                              have e9 : upd (upd nw8 nx 0) (nI (nx + 1)).toNatClampNeg 3 = upd (upd nw8 nx 0) (nx + 1) 3 := by rw [nI_clamp (by omega)]
                              rw [e9] at hP hD
                              refine lv_iload_n hx hb d_Mod_firstFrame_163 rfl (lv_at hl 4 rfl) ?_
                              refine lv_iload hx hb d_Mod_firstFrame_164 (lv_at hl 1 rfl) ?_
                              refine lv_iadd hx hb d_Mod_firstFrame_166 ?_
                              refine tw_ri (e2 := nI (nx + 2)) (nI_add nx 2) ?_
                              refine lv_istore_n hx hb d_Mod_firstFrame_167 rfl hl (by decide) rfl (fun ls hl => ?_)
                              have hl : lv_has ls 7 [(2, .int (nI (nx + 2))), (3, .int 1), (6, .int 2), (5, .int 4), (4, .int (nI qq - 1)), (0, .ref h0), (1, .int (nI mt))] := hl
                              refine lv_iinc (k := 4) (v := nI (qq + 1) - 1) hx hb d_Mod_firstFrame_168 hl rfl (ff_up qq) (by decide) rfl (fun ls hl => ?_)
                              have hl : lv_has ls 7 [(4, .int (nI (qq + 1) - 1)), (2, .int (nI (nx + 2))), (3, .int 1), (6, .int 2), (5, .int 4), (0, .ref h0), (1, .int (nI mt))] := hl
                              refine lv_goto (tgt := 55) hx hb d_Mod_firstFrame_171 (by decide) ?_
                              have hP : va_P g.1 classes [(h0, .inr (10, mob q rf n mm mb fa fp av ev wi mn tp tc sc nf fd me mp xn mt wh tq u2.1 u2.2.1 ig)), ((q 2), aI g 600 bs), ((q 16), aI g 620 on), ((q 17), aI g 620 tw), ((q 27), aI g 160 fl), ((q 28), aI g 160 pl), ((q 30), aI g 160 ty), ((q 33), aI g 160 lo), ((q 34), aI g 160 bg), ((q 41), aI g 600 dp), ((q 42), aZ g 600 iw), ((q 43), aI g 76800 kd), ((q 47), aI g 128 (upd (upd nw8 nx 0) (nx + 1) 3)), ((q 50), aI g 600 u2.2.2)] H := hP.sub [0, 1, 2, 3, 4, 5, 6, 7, 8, 9, 10, 11, 12, 13] rfl
                              have hD : va_D A [(h0, .inr (10, mob q rf n mm mb fa fp av ev wi mn tp tc sc nf fd me mp xn mt wh tq u2.1 u2.2.1 ig)), ((q 2), aI g 600 bs), ((q 16), aI g 620 on), ((q 17), aI g 620 tw), ((q 27), aI g 160 fl), ((q 28), aI g 160 pl), ((q 30), aI g 160 ty), ((q 33), aI g 160 lo), ((q 34), aI g 160 bg), ((q 41), aI g 600 dp), ((q 42), aZ g 600 iw), ((q 43), aI g 76800 kd), ((q 47), aI g 128 (upd (upd nw8 nx 0) (nx + 1) 3)), ((q 50), aI g 600 u2.2.2)] := hD.sub [0, 1, 2, 3, 4, 5, 6, 7, 8, 9, 10, 11, 12, 13] (by decide) rfl
                              exact ih55 _ (by omega) (nx + 2) 1 (qq + 1) (upd (upd nw8 nx 0) (nx + 1) 3) ls _ _ rfl (by omega) (by omega) ((hNW8.put (by decide)).put2 (by omega) (by omega)) (lv_sub hl [0, 2, 1, 5, 6] rfl) hP hD hS
                  · refine lv_iload hx hb d_Mod_firstFrame_88 (lv_at hl 0 rfl) ?_
                    refine lv_bipush (v := 9) hx hb d_Mod_firstFrame_90 (by decide) ?_
                    refine lv_icmp_le (tgt := 99) hx hb d_Mod_firstFrame_92 (by decide) (fun h92 => ?_) (fun h92 => ?_)
                    · refine lv_iconst (v := 1) hx hb d_Mod_firstFrame_99 (by decide) ?_
                      refine lv_istore hx hb d_Mod_firstFrame_100 hl (by decide) rfl (fun ls hl => ?_)
                      have hl : lv_has ls 7 [(6, .int 1), (5, .int 4), (4, .int (nI qq - 1)), (3, .int ft), (2, .int (nI nx)), (0, .ref h0), (1, .int (nI mt))] := hl
                      refine lv_iload_n hx hb d_Mod_firstFrame_102 rfl (lv_at hl 3 rfl) ?_
                      refine lv_if_eq (tgt := 123) hx hb d_Mod_firstFrame_103 (by decide) (fun h103 => ?_) (fun h103 => ?_)
                      · refine lv_iconst (v := 0) hx hb d_Mod_firstFrame_123 (by decide) ?_
                        refine lv_istore_n hx hb d_Mod_firstFrame_124 rfl hl (by decide) rfl (fun ls hl => ?_)
                        have hl : lv_has ls 7 [(3, .int 0), (6, .int 1), (5, .int 4), (4, .int (nI qq - 1)), (2, .int (nI nx)), (0, .ref h0), (1, .int (nI mt))] := hl
                        refine lv_iload_n hx hb d_Mod_firstFrame_125 rfl (lv_at hl 0 rfl) ?_
                        refine lv_if_eq (tgt := 163) hx hb d_Mod_firstFrame_126 (by decide) (fun h126 => ?_) (fun h126 => ?_)
                        · refine lv_iload_n hx hb d_Mod_firstFrame_163 rfl (lv_at hl 4 rfl) ?_
                          refine lv_iload hx hb d_Mod_firstFrame_164 (lv_at hl 1 rfl) ?_
                          refine lv_iadd hx hb d_Mod_firstFrame_166 ?_
                          refine tw_ri (e2 := nI (nx + 1)) (nI_add nx 1) ?_
                          refine lv_istore_n hx hb d_Mod_firstFrame_167 rfl hl (by decide) rfl (fun ls hl => ?_)
                          have hl : lv_has ls 7 [(2, .int (nI (nx + 1))), (3, .int 0), (6, .int 1), (5, .int 4), (4, .int (nI qq - 1)), (0, .ref h0), (1, .int (nI mt))] := hl
                          refine lv_iinc (k := 4) (v := nI (qq + 1) - 1) hx hb d_Mod_firstFrame_168 hl rfl (ff_up qq) (by decide) rfl (fun ls hl => ?_)
                          have hl : lv_has ls 7 [(4, .int (nI (qq + 1) - 1)), (2, .int (nI (nx + 1))), (3, .int 0), (6, .int 1), (5, .int 4), (0, .ref h0), (1, .int (nI mt))] := hl
                          refine lv_goto (tgt := 55) hx hb d_Mod_firstFrame_171 (by decide) ?_
                          have hP : va_P g.1 classes [(h0, .inr (10, mob q rf n mm mb fa fp av ev wi mn tp tc sc nf fd me mp xn mt wh tq u2.1 u2.2.1 ig)), ((q 2), aI g 600 bs), ((q 16), aI g 620 on), ((q 17), aI g 620 tw), ((q 27), aI g 160 fl), ((q 28), aI g 160 pl), ((q 30), aI g 160 ty), ((q 33), aI g 160 lo), ((q 34), aI g 160 bg), ((q 41), aI g 600 dp), ((q 42), aZ g 600 iw), ((q 43), aI g 76800 kd), ((q 47), aI g 128 nw8), ((q 50), aI g 600 u2.2.2)] H := hP.sub [0, 1, 2, 3, 4, 5, 6, 7, 8, 9, 10, 11, 12, 13] rfl
                          have hD : va_D A [(h0, .inr (10, mob q rf n mm mb fa fp av ev wi mn tp tc sc nf fd me mp xn mt wh tq u2.1 u2.2.1 ig)), ((q 2), aI g 600 bs), ((q 16), aI g 620 on), ((q 17), aI g 620 tw), ((q 27), aI g 160 fl), ((q 28), aI g 160 pl), ((q 30), aI g 160 ty), ((q 33), aI g 160 lo), ((q 34), aI g 160 bg), ((q 41), aI g 600 dp), ((q 42), aZ g 600 iw), ((q 43), aI g 76800 kd), ((q 47), aI g 128 nw8), ((q 50), aI g 600 u2.2.2)] := hD.sub [0, 1, 2, 3, 4, 5, 6, 7, 8, 9, 10, 11, 12, 13] (by decide) rfl
                          exact ih55 _ (by omega) (nx + 1) 0 (qq + 1) nw8 ls _ _ rfl (by omega) (by omega) hNW8 (lv_sub hl [0, 2, 1, 5, 6] rfl) hP hD hS
                        · first | exact absurd h126 (by decide) | exact absurd (by decide) h126
                      · refine lv_iload_n hx hb d_Mod_firstFrame_106 rfl (lv_at hl 4 rfl) ?_
                        refine lv_iload hx hb d_Mod_firstFrame_107 (lv_at hl 0 rfl) ?_
                        refine lv_iadd hx hb d_Mod_firstFrame_109 ?_
                        refine tw_ri (e2 := nI (nx + 1)) (nI_add nx 1) ?_
                        refine lv_aload_n hx hb d_Mod_firstFrame_110 rfl (lv_at hl 5 rfl) ?_
                        refine va_get (D := g.1) (ci := 10) (v := .ref (q 33)) (C := R_Mod) (T := F_Mod) (N := 61) hx hb hts in_Mod hown hK hP 0 rfl rfl 33 (by decide) (hts _ wd_1283) (fun _ h9 => h9) rfl d_Mod_firstFrame_111 ?_
                        refine lv_iload_n hx hb d_Mod_firstFrame_114 rfl (lv_at hl 6 rfl) ?_
                        refine va_iald hx hb hK hP 7 0 rfl rfl (vp_in_nI (by omega) (by decide)) d_Mod_firstFrame_115 ?_
                        refine tw_ri (e2 := nI o1) (by rw [nI_clamp (by omega)]; exact hlo) ?_
                        refine lv_icmp_gt (tgt := 123) hx hb d_Mod_firstFrame_116 (by decide) (fun h116 => ?_) (fun h116 => ?_)
                        · refine lv_iconst (v := 0) hx hb d_Mod_firstFrame_123 (by decide) ?_
                          refine lv_istore_n hx hb d_Mod_firstFrame_124 rfl hl (by decide) rfl (fun ls hl => ?_)
                          have hl : lv_has ls 7 [(3, .int 0), (6, .int 1), (5, .int 4), (4, .int (nI qq - 1)), (2, .int (nI nx)), (0, .ref h0), (1, .int (nI mt))] := hl
                          refine lv_iload_n hx hb d_Mod_firstFrame_125 rfl (lv_at hl 0 rfl) ?_
                          refine lv_if_eq (tgt := 163) hx hb d_Mod_firstFrame_126 (by decide) (fun h126 => ?_) (fun h126 => ?_)
                          · refine lv_iload_n hx hb d_Mod_firstFrame_163 rfl (lv_at hl 4 rfl) ?_
                            refine lv_iload hx hb d_Mod_firstFrame_164 (lv_at hl 1 rfl) ?_
                            refine lv_iadd hx hb d_Mod_firstFrame_166 ?_
                            refine tw_ri (e2 := nI (nx + 1)) (nI_add nx 1) ?_
                            refine lv_istore_n hx hb d_Mod_firstFrame_167 rfl hl (by decide) rfl (fun ls hl => ?_)
                            have hl : lv_has ls 7 [(2, .int (nI (nx + 1))), (3, .int 0), (6, .int 1), (5, .int 4), (4, .int (nI qq - 1)), (0, .ref h0), (1, .int (nI mt))] := hl
                            refine lv_iinc (k := 4) (v := nI (qq + 1) - 1) hx hb d_Mod_firstFrame_168 hl rfl (ff_up qq) (by decide) rfl (fun ls hl => ?_)
                            have hl : lv_has ls 7 [(4, .int (nI (qq + 1) - 1)), (2, .int (nI (nx + 1))), (3, .int 0), (6, .int 1), (5, .int 4), (0, .ref h0), (1, .int (nI mt))] := hl
                            refine lv_goto (tgt := 55) hx hb d_Mod_firstFrame_171 (by decide) ?_
                            have hP : va_P g.1 classes [(h0, .inr (10, mob q rf n mm mb fa fp av ev wi mn tp tc sc nf fd me mp xn mt wh tq u2.1 u2.2.1 ig)), ((q 2), aI g 600 bs), ((q 16), aI g 620 on), ((q 17), aI g 620 tw), ((q 27), aI g 160 fl), ((q 28), aI g 160 pl), ((q 30), aI g 160 ty), ((q 33), aI g 160 lo), ((q 34), aI g 160 bg), ((q 41), aI g 600 dp), ((q 42), aZ g 600 iw), ((q 43), aI g 76800 kd), ((q 47), aI g 128 nw8), ((q 50), aI g 600 u2.2.2)] H := hP.sub [0, 1, 2, 3, 4, 5, 6, 7, 8, 9, 10, 11, 12, 13] rfl
                            have hD : va_D A [(h0, .inr (10, mob q rf n mm mb fa fp av ev wi mn tp tc sc nf fd me mp xn mt wh tq u2.1 u2.2.1 ig)), ((q 2), aI g 600 bs), ((q 16), aI g 620 on), ((q 17), aI g 620 tw), ((q 27), aI g 160 fl), ((q 28), aI g 160 pl), ((q 30), aI g 160 ty), ((q 33), aI g 160 lo), ((q 34), aI g 160 bg), ((q 41), aI g 600 dp), ((q 42), aZ g 600 iw), ((q 43), aI g 76800 kd), ((q 47), aI g 128 nw8), ((q 50), aI g 600 u2.2.2)] := hD.sub [0, 1, 2, 3, 4, 5, 6, 7, 8, 9, 10, 11, 12, 13] (by decide) rfl
                            exact ih55 _ (by omega) (nx + 1) 0 (qq + 1) nw8 ls _ _ rfl (by omega) (by omega) hNW8 (lv_sub hl [0, 2, 1, 5, 6] rfl) hP hD hS
                          · first | exact absurd h126 (by decide) | exact absurd (by decide) h126
                        · have h116 := tn_nlt h116 (by omega) (by omega)
                          refine lv_iconst (v := 1) hx hb d_Mod_firstFrame_119 (by decide) ?_
                          refine lv_goto (tgt := 124) hx hb d_Mod_firstFrame_120 (by decide) ?_
                          refine lv_istore_n hx hb d_Mod_firstFrame_124 rfl hl (by decide) rfl (fun ls hl => ?_)
                          have hl : lv_has ls 7 [(3, .int 1), (6, .int 1), (5, .int 4), (4, .int (nI qq - 1)), (2, .int (nI nx)), (0, .ref h0), (1, .int (nI mt))] := hl
                          refine lv_iload_n hx hb d_Mod_firstFrame_125 rfl (lv_at hl 0 rfl) ?_
                          refine lv_if_eq (tgt := 163) hx hb d_Mod_firstFrame_126 (by decide) (fun h126 => ?_) (fun h126 => ?_)
                          · first | exact absurd h126 (by decide) | exact absurd (by decide) h126
                          · refine lv_aload_n hx hb d_Mod_firstFrame_129 rfl (lv_at hl 5 rfl) ?_
                            refine va_get (D := g.1) (ci := 10) (v := .ref (q 47)) (C := R_Mod) (T := F_Mod) (N := 61) hx hb hts in_Mod hown hK hP 0 rfl rfl 47 (by decide) (hts _ wd_1297) (fun _ h9 => h9) rfl d_Mod_firstFrame_130 ?_
                            refine lv_iload_n hx hb d_Mod_firstFrame_133 rfl (lv_at hl 4 rfl) ?_
                            refine lv_iload hx hb d_Mod_firstFrame_134 (lv_at hl 2 rfl) ?_
                            refine lv_bipush (v := 9) hx hb d_Mod_firstFrame_136 (by decide) ?_
                            refine lv_icmp_lt (tgt := 145) hx hb d_Mod_firstFrame_138 (by decide) (fun h138 => ?_) (fun h138 => ?_)
                            · refine lv_iload hx hb d_Mod_firstFrame_145 (lv_at hl 2 rfl) ?_
                              refine va_iast hx hb hK hP hD hS 12 0 rfl rfl (vp_in_nI (by omega) (by decide)) d_Mod_firstFrame_147 (fun H locs hP hD hS => ?_)
                              have hP : va_P g.1 classes [(h0, .inr (10, mob q rf n mm mb fa fp av ev wi mn tp tc sc nf fd me mp xn mt wh tq u2.1 u2.2.1 ig)), ((q 2), aI g 600 bs), ((q 16), aI g 620 on), ((q 17), aI g 620 tw), ((q 27), aI g 160 fl), ((q 28), aI g 160 pl), ((q 30), aI g 160 ty), ((q 33), aI g 160 lo), ((q 34), aI g 160 bg), ((q 41), aI g 600 dp), ((q 42), aZ g 600 iw), ((q 43), aI g 76800 kd), ((q 47), aI g 128 (upd nw8 (nI nx).toNatClampNeg 4)), ((q 50), aI g 600 u2.2.2)] H := hP
                              have hD : va_D A [(h0, .inr (10, mob q rf n mm mb fa fp av ev wi mn tp tc sc nf fd me mp xn mt wh tq u2.1 u2.2.1 ig)), ((q 2), aI g 600 bs), ((q 16), aI g 620 on), ((q 17), aI g 620 tw), ((q 27), aI g 160 fl), ((q 28), aI g 160 pl), ((q 30), aI g 160 ty), ((q 33), aI g 160 lo), ((q 34), aI g 160 bg), ((q 41), aI g 600 dp), ((q 42), aZ g 600 iw), ((q 43), aI g 76800 kd), ((q 47), aI g 128 (upd nw8 (nI nx).toNatClampNeg 4)), ((q 50), aI g 600 u2.2.2)] := hD
                              have e9 : upd nw8 (nI nx).toNatClampNeg 4 = upd nw8 nx 4 := by rw [nI_clamp (by omega)]
                              rw [e9] at hP hD
                              refine lv_iload hx hb d_Mod_firstFrame_148 (lv_at hl 2 rfl) ?_
                              refine lv_iconst (v := 2) hx hb d_Mod_firstFrame_150 (by decide) ?_
                              refine lv_icmp_ne (tgt := 163) hx hb d_Mod_firstFrame_151 (by decide) (fun h151 => ?_) (fun h151 => ?_)
                              · refine lv_iload_n hx hb d_Mod_firstFrame_163 rfl (lv_at hl 4 rfl) ?_
                                refine lv_iload hx hb d_Mod_firstFrame_164 (lv_at hl 1 rfl) ?_
                                refine lv_iadd hx hb d_Mod_firstFrame_166 ?_
                                refine tw_ri (e2 := nI (nx + 1)) (nI_add nx 1) ?_
                                refine lv_istore_n hx hb d_Mod_firstFrame_167 rfl hl (by decide) rfl (fun ls hl => ?_)
                                have hl : lv_has ls 7 [(2, .int (nI (nx + 1))), (3, .int 1), (6, .int 1), (5, .int 4), (4, .int (nI qq - 1)), (0, .ref h0), (1, .int (nI mt))] := hl
                                refine lv_iinc (k := 4) (v := nI (qq + 1) - 1) hx hb d_Mod_firstFrame_168 hl rfl (ff_up qq) (by decide) rfl (fun ls hl => ?_)
                                have hl : lv_has ls 7 [(4, .int (nI (qq + 1) - 1)), (2, .int (nI (nx + 1))), (3, .int 1), (6, .int 1), (5, .int 4), (0, .ref h0), (1, .int (nI mt))] := hl
                                refine lv_goto (tgt := 55) hx hb d_Mod_firstFrame_171 (by decide) ?_
                                have hP : va_P g.1 classes [(h0, .inr (10, mob q rf n mm mb fa fp av ev wi mn tp tc sc nf fd me mp xn mt wh tq u2.1 u2.2.1 ig)), ((q 2), aI g 600 bs), ((q 16), aI g 620 on), ((q 17), aI g 620 tw), ((q 27), aI g 160 fl), ((q 28), aI g 160 pl), ((q 30), aI g 160 ty), ((q 33), aI g 160 lo), ((q 34), aI g 160 bg), ((q 41), aI g 600 dp), ((q 42), aZ g 600 iw), ((q 43), aI g 76800 kd), ((q 47), aI g 128 (upd nw8 nx 4)), ((q 50), aI g 600 u2.2.2)] H := hP.sub [0, 1, 2, 3, 4, 5, 6, 7, 8, 9, 10, 11, 12, 13] rfl
                                have hD : va_D A [(h0, .inr (10, mob q rf n mm mb fa fp av ev wi mn tp tc sc nf fd me mp xn mt wh tq u2.1 u2.2.1 ig)), ((q 2), aI g 600 bs), ((q 16), aI g 620 on), ((q 17), aI g 620 tw), ((q 27), aI g 160 fl), ((q 28), aI g 160 pl), ((q 30), aI g 160 ty), ((q 33), aI g 160 lo), ((q 34), aI g 160 bg), ((q 41), aI g 600 dp), ((q 42), aZ g 600 iw), ((q 43), aI g 76800 kd), ((q 47), aI g 128 (upd nw8 nx 4)), ((q 50), aI g 600 u2.2.2)] := hD.sub [0, 1, 2, 3, 4, 5, 6, 7, 8, 9, 10, 11, 12, 13] (by decide) rfl
                                exact ih55 _ (by omega) (nx + 1) 1 (qq + 1) (upd nw8 nx 4) ls _ _ rfl (by omega) (by omega) (hNW8.put (by decide)) (lv_sub hl [0, 2, 1, 5, 6] rfl) hP hD hS
                              · exact absurd h151 h85
                            · refine lv_iconst (v := 0) hx hb d_Mod_firstFrame_141 (by decide) ?_
                              refine lv_goto (tgt := 147) hx hb d_Mod_firstFrame_142 (by decide) ?_
                              refine va_iast hx hb hK hP hD hS 12 0 rfl rfl (vp_in_nI (by omega) (by decide)) d_Mod_firstFrame_147 (fun H locs hP hD hS => ?_)
                              have hP : va_P g.1 classes [(h0, .inr (10, mob q rf n mm mb fa fp av ev wi mn tp tc sc nf fd me mp xn mt wh tq u2.1 u2.2.1 ig)), ((q 2), aI g 600 bs), ((q 16), aI g 620 on), ((q 17), aI g 620 tw), ((q 27), aI g 160 fl), ((q 28), aI g 160 pl), ((q 30), aI g 160 ty), ((q 33), aI g 160 lo), ((q 34), aI g 160 bg), ((q 41), aI g 600 dp), ((q 42), aZ g 600 iw), ((q 43), aI g 76800 kd), ((q 47), aI g 128 (upd nw8 (nI nx).toNatClampNeg 0)), ((q 50), aI g 600 u2.2.2)] H := hP
                              have hD : va_D A [(h0, .inr (10, mob q rf n mm mb fa fp av ev wi mn tp tc sc nf fd me mp xn mt wh tq u2.1 u2.2.1 ig)), ((q 2), aI g 600 bs), ((q 16), aI g 620 on), ((q 17), aI g 620 tw), ((q 27), aI g 160 fl), ((q 28), aI g 160 pl), ((q 30), aI g 160 ty), ((q 33), aI g 160 lo), ((q 34), aI g 160 bg), ((q 41), aI g 600 dp), ((q 42), aZ g 600 iw), ((q 43), aI g 76800 kd), ((q 47), aI g 128 (upd nw8 (nI nx).toNatClampNeg 0)), ((q 50), aI g 600 u2.2.2)] := hD
                              have e9 : upd nw8 (nI nx).toNatClampNeg 0 = upd nw8 nx 0 := by rw [nI_clamp (by omega)]
                              rw [e9] at hP hD
                              refine lv_iload hx hb d_Mod_firstFrame_148 (lv_at hl 2 rfl) ?_
                              refine lv_iconst (v := 2) hx hb d_Mod_firstFrame_150 (by decide) ?_
                              refine lv_icmp_ne (tgt := 163) hx hb d_Mod_firstFrame_151 (by decide) (fun h151 => ?_) (fun h151 => ?_)
                              · refine lv_iload_n hx hb d_Mod_firstFrame_163 rfl (lv_at hl 4 rfl) ?_
                                refine lv_iload hx hb d_Mod_firstFrame_164 (lv_at hl 1 rfl) ?_
                                refine lv_iadd hx hb d_Mod_firstFrame_166 ?_
                                refine tw_ri (e2 := nI (nx + 1)) (nI_add nx 1) ?_
                                refine lv_istore_n hx hb d_Mod_firstFrame_167 rfl hl (by decide) rfl (fun ls hl => ?_)
                                have hl : lv_has ls 7 [(2, .int (nI (nx + 1))), (3, .int 1), (6, .int 1), (5, .int 4), (4, .int (nI qq - 1)), (0, .ref h0), (1, .int (nI mt))] := hl
                                refine lv_iinc (k := 4) (v := nI (qq + 1) - 1) hx hb d_Mod_firstFrame_168 hl rfl (ff_up qq) (by decide) rfl (fun ls hl => ?_)
                                have hl : lv_has ls 7 [(4, .int (nI (qq + 1) - 1)), (2, .int (nI (nx + 1))), (3, .int 1), (6, .int 1), (5, .int 4), (0, .ref h0), (1, .int (nI mt))] := hl
                                refine lv_goto (tgt := 55) hx hb d_Mod_firstFrame_171 (by decide) ?_
                                have hP : va_P g.1 classes [(h0, .inr (10, mob q rf n mm mb fa fp av ev wi mn tp tc sc nf fd me mp xn mt wh tq u2.1 u2.2.1 ig)), ((q 2), aI g 600 bs), ((q 16), aI g 620 on), ((q 17), aI g 620 tw), ((q 27), aI g 160 fl), ((q 28), aI g 160 pl), ((q 30), aI g 160 ty), ((q 33), aI g 160 lo), ((q 34), aI g 160 bg), ((q 41), aI g 600 dp), ((q 42), aZ g 600 iw), ((q 43), aI g 76800 kd), ((q 47), aI g 128 (upd nw8 nx 0)), ((q 50), aI g 600 u2.2.2)] H := hP.sub [0, 1, 2, 3, 4, 5, 6, 7, 8, 9, 10, 11, 12, 13] rfl
                                have hD : va_D A [(h0, .inr (10, mob q rf n mm mb fa fp av ev wi mn tp tc sc nf fd me mp xn mt wh tq u2.1 u2.2.1 ig)), ((q 2), aI g 600 bs), ((q 16), aI g 620 on), ((q 17), aI g 620 tw), ((q 27), aI g 160 fl), ((q 28), aI g 160 pl), ((q 30), aI g 160 ty), ((q 33), aI g 160 lo), ((q 34), aI g 160 bg), ((q 41), aI g 600 dp), ((q 42), aZ g 600 iw), ((q 43), aI g 76800 kd), ((q 47), aI g 128 (upd nw8 nx 0)), ((q 50), aI g 600 u2.2.2)] := hD.sub [0, 1, 2, 3, 4, 5, 6, 7, 8, 9, 10, 11, 12, 13] (by decide) rfl
                                exact ih55 _ (by omega) (nx + 1) 1 (qq + 1) (upd nw8 nx 0) ls _ _ rfl (by omega) (by omega) (hNW8.put (by decide)) (lv_sub hl [0, 2, 1, 5, 6] rfl) hP hD hS
                              · exact absurd h151 h85
                    · refine lv_iconst (v := 2) hx hb d_Mod_firstFrame_95 (by decide) ?_
                      refine lv_goto (tgt := 100) hx hb d_Mod_firstFrame_96 (by decide) ?_
                      refine lv_istore hx hb d_Mod_firstFrame_100 hl (by decide) rfl (fun ls hl => ?_)
                      have hl : lv_has ls 7 [(6, .int 2), (5, .int 4), (4, .int (nI qq - 1)), (3, .int ft), (2, .int (nI nx)), (0, .ref h0), (1, .int (nI mt))] := hl
                      refine lv_iload_n hx hb d_Mod_firstFrame_102 rfl (lv_at hl 3 rfl) ?_
                      refine lv_if_eq (tgt := 123) hx hb d_Mod_firstFrame_103 (by decide) (fun h103 => ?_) (fun h103 => ?_)
                      · refine lv_iconst (v := 0) hx hb d_Mod_firstFrame_123 (by decide) ?_
                        refine lv_istore_n hx hb d_Mod_firstFrame_124 rfl hl (by decide) rfl (fun ls hl => ?_)
                        have hl : lv_has ls 7 [(3, .int 0), (6, .int 2), (5, .int 4), (4, .int (nI qq - 1)), (2, .int (nI nx)), (0, .ref h0), (1, .int (nI mt))] := hl
                        refine lv_iload_n hx hb d_Mod_firstFrame_125 rfl (lv_at hl 0 rfl) ?_
                        refine lv_if_eq (tgt := 163) hx hb d_Mod_firstFrame_126 (by decide) (fun h126 => ?_) (fun h126 => ?_)
                        · refine lv_iload_n hx hb d_Mod_firstFrame_163 rfl (lv_at hl 4 rfl) ?_
                          refine lv_iload hx hb d_Mod_firstFrame_164 (lv_at hl 1 rfl) ?_
                          refine lv_iadd hx hb d_Mod_firstFrame_166 ?_
                          refine tw_ri (e2 := nI (nx + 2)) (nI_add nx 2) ?_
                          refine lv_istore_n hx hb d_Mod_firstFrame_167 rfl hl (by decide) rfl (fun ls hl => ?_)
                          have hl : lv_has ls 7 [(2, .int (nI (nx + 2))), (3, .int 0), (6, .int 2), (5, .int 4), (4, .int (nI qq - 1)), (0, .ref h0), (1, .int (nI mt))] := hl
                          refine lv_iinc (k := 4) (v := nI (qq + 1) - 1) hx hb d_Mod_firstFrame_168 hl rfl (ff_up qq) (by decide) rfl (fun ls hl => ?_)
                          have hl : lv_has ls 7 [(4, .int (nI (qq + 1) - 1)), (2, .int (nI (nx + 2))), (3, .int 0), (6, .int 2), (5, .int 4), (0, .ref h0), (1, .int (nI mt))] := hl
                          refine lv_goto (tgt := 55) hx hb d_Mod_firstFrame_171 (by decide) ?_
                          have hP : va_P g.1 classes [(h0, .inr (10, mob q rf n mm mb fa fp av ev wi mn tp tc sc nf fd me mp xn mt wh tq u2.1 u2.2.1 ig)), ((q 2), aI g 600 bs), ((q 16), aI g 620 on), ((q 17), aI g 620 tw), ((q 27), aI g 160 fl), ((q 28), aI g 160 pl), ((q 30), aI g 160 ty), ((q 33), aI g 160 lo), ((q 34), aI g 160 bg), ((q 41), aI g 600 dp), ((q 42), aZ g 600 iw), ((q 43), aI g 76800 kd), ((q 47), aI g 128 nw8), ((q 50), aI g 600 u2.2.2)] H := hP.sub [0, 1, 2, 3, 4, 5, 6, 7, 8, 9, 10, 11, 12, 13] rfl
                          have hD : va_D A [(h0, .inr (10, mob q rf n mm mb fa fp av ev wi mn tp tc sc nf fd me mp xn mt wh tq u2.1 u2.2.1 ig)), ((q 2), aI g 600 bs), ((q 16), aI g 620 on), ((q 17), aI g 620 tw), ((q 27), aI g 160 fl), ((q 28), aI g 160 pl), ((q 30), aI g 160 ty), ((q 33), aI g 160 lo), ((q 34), aI g 160 bg), ((q 41), aI g 600 dp), ((q 42), aZ g 600 iw), ((q 43), aI g 76800 kd), ((q 47), aI g 128 nw8), ((q 50), aI g 600 u2.2.2)] := hD.sub [0, 1, 2, 3, 4, 5, 6, 7, 8, 9, 10, 11, 12, 13] (by decide) rfl
                          exact ih55 _ (by omega) (nx + 2) 0 (qq + 1) nw8 ls _ _ rfl (by omega) (by omega) hNW8 (lv_sub hl [0, 2, 1, 5, 6] rfl) hP hD hS
                        · first | exact absurd h126 (by decide) | exact absurd (by decide) h126
                      · refine lv_iload_n hx hb d_Mod_firstFrame_106 rfl (lv_at hl 4 rfl) ?_
                        refine lv_iload hx hb d_Mod_firstFrame_107 (lv_at hl 0 rfl) ?_
                        refine lv_iadd hx hb d_Mod_firstFrame_109 ?_
                        refine tw_ri (e2 := nI (nx + 2)) (nI_add nx 2) ?_
                        refine lv_aload_n hx hb d_Mod_firstFrame_110 rfl (lv_at hl 5 rfl) ?_
                        refine va_get (D := g.1) (ci := 10) (v := .ref (q 33)) (C := R_Mod) (T := F_Mod) (N := 61) hx hb hts in_Mod hown hK hP 0 rfl rfl 33 (by decide) (hts _ wd_1283) (fun _ h9 => h9) rfl d_Mod_firstFrame_111 ?_
                        refine lv_iload_n hx hb d_Mod_firstFrame_114 rfl (lv_at hl 6 rfl) ?_
                        refine va_iald hx hb hK hP 7 0 rfl rfl (vp_in_nI (by omega) (by decide)) d_Mod_firstFrame_115 ?_
                        refine tw_ri (e2 := nI o1) (by rw [nI_clamp (by omega)]; exact hlo) ?_
                        refine lv_icmp_gt (tgt := 123) hx hb d_Mod_firstFrame_116 (by decide) (fun h116 => ?_) (fun h116 => ?_)
                        · refine lv_iconst (v := 0) hx hb d_Mod_firstFrame_123 (by decide) ?_
                          refine lv_istore_n hx hb d_Mod_firstFrame_124 rfl hl (by decide) rfl (fun ls hl => ?_)
                          have hl : lv_has ls 7 [(3, .int 0), (6, .int 2), (5, .int 4), (4, .int (nI qq - 1)), (2, .int (nI nx)), (0, .ref h0), (1, .int (nI mt))] := hl
                          refine lv_iload_n hx hb d_Mod_firstFrame_125 rfl (lv_at hl 0 rfl) ?_
                          refine lv_if_eq (tgt := 163) hx hb d_Mod_firstFrame_126 (by decide) (fun h126 => ?_) (fun h126 => ?_)
                          · refine lv_iload_n hx hb d_Mod_firstFrame_163 rfl (lv_at hl 4 rfl) ?_
                            refine lv_iload hx hb d_Mod_firstFrame_164 (lv_at hl 1 rfl) ?_
                            refine lv_iadd hx hb d_Mod_firstFrame_166 ?_
                            refine tw_ri (e2 := nI (nx + 2)) (nI_add nx 2) ?_
                            refine lv_istore_n hx hb d_Mod_firstFrame_167 rfl hl (by decide) rfl (fun ls hl => ?_)
                            have hl : lv_has ls 7 [(2, .int (nI (nx + 2))), (3, .int 0), (6, .int 2), (5, .int 4), (4, .int (nI qq - 1)), (0, .ref h0), (1, .int (nI mt))] := hl
                            refine lv_iinc (k := 4) (v := nI (qq + 1) - 1) hx hb d_Mod_firstFrame_168 hl rfl (ff_up qq) (by decide) rfl (fun ls hl => ?_)
                            have hl : lv_has ls 7 [(4, .int (nI (qq + 1) - 1)), (2, .int (nI (nx + 2))), (3, .int 0), (6, .int 2), (5, .int 4), (0, .ref h0), (1, .int (nI mt))] := hl
                            refine lv_goto (tgt := 55) hx hb d_Mod_firstFrame_171 (by decide) ?_
                            have hP : va_P g.1 classes [(h0, .inr (10, mob q rf n mm mb fa fp av ev wi mn tp tc sc nf fd me mp xn mt wh tq u2.1 u2.2.1 ig)), ((q 2), aI g 600 bs), ((q 16), aI g 620 on), ((q 17), aI g 620 tw), ((q 27), aI g 160 fl), ((q 28), aI g 160 pl), ((q 30), aI g 160 ty), ((q 33), aI g 160 lo), ((q 34), aI g 160 bg), ((q 41), aI g 600 dp), ((q 42), aZ g 600 iw), ((q 43), aI g 76800 kd), ((q 47), aI g 128 nw8), ((q 50), aI g 600 u2.2.2)] H := hP.sub [0, 1, 2, 3, 4, 5, 6, 7, 8, 9, 10, 11, 12, 13] rfl
                            have hD : va_D A [(h0, .inr (10, mob q rf n mm mb fa fp av ev wi mn tp tc sc nf fd me mp xn mt wh tq u2.1 u2.2.1 ig)), ((q 2), aI g 600 bs), ((q 16), aI g 620 on), ((q 17), aI g 620 tw), ((q 27), aI g 160 fl), ((q 28), aI g 160 pl), ((q 30), aI g 160 ty), ((q 33), aI g 160 lo), ((q 34), aI g 160 bg), ((q 41), aI g 600 dp), ((q 42), aZ g 600 iw), ((q 43), aI g 76800 kd), ((q 47), aI g 128 nw8), ((q 50), aI g 600 u2.2.2)] := hD.sub [0, 1, 2, 3, 4, 5, 6, 7, 8, 9, 10, 11, 12, 13] (by decide) rfl
                            exact ih55 _ (by omega) (nx + 2) 0 (qq + 1) nw8 ls _ _ rfl (by omega) (by omega) hNW8 (lv_sub hl [0, 2, 1, 5, 6] rfl) hP hD hS
                          · first | exact absurd h126 (by decide) | exact absurd (by decide) h126
                        · have h116 := tn_nlt h116 (by omega) (by omega)
                          refine lv_iconst (v := 1) hx hb d_Mod_firstFrame_119 (by decide) ?_
                          refine lv_goto (tgt := 124) hx hb d_Mod_firstFrame_120 (by decide) ?_
                          refine lv_istore_n hx hb d_Mod_firstFrame_124 rfl hl (by decide) rfl (fun ls hl => ?_)
                          have hl : lv_has ls 7 [(3, .int 1), (6, .int 2), (5, .int 4), (4, .int (nI qq - 1)), (2, .int (nI nx)), (0, .ref h0), (1, .int (nI mt))] := hl
                          refine lv_iload_n hx hb d_Mod_firstFrame_125 rfl (lv_at hl 0 rfl) ?_
                          refine lv_if_eq (tgt := 163) hx hb d_Mod_firstFrame_126 (by decide) (fun h126 => ?_) (fun h126 => ?_)
                          · first | exact absurd h126 (by decide) | exact absurd (by decide) h126
                          · refine lv_aload_n hx hb d_Mod_firstFrame_129 rfl (lv_at hl 5 rfl) ?_
                            refine va_get (D := g.1) (ci := 10) (v := .ref (q 47)) (C := R_Mod) (T := F_Mod) (N := 61) hx hb hts in_Mod hown hK hP 0 rfl rfl 47 (by decide) (hts _ wd_1297) (fun _ h9 => h9) rfl d_Mod_firstFrame_130 ?_
                            refine lv_iload_n hx hb d_Mod_firstFrame_133 rfl (lv_at hl 4 rfl) ?_
                            refine lv_iload hx hb d_Mod_firstFrame_134 (lv_at hl 2 rfl) ?_
                            refine lv_bipush (v := 9) hx hb d_Mod_firstFrame_136 (by decide) ?_
                            refine lv_icmp_lt (tgt := 145) hx hb d_Mod_firstFrame_138 (by decide) (fun h138 => ?_) (fun h138 => ?_)
                            · refine lv_iload hx hb d_Mod_firstFrame_145 (lv_at hl 2 rfl) ?_
                              refine va_iast hx hb hK hP hD hS 12 0 rfl rfl (vp_in_nI (by omega) (by decide)) d_Mod_firstFrame_147 (fun H locs hP hD hS => ?_)
                              have hP : va_P g.1 classes [(h0, .inr (10, mob q rf n mm mb fa fp av ev wi mn tp tc sc nf fd me mp xn mt wh tq u2.1 u2.2.1 ig)), ((q 2), aI g 600 bs), ((q 16), aI g 620 on), ((q 17), aI g 620 tw), ((q 27), aI g 160 fl), ((q 28), aI g 160 pl), ((q 30), aI g 160 ty), ((q 33), aI g 160 lo), ((q 34), aI g 160 bg), ((q 41), aI g 600 dp), ((q 42), aZ g 600 iw), ((q 43), aI g 76800 kd), ((q 47), aI g 128 (upd nw8 (nI nx).toNatClampNeg 4)), ((q 50), aI g 600 u2.2.2)] H := hP
                              have hD : va_D A [(h0, .inr (10, mob q rf n mm mb fa fp av ev wi mn tp tc sc nf fd me mp xn mt wh tq u2.1 u2.2.1 ig)), ((q 2), aI g 600 bs), ((q 16), aI g 620 on), ((q 17), aI g 620 tw), ((q 27), aI g 160 fl), ((q 28), aI g 160 pl), ((q 30), aI g 160 ty), ((q 33), aI g 160 lo), ((q 34), aI g 160 bg), ((q 41), aI g 600 dp), ((q 42), aZ g 600 iw), ((q 43), aI g 76800 kd), ((q 47), aI g 128 (upd nw8 (nI nx).toNatClampNeg 4)), ((q 50), aI g 600 u2.2.2)] := hD
                              have e9 : upd nw8 (nI nx).toNatClampNeg 4 = upd nw8 nx 4 := by rw [nI_clamp (by omega)]
                              rw [e9] at hP hD
                              refine lv_iload hx hb d_Mod_firstFrame_148 (lv_at hl 2 rfl) ?_
                              refine lv_iconst (v := 2) hx hb d_Mod_firstFrame_150 (by decide) ?_
                              refine lv_icmp_ne (tgt := 163) hx hb d_Mod_firstFrame_151 (by decide) (fun h151 => ?_) (fun h151 => ?_)
                              · refine lv_iload_n hx hb d_Mod_firstFrame_163 rfl (lv_at hl 4 rfl) ?_
                                refine lv_iload hx hb d_Mod_firstFrame_164 (lv_at hl 1 rfl) ?_
                                refine lv_iadd hx hb d_Mod_firstFrame_166 ?_
                                refine tw_ri (e2 := nI (nx + 2)) (nI_add nx 2) ?_
                                refine lv_istore_n hx hb d_Mod_firstFrame_167 rfl hl (by decide) rfl (fun ls hl => ?_)
                                have hl : lv_has ls 7 [(2, .int (nI (nx + 2))), (3, .int 1), (6, .int 2), (5, .int 4), (4, .int (nI qq - 1)), (0, .ref h0), (1, .int (nI mt))] := hl
                                refine lv_iinc (k := 4) (v := nI (qq + 1) - 1) hx hb d_Mod_firstFrame_168 hl rfl (ff_up qq) (by decide) rfl (fun ls hl => ?_)
                                have hl : lv_has ls 7 [(4, .int (nI (qq + 1) - 1)), (2, .int (nI (nx + 2))), (3, .int 1), (6, .int 2), (5, .int 4), (0, .ref h0), (1, .int (nI mt))] := hl
                                refine lv_goto (tgt := 55) hx hb d_Mod_firstFrame_171 (by decide) ?_
                                have hP : va_P g.1 classes [(h0, .inr (10, mob q rf n mm mb fa fp av ev wi mn tp tc sc nf fd me mp xn mt wh tq u2.1 u2.2.1 ig)), ((q 2), aI g 600 bs), ((q 16), aI g 620 on), ((q 17), aI g 620 tw), ((q 27), aI g 160 fl), ((q 28), aI g 160 pl), ((q 30), aI g 160 ty), ((q 33), aI g 160 lo), ((q 34), aI g 160 bg), ((q 41), aI g 600 dp), ((q 42), aZ g 600 iw), ((q 43), aI g 76800 kd), ((q 47), aI g 128 (upd nw8 nx 4)), ((q 50), aI g 600 u2.2.2)] H := hP.sub [0, 1, 2, 3, 4, 5, 6, 7, 8, 9, 10, 11, 12, 13] rfl
                                have hD : va_D A [(h0, .inr (10, mob q rf n mm mb fa fp av ev wi mn tp tc sc nf fd me mp xn mt wh tq u2.1 u2.2.1 ig)), ((q 2), aI g 600 bs), ((q 16), aI g 620 on), ((q 17), aI g 620 tw), ((q 27), aI g 160 fl), ((q 28), aI g 160 pl), ((q 30), aI g 160 ty), ((q 33), aI g 160 lo), ((q 34), aI g 160 bg), ((q 41), aI g 600 dp), ((q 42), aZ g 600 iw), ((q 43), aI g 76800 kd), ((q 47), aI g 128 (upd nw8 nx 4)), ((q 50), aI g 600 u2.2.2)] := hD.sub [0, 1, 2, 3, 4, 5, 6, 7, 8, 9, 10, 11, 12, 13] (by decide) rfl
                                exact ih55 _ (by omega) (nx + 2) 1 (qq + 1) (upd nw8 nx 4) ls _ _ rfl (by omega) (by omega) (hNW8.put (by decide)) (lv_sub hl [0, 2, 1, 5, 6] rfl) hP hD hS
                              · exact absurd h151 h85
                            · refine lv_iconst (v := 0) hx hb d_Mod_firstFrame_141 (by decide) ?_
                              refine lv_goto (tgt := 147) hx hb d_Mod_firstFrame_142 (by decide) ?_
                              refine va_iast hx hb hK hP hD hS 12 0 rfl rfl (vp_in_nI (by omega) (by decide)) d_Mod_firstFrame_147 (fun H locs hP hD hS => ?_)
                              have hP : va_P g.1 classes [(h0, .inr (10, mob q rf n mm mb fa fp av ev wi mn tp tc sc nf fd me mp xn mt wh tq u2.1 u2.2.1 ig)), ((q 2), aI g 600 bs), ((q 16), aI g 620 on), ((q 17), aI g 620 tw), ((q 27), aI g 160 fl), ((q 28), aI g 160 pl), ((q 30), aI g 160 ty), ((q 33), aI g 160 lo), ((q 34), aI g 160 bg), ((q 41), aI g 600 dp), ((q 42), aZ g 600 iw), ((q 43), aI g 76800 kd), ((q 47), aI g 128 (upd nw8 (nI nx).toNatClampNeg 0)), ((q 50), aI g 600 u2.2.2)] H := hP
                              have hD : va_D A [(h0, .inr (10, mob q rf n mm mb fa fp av ev wi mn tp tc sc nf fd me mp xn mt wh tq u2.1 u2.2.1 ig)), ((q 2), aI g 600 bs), ((q 16), aI g 620 on), ((q 17), aI g 620 tw), ((q 27), aI g 160 fl), ((q 28), aI g 160 pl), ((q 30), aI g 160 ty), ((q 33), aI g 160 lo), ((q 34), aI g 160 bg), ((q 41), aI g 600 dp), ((q 42), aZ g 600 iw), ((q 43), aI g 76800 kd), ((q 47), aI g 128 (upd nw8 (nI nx).toNatClampNeg 0)), ((q 50), aI g 600 u2.2.2)] := hD
                              have e9 : upd nw8 (nI nx).toNatClampNeg 0 = upd nw8 nx 0 := by rw [nI_clamp (by omega)]
                              rw [e9] at hP hD
                              refine lv_iload hx hb d_Mod_firstFrame_148 (lv_at hl 2 rfl) ?_
                              refine lv_iconst (v := 2) hx hb d_Mod_firstFrame_150 (by decide) ?_
                              refine lv_icmp_ne (tgt := 163) hx hb d_Mod_firstFrame_151 (by decide) (fun h151 => ?_) (fun h151 => ?_)
                              · refine lv_iload_n hx hb d_Mod_firstFrame_163 rfl (lv_at hl 4 rfl) ?_
                                refine lv_iload hx hb d_Mod_firstFrame_164 (lv_at hl 1 rfl) ?_
                                refine lv_iadd hx hb d_Mod_firstFrame_166 ?_
                                refine tw_ri (e2 := nI (nx + 2)) (nI_add nx 2) ?_
                                refine lv_istore_n hx hb d_Mod_firstFrame_167 rfl hl (by decide) rfl (fun ls hl => ?_)
                                have hl : lv_has ls 7 [(2, .int (nI (nx + 2))), (3, .int 1), (6, .int 2), (5, .int 4), (4, .int (nI qq - 1)), (0, .ref h0), (1, .int (nI mt))] := hl
                                refine lv_iinc (k := 4) (v := nI (qq + 1) - 1) hx hb d_Mod_firstFrame_168 hl rfl (ff_up qq) (by decide) rfl (fun ls hl => ?_)
                                have hl : lv_has ls 7 [(4, .int (nI (qq + 1) - 1)), (2, .int (nI (nx + 2))), (3, .int 1), (6, .int 2), (5, .int 4), (0, .ref h0), (1, .int (nI mt))] := hl
                                refine lv_goto (tgt := 55) hx hb d_Mod_firstFrame_171 (by decide) ?_
                                have hP : va_P g.1 classes [(h0, .inr (10, mob q rf n mm mb fa fp av ev wi mn tp tc sc nf fd me mp xn mt wh tq u2.1 u2.2.1 ig)), ((q 2), aI g 600 bs), ((q 16), aI g 620 on), ((q 17), aI g 620 tw), ((q 27), aI g 160 fl), ((q 28), aI g 160 pl), ((q 30), aI g 160 ty), ((q 33), aI g 160 lo), ((q 34), aI g 160 bg), ((q 41), aI g 600 dp), ((q 42), aZ g 600 iw), ((q 43), aI g 76800 kd), ((q 47), aI g 128 (upd nw8 nx 0)), ((q 50), aI g 600 u2.2.2)] H := hP.sub [0, 1, 2, 3, 4, 5, 6, 7, 8, 9, 10, 11, 12, 13] rfl
                                have hD : va_D A [(h0, .inr (10, mob q rf n mm mb fa fp av ev wi mn tp tc sc nf fd me mp xn mt wh tq u2.1 u2.2.1 ig)), ((q 2), aI g 600 bs), ((q 16), aI g 620 on), ((q 17), aI g 620 tw), ((q 27), aI g 160 fl), ((q 28), aI g 160 pl), ((q 30), aI g 160 ty), ((q 33), aI g 160 lo), ((q 34), aI g 160 bg), ((q 41), aI g 600 dp), ((q 42), aZ g 600 iw), ((q 43), aI g 76800 kd), ((q 47), aI g 128 (upd nw8 nx 0)), ((q 50), aI g 600 u2.2.2)] := hD.sub [0, 1, 2, 3, 4, 5, 6, 7, 8, 9, 10, 11, 12, 13] (by decide) rfl
                                exact ih55 _ (by omega) (nx + 2) 1 (qq + 1) (upd nw8 nx 0) ls _ _ rfl (by omega) (by omega) (hNW8.put (by decide)) (lv_sub hl [0, 2, 1, 5, 6] rfl) hP hD hS
                              · exact absurd h151 h85
          exact loop55 _ 0 1 0 nw9 ls _ _ rfl (Nat.zero_le _) (by omega) hNW1 (lv_sub hl [0, 1, 2, 3, 4] rfl) hP hD hS
        · refine lv_iconst (v := 0) hx hb d_Mod_firstFrame_48 (by decide) ?_
          refine lv_goto (tgt := 53) hx hb d_Mod_firstFrame_49 (by decide) ?_
          refine lv_istore hx hb d_Mod_firstFrame_53 hl (by decide) rfl (fun ls hl => ?_)
          have hl : lv_has ls 7 [(4, .int 0), (3, .int 1), (2, .int 0), (0, .ref h0), (1, .int (nI mt))] := hl
          have loop55 : ∀ (kq : Nat) (nx : Nat) (ft : Int32) (qq : Nat) (nw8 : Nat → Int32) (ls : Array Slot) (H : Heap) (locs : List Loc) , u2.1 + 1 - qq = kq → (hnx : nx ≤ 2 * qq) → (hqq : qq ≤ u2.1 + 1) → (hNW8 : NOW nw8) → lv_has ls 7 [(4, .int (nI qq - 1)), (3, .int ft), (2, .int (nI nx)), (0, .ref h0), (1, .int (nI mt))] → va_P g.1 classes [(h0, .inr (10, mob q rf n mm mb fa fp av ev wi mn tp tc sc nf fd me mp xn mt wh tq u2.1 u2.2.1 ig)), ((q 2), aI g 600 bs), ((q 16), aI g 620 on), ((q 17), aI g 620 tw), ((q 27), aI g 160 fl), ((q 28), aI g 160 pl), ((q 30), aI g 160 ty), ((q 33), aI g 160 lo), ((q 34), aI g 160 bg), ((q 41), aI g 600 dp), ((q 42), aZ g 600 iw), ((q 43), aI g 76800 kd), ((q 47), aI g 128 nw8), ((q 50), aI g 600 u2.2.2)] H → va_D A [(h0, .inr (10, mob q rf n mm mb fa fp av ev wi mn tp tc sc nf fd me mp xn mt wh tq u2.1 u2.2.1 ig)), ((q 2), aI g 600 bs), ((q 16), aI g 620 on), ((q 17), aI g 620 tw), ((q 27), aI g 160 fl), ((q 28), aI g 160 pl), ((q 30), aI g 160 ty), ((q 33), aI g 160 lo), ((q 34), aI g 160 bg), ((q 41), aI g 600 dp), ((q 42), aZ g 600 iw), ((q 43), aI g 76800 kd), ((q 47), aI g 128 nw8), ((q 50), aI g 600 u2.2.2)] → va_S A s.heap H locs → W p l e ({ frames := 5, cells := 0, slots := 0, locals := 117 }) s m [.ref h0, .int (nI mt)].toArray below meth c H locs 0 0 (MQ below (tw_Qv g (fun (u : Int32 × Int32 × Nat × Int32 × (Nat → Int32) × (Nat → Int32) × (Nat → Int32) × (Nat → Int32) × (Nat → Int32)) => (u.1 = 0 → fa = 0) ∧ (FRG u.2.2.2.2.1 u.2.2.2.2.2.1 u.2.2.2.2.2.2.1) ∧ (MU u.2.2.2.2.1 u.2.2.2.2.2.1 u.2.2.2.2.2.2.1 ≤ MU dp iw kd)) (fun u : Int32 × Int32 × Nat × Int32 × (Nat → Int32) × (Nat → Int32) × (Nat → Int32) × (Nat → Int32) × (Nat → Int32) => [(h0, .inr (10, mob q rf n mm mb u.1 u.2.1 av ev wi mn tp tc sc nf fd me mp xn mt wh tq u.2.2.1 u.2.2.2.1 ig)), ((q 2), aI g 600 bs), ((q 16), aI g 620 on), ((q 17), aI g 620 tw), ((q 27), aI g 160 fl), ((q 28), aI g 160 pl), ((q 30), aI g 160 ty), ((q 33), aI g 160 lo), ((q 34), aI g 160 bg), ((q 41), aI g 600 u.2.2.2.2.1), ((q 42), aZ g 600 u.2.2.2.2.2.1), ((q 43), aI g 76800 u.2.2.2.2.2.2.1), ((q 47), aI g 128 u.2.2.2.2.2.2.2.1), ((q 50), aI g 600 u.2.2.2.2.2.2.2.2)]) A) [.ref h0, .int (nI mt)].toArray s 0 0 A) (F0 m 55 ls []) := by
            intro kq
            induction kq using Nat.strongRecOn with
            | _ kq ih55 =>
              intro nx ft qq nw8 ls H locs hk55 hnx hqq hNW8 hl hP hD hS
              refine lv_iload hx hb d_Mod_firstFrame_55 (lv_at hl 0 rfl) ?_
              refine lv_aload_n hx hb d_Mod_firstFrame_57 rfl (lv_at hl 3 rfl) ?_
              refine va_get (D := g.1) (ci := 10) (v := .int (nI u2.1)) (C := R_Mod) (T := F_Mod) (N := 61) hx hb hts in_Mod hown hK hP 0 rfl rfl 49 (by decide) (hts _ wd_1299) (fun _ h9 => h9) rfl d_Mod_firstFrame_58 ?_
              refine lv_icmp_ge (tgt := 174) hx hb d_Mod_firstFrame_61 (by decide) (fun h61 => ?_) (fun h61 => ?_)
              · refine lv_iload_n hx hb d_Mod_firstFrame_174 rfl (lv_at hl 1 rfl) ?_
                refine lv_if_ne (tgt := 191) hx hb d_Mod_firstFrame_175 (by decide) (fun h175 => ?_) (fun h175 => ?_)
                · refine lv_aload_n hx hb d_Mod_firstFrame_191 rfl (lv_at hl 3 rfl) ?_
                  refine lv_aload_n hx hb d_Mod_firstFrame_192 rfl (lv_at hl 3 rfl) ?_
                  refine va_get (D := g.1) (ci := 10) (v := .ref (q 34)) (C := R_Mod) (T := F_Mod) (N := 61) hx hb hts in_Mod hown hK hP 0 rfl rfl 34 (by decide) (hts _ wd_1284) (fun _ h9 => h9) rfl d_Mod_firstFrame_193 ?_
                  refine lv_iload_n hx hb d_Mod_firstFrame_196 rfl (lv_at hl 4 rfl) ?_
                  refine va_iald hx hb hK hP 8 0 rfl rfl (vp_in_nI (by omega) (by decide)) d_Mod_firstFrame_197 ?_
                  refine tw_ri (e2 := nI b1) (by rw [nI_clamp (by omega)]; exact hbg) ?_
                  refine lv_aload_n hx hb d_Mod_firstFrame_198 rfl (lv_at hl 3 rfl) ?_
                  refine va_get (D := g.1) (ci := 10) (v := .ref (q 47)) (C := R_Mod) (T := F_Mod) (N := 61) hx hb hts in_Mod hown hK hP 0 rfl rfl 47 (by decide) (hts _ wd_1297) (fun _ h9 => h9) rfl d_Mod_firstFrame_199 ?_
                  refine lv_iconst (v := 0) hx hb d_Mod_firstFrame_202 (by decide) ?_
                  refine tw_wv (wr := [((q 2), aI g 600 bs), ((q 16), aI g 620 on), ((q 17), aI g 620 tw), ((q 27), aI g 160 fl), ((q 28), aI g 160 pl), ((q 30), aI g 160 ty), ((q 33), aI g 160 lo), ((q 34), aI g 160 bg), ((q 50), aI g 600 u2.2.2)]) (tw_runV (ws := [(h0, .inr (10, mob q rf n mm mb fa fp av ev wi mn tp tc sc nf fd me mp xn mt wh tq u2.1 u2.2.1 ig)), ((q 2), aI g 600 bs), ((q 16), aI g 620 on), ((q 17), aI g 620 tw), ((q 27), aI g 160 fl), ((q 28), aI g 160 pl), ((q 30), aI g 160 ty), ((q 33), aI g 160 lo), ((q 34), aI g 160 bg), ((q 41), aI g 600 dp), ((q 42), aZ g 600 iw), ((q 43), aI g 76800 kd), ((q 47), aI g 128 nw8), ((q 50), aI g 600 u2.2.2)]) (wc := [(h0, .inr (10, mob q rf n mm mb fa fp av ev wi mn tp tc sc nf fd me mp xn mt wh tq u2.1 u2.2.1 ig)), ((q 41), aI g 600 dp), ((q 42), aZ g 600 iw), ((q 43), aI g 76800 kd), ((q 47), aI g 128 nw8)]) (As := [.int (nI b1), .ref (q 47), .int 0]) (rest := []) E hB hK hZ (g_Mod_goOnN l g H.size h0 q rf n mm mb av ev wi mn tp tc sc nf fd me mp xn mt wh tq u2.1 u2.2.1 ig nw8 fa fp dp iw kd b1 0 (by omega) (by omega) hFR hNW8.1 hNW8.2) mc_Mod_goOn mi_Mod_goOn me_Mod_goOn wd_1636 hP hD hS hA [0, 9, 10, 11, 12] rfl (by decide) 0 rfl rfl rfl rfl rfl (by decide) rfl hl.1 rfl (Nat.le_of_ble_eq_true rfl) (by decide) d_Mod_firstFrame_203) hP hD hS hA [0, 9, 10, 11, 12] [1, 2, 3, 4, 5, 6, 7, 8, 13] rfl rfl (by decide) (by decide) (fun u11 H locs hr10 hP hD hS => ?_)
                  try dsimp only at hr10
                  have hP : va_P g.1 classes [((q 2), aI g 600 bs), ((q 16), aI g 620 on), ((q 17), aI g 620 tw), ((q 27), aI g 160 fl), ((q 28), aI g 160 pl), ((q 30), aI g 160 ty), ((q 33), aI g 160 lo), ((q 34), aI g 160 bg), ((q 50), aI g 600 u2.2.2), (h0, .inr (10, mob q rf n mm mb u11.1 u11.2.1 av ev wi mn tp tc sc nf fd me mp xn mt wh tq u2.1 u2.2.1 ig)), ((q 41), aI g 600 u11.2.2.1), ((q 42), aZ g 600 u11.2.2.2.1), ((q 43), aI g 76800 u11.2.2.2.2), ((q 47), aI g 128 nw8)] H := hP
                  have hD : va_D A [((q 2), aI g 600 bs), ((q 16), aI g 620 on), ((q 17), aI g 620 tw), ((q 27), aI g 160 fl), ((q 28), aI g 160 pl), ((q 30), aI g 160 ty), ((q 33), aI g 160 lo), ((q 34), aI g 160 bg), ((q 50), aI g 600 u2.2.2), (h0, .inr (10, mob q rf n mm mb u11.1 u11.2.1 av ev wi mn tp tc sc nf fd me mp xn mt wh tq u2.1 u2.2.1 ig)), ((q 41), aI g 600 u11.2.2.1), ((q 42), aZ g 600 u11.2.2.2.1), ((q 43), aI g 76800 u11.2.2.2.2), ((q 47), aI g 128 nw8)] := hD
                  have hP : va_P g.1 classes [(h0, .inr (10, mob q rf n mm mb u11.1 u11.2.1 av ev wi mn tp tc sc nf fd me mp xn mt wh tq u2.1 u2.2.1 ig)), ((q 2), aI g 600 bs), ((q 16), aI g 620 on), ((q 17), aI g 620 tw), ((q 27), aI g 160 fl), ((q 28), aI g 160 pl), ((q 30), aI g 160 ty), ((q 33), aI g 160 lo), ((q 34), aI g 160 bg), ((q 41), aI g 600 u11.2.2.1), ((q 42), aZ g 600 u11.2.2.2.1), ((q 43), aI g 76800 u11.2.2.2.2), ((q 47), aI g 128 nw8), ((q 50), aI g 600 u2.2.2)] H := hP.sub [9, 0, 1, 2, 3, 4, 5, 6, 7, 10, 11, 12, 13, 8] rfl
                  have hD : va_D A [(h0, .inr (10, mob q rf n mm mb u11.1 u11.2.1 av ev wi mn tp tc sc nf fd me mp xn mt wh tq u2.1 u2.2.1 ig)), ((q 2), aI g 600 bs), ((q 16), aI g 620 on), ((q 17), aI g 620 tw), ((q 27), aI g 160 fl), ((q 28), aI g 160 pl), ((q 30), aI g 160 ty), ((q 33), aI g 160 lo), ((q 34), aI g 160 bg), ((q 41), aI g 600 u11.2.2.1), ((q 42), aZ g 600 u11.2.2.2.1), ((q 43), aI g 76800 u11.2.2.2.2), ((q 47), aI g 128 nw8), ((q 50), aI g 600 u2.2.2)] := hD.sub [9, 0, 1, 2, 3, 4, 5, 6, 7, 10, 11, 12, 13, 8] (by decide) rfl
                  obtain ⟨hp11_0, hp11_1, hp11_2⟩ := hr10
                  exact tw_vret E hS (u11.1, u11.2.1, u2.1, u2.2.1, u11.2.2.1, u11.2.2.2.1, u11.2.2.2.2, nw8, u2.2.2) (⟨(fun h => (fun h => h) (hp11_0 h)), hp11_1, (by first | omega | (dsimp only <;> omega))⟩) hP hD d_Mod_firstFrame_206
                · refine lv_aload_n hx hb d_Mod_firstFrame_178 rfl (lv_at hl 3 rfl) ?_
                  refine lv_bipush (v := 21) hx hb d_Mod_firstFrame_179 (by decide) ?_
                  refine lv_aload_n hx hb d_Mod_firstFrame_181 rfl (lv_at hl 3 rfl) ?_
                  refine va_get (D := g.1) (ci := 10) (v := .ref (q 28)) (C := R_Mod) (T := F_Mod) (N := 61) hx hb hts in_Mod hown hK hP 0 rfl rfl 28 (by decide) (hts _ wd_1278) (fun _ h9 => h9) rfl d_Mod_firstFrame_182 ?_
                  refine lv_iload_n hx hb d_Mod_firstFrame_185 rfl (lv_at hl 4 rfl) ?_
                  refine va_iald hx hb hK hP 5 0 rfl rfl (vp_in_nI (by omega) (by decide)) d_Mod_firstFrame_186 ?_
                  obtain ⟨x12, ex12⟩ : ∃ z : Int32, pl ((nI mt).toNatClampNeg) = z := ⟨_, rfl⟩
                  refine tw_ri (e2 := x12) ex12 ?_
                  refine tw_wv (wr := [((q 2), aI g 600 bs), ((q 16), aI g 620 on), ((q 17), aI g 620 tw), ((q 27), aI g 160 fl), ((q 28), aI g 160 pl), ((q 30), aI g 160 ty), ((q 33), aI g 160 lo), ((q 34), aI g 160 bg), ((q 41), aI g 600 dp), ((q 42), aZ g 600 iw), ((q 43), aI g 76800 kd), ((q 47), aI g 128 nw8), ((q 50), aI g 600 u2.2.2)]) (tw_runV (ws := [(h0, .inr (10, mob q rf n mm mb fa fp av ev wi mn tp tc sc nf fd me mp xn mt wh tq u2.1 u2.2.1 ig)), ((q 2), aI g 600 bs), ((q 16), aI g 620 on), ((q 17), aI g 620 tw), ((q 27), aI g 160 fl), ((q 28), aI g 160 pl), ((q 30), aI g 160 ty), ((q 33), aI g 160 lo), ((q 34), aI g 160 bg), ((q 41), aI g 600 dp), ((q 42), aZ g 600 iw), ((q 43), aI g 76800 kd), ((q 47), aI g 128 nw8), ((q 50), aI g 600 u2.2.2)]) (wc := [(h0, .inr (10, mob q rf n mm mb fa fp av ev wi mn tp tc sc nf fd me mp xn mt wh tq u2.1 u2.2.1 ig))]) (As := [.int 21, .int x12]) (rest := []) E hB hK hZ (g_Mod_fail l g H.size h0 q rf n mm mb av ev wi mn tp tc sc nf fd me mp xn mt wh tq u2.1 u2.2.1 ig fa fp 21 x12 (by decide)) mc_Mod_fail mi_Mod_fail me_Mod_fail wd_1478 hP hD hS hA [0] rfl (by decide) 0 rfl rfl rfl rfl rfl (by decide) rfl hl.1 rfl (Nat.le_of_ble_eq_true rfl) (by decide) d_Mod_firstFrame_187) hP hD hS hA [0] [1, 2, 3, 4, 5, 6, 7, 8, 9, 10, 11, 12, 13] rfl rfl (by decide) (by decide) (fun u14 H locs hr13 hP hD hS => ?_)
                  try dsimp only at hr13
                  have hP : va_P g.1 classes [((q 2), aI g 600 bs), ((q 16), aI g 620 on), ((q 17), aI g 620 tw), ((q 27), aI g 160 fl), ((q 28), aI g 160 pl), ((q 30), aI g 160 ty), ((q 33), aI g 160 lo), ((q 34), aI g 160 bg), ((q 41), aI g 600 dp), ((q 42), aZ g 600 iw), ((q 43), aI g 76800 kd), ((q 47), aI g 128 nw8), ((q 50), aI g 600 u2.2.2), (h0, .inr (10, mob q rf n mm mb u14.1 u14.2 av ev wi mn tp tc sc nf fd me mp xn mt wh tq u2.1 u2.2.1 ig))] H := hP
                  have hD : va_D A [((q 2), aI g 600 bs), ((q 16), aI g 620 on), ((q 17), aI g 620 tw), ((q 27), aI g 160 fl), ((q 28), aI g 160 pl), ((q 30), aI g 160 ty), ((q 33), aI g 160 lo), ((q 34), aI g 160 bg), ((q 41), aI g 600 dp), ((q 42), aZ g 600 iw), ((q 43), aI g 76800 kd), ((q 47), aI g 128 nw8), ((q 50), aI g 600 u2.2.2), (h0, .inr (10, mob q rf n mm mb u14.1 u14.2 av ev wi mn tp tc sc nf fd me mp xn mt wh tq u2.1 u2.2.1 ig))] := hD
                  have hP : va_P g.1 classes [(h0, .inr (10, mob q rf n mm mb u14.1 u14.2 av ev wi mn tp tc sc nf fd me mp xn mt wh tq u2.1 u2.2.1 ig)), ((q 2), aI g 600 bs), ((q 16), aI g 620 on), ((q 17), aI g 620 tw), ((q 27), aI g 160 fl), ((q 28), aI g 160 pl), ((q 30), aI g 160 ty), ((q 33), aI g 160 lo), ((q 34), aI g 160 bg), ((q 41), aI g 600 dp), ((q 42), aZ g 600 iw), ((q 43), aI g 76800 kd), ((q 47), aI g 128 nw8), ((q 50), aI g 600 u2.2.2)] H := hP.sub [13, 0, 1, 2, 3, 4, 5, 6, 7, 8, 9, 10, 11, 12] rfl
                  have hD : va_D A [(h0, .inr (10, mob q rf n mm mb u14.1 u14.2 av ev wi mn tp tc sc nf fd me mp xn mt wh tq u2.1 u2.2.1 ig)), ((q 2), aI g 600 bs), ((q 16), aI g 620 on), ((q 17), aI g 620 tw), ((q 27), aI g 160 fl), ((q 28), aI g 160 pl), ((q 30), aI g 160 ty), ((q 33), aI g 160 lo), ((q 34), aI g 160 bg), ((q 41), aI g 600 dp), ((q 42), aZ g 600 iw), ((q 43), aI g 76800 kd), ((q 47), aI g 128 nw8), ((q 50), aI g 600 u2.2.2)] := hD.sub [13, 0, 1, 2, 3, 4, 5, 6, 7, 8, 9, 10, 11, 12] (by decide) rfl
                  have hp14_0 := hr13
                  exact tw_vret E hS (u14.1, u14.2, u2.1, u2.2.1, dp, iw, kd, nw8, u2.2.2) (⟨(fun h => absurd h hp14_0), hFR, (by first | omega | (dsimp only <;> omega))⟩) hP hD d_Mod_firstFrame_190
              · have h61 := ff_lt h61 (by omega) (by omega)
                refine lv_iload hx hb d_Mod_firstFrame_64 (lv_at hl 0 rfl) ?_
                refine lv_if_ge (tgt := 73) hx hb d_Mod_firstFrame_66 (by decide) (fun h66 => ?_) (fun h66 => ?_)
                · have h66 := ff_ge h66 (by omega)
                  have hkk := hp2_1 (qq - 1) (by omega)
                  refine lv_aload_n hx hb d_Mod_firstFrame_73 rfl (lv_at hl 3 rfl) ?_
                  refine va_get (D := g.1) (ci := 10) (v := .ref (q 50)) (C := R_Mod) (T := F_Mod) (N := 61) hx hb hts in_Mod hown hK hP 0 rfl rfl 50 (by decide) (hts _ wd_1300) (fun _ h9 => h9) rfl d_Mod_firstFrame_74 ?_
                  refine lv_iload hx hb d_Mod_firstFrame_77 (lv_at hl 0 rfl) ?_
                  refine va_iald hx hb hK hP 13 0 rfl rfl (by rw [ff_dn h66]; exact vp_in_nI (by omega) (by decide)) d_Mod_firstFrame_79 ?_
                  refine tw_ri (e2 := u2.2.2 (qq - 1)) (by rw [ff_dn h66, nI_clamp (by omega)]) ?_
                  refine lv_istore hx hb d_Mod_firstFrame_80 hl (by decide) rfl (fun ls hl => ?_)
                  have hl : lv_has ls 7 [(5, .int (u2.2.2 (qq - 1))), (4, .int (nI qq - 1)), (3, .int ft), (2, .int (nI nx)), (0, .ref h0), (1, .int (nI mt))] := hl
                  refine lv_iload hx hb d_Mod_firstFrame_82 (lv_at hl 0 rfl) ?_
                  refine lv_iconst (v := 2) hx hb d_Mod_firstFrame_84 (by decide) ?_
                  refine lv_icmp_eq (tgt := 95) hx hb d_Mod_firstFrame_85 (by decide) (fun h85 => ?_) (fun h85 => ?_)
                  · refine lv_iconst (v := 2) hx hb d_Mod_firstFrame_95 (by decide) ?_
                    refine lv_goto (tgt := 100) hx hb d_Mod_firstFrame_96 (by decide) ?_
                    refine lv_istore hx hb d_Mod_firstFrame_100 hl (by decide) rfl (fun ls hl => ?_)
                    have hl : lv_has ls 7 [(6, .int 2), (5, .int (u2.2.2 (qq - 1))), (4, .int (nI qq - 1)), (3, .int ft), (2, .int (nI nx)), (0, .ref h0), (1, .int (nI mt))] := hl
                    refine lv_iload_n hx hb d_Mod_firstFrame_102 rfl (lv_at hl 3 rfl) ?_
                    refine lv_if_eq (tgt := 123) hx hb d_Mod_firstFrame_103 (by decide) (fun h103 => ?_) (fun h103 => ?_)
                    · refine lv_iconst (v := 0) hx hb d_Mod_firstFrame_123 (by decide) ?_
                      refine lv_istore_n hx hb d_Mod_firstFrame_124 rfl hl (by decide) rfl (fun ls hl => ?_)
                      have hl : lv_has ls 7 [(3, .int 0), (6, .int 2), (5, .int (u2.2.2 (qq - 1))), (4, .int (nI qq - 1)), (2, .int (nI nx)), (0, .ref h0), (1, .int (nI mt))] := hl
                      refine lv_iload_n hx hb d_Mod_firstFrame_125 rfl (lv_at hl 0 rfl) ?_
                      refine lv_if_eq (tgt := 163) hx hb d_Mod_firstFrame_126 (by decide) (fun h126 => ?_) (fun h126 => ?_)
                      · refine lv_iload_n hx hb d_Mod_firstFrame_163 rfl (lv_at hl 4 rfl) ?_
                        refine lv_iload hx hb d_Mod_firstFrame_164 (lv_at hl 1 rfl) ?_
                        refine lv_iadd hx hb d_Mod_firstFrame_166 ?_
                        refine tw_ri (e2 := nI (nx + 2)) (nI_add nx 2) ?_
                        refine lv_istore_n hx hb d_Mod_firstFrame_167 rfl hl (by decide) rfl (fun ls hl => ?_)
                        have hl : lv_has ls 7 [(2, .int (nI (nx + 2))), (3, .int 0), (6, .int 2), (5, .int (u2.2.2 (qq - 1))), (4, .int (nI qq - 1)), (0, .ref h0), (1, .int (nI mt))] := hl
                        refine lv_iinc (k := 4) (v := nI (qq + 1) - 1) hx hb d_Mod_firstFrame_168 hl rfl (ff_up qq) (by decide) rfl (fun ls hl => ?_)
                        have hl : lv_has ls 7 [(4, .int (nI (qq + 1) - 1)), (2, .int (nI (nx + 2))), (3, .int 0), (6, .int 2), (5, .int (u2.2.2 (qq - 1))), (0, .ref h0), (1, .int (nI mt))] := hl
                        refine lv_goto (tgt := 55) hx hb d_Mod_firstFrame_171 (by decide) ?_
                        have hP : va_P g.1 classes [(h0, .inr (10, mob q rf n mm mb fa fp av ev wi mn tp tc sc nf fd me mp xn mt wh tq u2.1 u2.2.1 ig)), ((q 2), aI g 600 bs), ((q 16), aI g 620 on), ((q 17), aI g 620 tw), ((q 27), aI g 160 fl), ((q 28), aI g 160 pl), ((q 30), aI g 160 ty), ((q 33), aI g 160 lo), ((q 34), aI g 160 bg), ((q 41), aI g 600 dp), ((q 42), aZ g 600 iw), ((q 43), aI g 76800 kd), ((q 47), aI g 128 nw8), ((q 50), aI g 600 u2.2.2)] H := hP.sub [0, 1, 2, 3, 4, 5, 6, 7, 8, 9, 10, 11, 12, 13] rfl
                        have hD : va_D A [(h0, .inr (10, mob q rf n mm mb fa fp av ev wi mn tp tc sc nf fd me mp xn mt wh tq u2.1 u2.2.1 ig)), ((q 2), aI g 600 bs), ((q 16), aI g 620 on), ((q 17), aI g 620 tw), ((q 27), aI g 160 fl), ((q 28), aI g 160 pl), ((q 30), aI g 160 ty), ((q 33), aI g 160 lo), ((q 34), aI g 160 bg), ((q 41), aI g 600 dp), ((q 42), aZ g 600 iw), ((q 43), aI g 76800 kd), ((q 47), aI g 128 nw8), ((q 50), aI g 600 u2.2.2)] := hD.sub [0, 1, 2, 3, 4, 5, 6, 7, 8, 9, 10, 11, 12, 13] (by decide) rfl
                        exact ih55 _ (by omega) (nx + 2) 0 (qq + 1) nw8 ls _ _ rfl (by omega) (by omega) hNW8 (lv_sub hl [0, 2, 1, 5, 6] rfl) hP hD hS
                      · first | exact absurd h126 (by decide) | exact absurd (by decide) h126
                    · refine lv_iload_n hx hb d_Mod_firstFrame_106 rfl (lv_at hl 4 rfl) ?_
                      refine lv_iload hx hb d_Mod_firstFrame_107 (lv_at hl 0 rfl) ?_
                      refine lv_iadd hx hb d_Mod_firstFrame_109 ?_
                      refine tw_ri (e2 := nI (nx + 2)) (nI_add nx 2) ?_
                      refine lv_aload_n hx hb d_Mod_firstFrame_110 rfl (lv_at hl 5 rfl) ?_
                      refine va_get (D := g.1) (ci := 10) (v := .ref (q 33)) (C := R_Mod) (T := F_Mod) (N := 61) hx hb hts in_Mod hown hK hP 0 rfl rfl 33 (by decide) (hts _ wd_1283) (fun _ h9 => h9) rfl d_Mod_firstFrame_111 ?_
                      refine lv_iload_n hx hb d_Mod_firstFrame_114 rfl (lv_at hl 6 rfl) ?_
                      refine va_iald hx hb hK hP 7 0 rfl rfl (vp_in_nI (by omega) (by decide)) d_Mod_firstFrame_115 ?_
                      refine tw_ri (e2 := nI o1) (by rw [nI_clamp (by omega)]; exact hlo) ?_
                      refine lv_icmp_gt (tgt := 123) hx hb d_Mod_firstFrame_116 (by decide) (fun h116 => ?_) (fun h116 => ?_)
                      · refine lv_iconst (v := 0) hx hb d_Mod_firstFrame_123 (by decide) ?_
                        refine lv_istore_n hx hb d_Mod_firstFrame_124 rfl hl (by decide) rfl (fun ls hl => ?_)
                        have hl : lv_has ls 7 [(3, .int 0), (6, .int 2), (5, .int (u2.2.2 (qq - 1))), (4, .int (nI qq - 1)), (2, .int (nI nx)), (0, .ref h0), (1, .int (nI mt))] := hl
                        refine lv_iload_n hx hb d_Mod_firstFrame_125 rfl (lv_at hl 0 rfl) ?_
                        refine lv_if_eq (tgt := 163) hx hb d_Mod_firstFrame_126 (by decide) (fun h126 => ?_) (fun h126 => ?_)
                        · refine lv_iload_n hx hb d_Mod_firstFrame_163 rfl (lv_at hl 4 rfl) ?_
                          refine lv_iload hx hb d_Mod_firstFrame_164 (lv_at hl 1 rfl) ?_
                          refine lv_iadd hx hb d_Mod_firstFrame_166 ?_
                          refine tw_ri (e2 := nI (nx + 2)) (nI_add nx 2) ?_
                          refine lv_istore_n hx hb d_Mod_firstFrame_167 rfl hl (by decide) rfl (fun ls hl => ?_)
                          have hl : lv_has ls 7 [(2, .int (nI (nx + 2))), (3, .int 0), (6, .int 2), (5, .int (u2.2.2 (qq - 1))), (4, .int (nI qq - 1)), (0, .ref h0), (1, .int (nI mt))] := hl
                          refine lv_iinc (k := 4) (v := nI (qq + 1) - 1) hx hb d_Mod_firstFrame_168 hl rfl (ff_up qq) (by decide) rfl (fun ls hl => ?_)
                          have hl : lv_has ls 7 [(4, .int (nI (qq + 1) - 1)), (2, .int (nI (nx + 2))), (3, .int 0), (6, .int 2), (5, .int (u2.2.2 (qq - 1))), (0, .ref h0), (1, .int (nI mt))] := hl
                          refine lv_goto (tgt := 55) hx hb d_Mod_firstFrame_171 (by decide) ?_
                          have hP : va_P g.1 classes [(h0, .inr (10, mob q rf n mm mb fa fp av ev wi mn tp tc sc nf fd me mp xn mt wh tq u2.1 u2.2.1 ig)), ((q 2), aI g 600 bs), ((q 16), aI g 620 on), ((q 17), aI g 620 tw), ((q 27), aI g 160 fl), ((q 28), aI g 160 pl), ((q 30), aI g 160 ty), ((q 33), aI g 160 lo), ((q 34), aI g 160 bg), ((q 41), aI g 600 dp), ((q 42), aZ g 600 iw), ((q 43), aI g 76800 kd), ((q 47), aI g 128 nw8), ((q 50), aI g 600 u2.2.2)] H := hP.sub [0, 1, 2, 3, 4, 5, 6, 7, 8, 9, 10, 11, 12, 13] rfl
                          have hD : va_D A [(h0, .inr (10, mob q rf n mm mb fa fp av ev wi mn tp tc sc nf fd me mp xn mt wh tq u2.1 u2.2.1 ig)), ((q 2), aI g 600 bs), ((q 16), aI g 620 on), ((q 17), aI g 620 tw), ((q 27), aI g 160 fl), ((q 28), aI g 160 pl), ((q 30), aI g 160 ty), ((q 33), aI g 160 lo), ((q 34), aI g 160 bg), ((q 41), aI g 600 dp), ((q 42), aZ g 600 iw), ((q 43), aI g 76800 kd), ((q 47), aI g 128 nw8), ((q 50), aI g 600 u2.2.2)] := hD.sub [0, 1, 2, 3, 4, 5, 6, 7, 8, 9, 10, 11, 12, 13] (by decide) rfl
                          exact ih55 _ (by omega) (nx + 2) 0 (qq + 1) nw8 ls _ _ rfl (by omega) (by omega) hNW8 (lv_sub hl [0, 2, 1, 5, 6] rfl) hP hD hS
                        · first | exact absurd h126 (by decide) | exact absurd (by decide) h126
                      · have h116 := tn_nlt h116 (by omega) (by omega)
                        refine lv_iconst (v := 1) hx hb d_Mod_firstFrame_119 (by decide) ?_
                        refine lv_goto (tgt := 124) hx hb d_Mod_firstFrame_120 (by decide) ?_
                        refine lv_istore_n hx hb d_Mod_firstFrame_124 rfl hl (by decide) rfl (fun ls hl => ?_)
                        have hl : lv_has ls 7 [(3, .int 1), (6, .int 2), (5, .int (u2.2.2 (qq - 1))), (4, .int (nI qq - 1)), (2, .int (nI nx)), (0, .ref h0), (1, .int (nI mt))] := hl
                        refine lv_iload_n hx hb d_Mod_firstFrame_125 rfl (lv_at hl 0 rfl) ?_
                        refine lv_if_eq (tgt := 163) hx hb d_Mod_firstFrame_126 (by decide) (fun h126 => ?_) (fun h126 => ?_)
                        · first | exact absurd h126 (by decide) | exact absurd (by decide) h126
                        · refine lv_aload_n hx hb d_Mod_firstFrame_129 rfl (lv_at hl 5 rfl) ?_
                          refine va_get (D := g.1) (ci := 10) (v := .ref (q 47)) (C := R_Mod) (T := F_Mod) (N := 61) hx hb hts in_Mod hown hK hP 0 rfl rfl 47 (by decide) (hts _ wd_1297) (fun _ h9 => h9) rfl d_Mod_firstFrame_130 ?_
                          refine lv_iload_n hx hb d_Mod_firstFrame_133 rfl (lv_at hl 4 rfl) ?_
                          refine lv_iload hx hb d_Mod_firstFrame_134 (lv_at hl 2 rfl) ?_
                          refine lv_bipush (v := 9) hx hb d_Mod_firstFrame_136 (by decide) ?_
                          refine lv_icmp_lt (tgt := 145) hx hb d_Mod_firstFrame_138 (by decide) (fun h138 => ?_) (fun h138 => ?_)
                          · refine lv_iload hx hb d_Mod_firstFrame_145 (lv_at hl 2 rfl) ?_
                            refine va_iast hx hb hK hP hD hS 12 0 rfl rfl (vp_in_nI (by omega) (by decide)) d_Mod_firstFrame_147 (fun H locs hP hD hS => ?_)
                            have hP : va_P g.1 classes [(h0, .inr (10, mob q rf n mm mb fa fp av ev wi mn tp tc sc nf fd me mp xn mt wh tq u2.1 u2.2.1 ig)), ((q 2), aI g 600 bs), ((q 16), aI g 620 on), ((q 17), aI g 620 tw), ((q 27), aI g 160 fl), ((q 28), aI g 160 pl), ((q 30), aI g 160 ty), ((q 33), aI g 160 lo), ((q 34), aI g 160 bg), ((q 41), aI g 600 dp), ((q 42), aZ g 600 iw), ((q 43), aI g 76800 kd), ((q 47), aI g 128 (upd nw8 (nI nx).toNatClampNeg (u2.2.2 (qq - 1)))), ((q 50), aI g 600 u2.2.2)] H := hP
                            have hD : va_D A [(h0, .inr (10, mob q rf n mm mb fa fp av ev wi mn tp tc sc nf fd me mp xn mt wh tq u2.1 u2.2.1 ig)), ((q 2), aI g 600 bs), ((q 16), aI g 620 on), ((q 17), aI g 620 tw), ((q 27), aI g 160 fl), ((q 28), aI g 160 pl), ((q 30), aI g 160 ty), ((q 33), aI g 160 lo), ((q 34), aI g 160 bg), ((q 41), aI g 600 dp), ((q 42), aZ g 600 iw), ((q 43), aI g 76800 kd), ((q 47), aI g 128 (upd nw8 (nI nx).toNatClampNeg (u2.2.2 (qq - 1)))), ((q 50), aI g 600 u2.2.2)] := hD
                            have e9 : upd nw8 (nI nx).toNatClampNeg (u2.2.2 (qq - 1)) = upd nw8 nx (u2.2.2 (qq - 1)) := by rw [nI_clamp (by omega)]
                            rw [e9] at hP hD
                            refine lv_iload hx hb d_Mod_firstFrame_148 (lv_at hl 2 rfl) ?_
                            refine lv_iconst (v := 2) hx hb d_Mod_firstFrame_150 (by decide) ?_
                            refine lv_icmp_ne (tgt := 163) hx hb d_Mod_firstFrame_151 (by decide) (fun h151 => ?_) (fun h151 => ?_)
                            · exact absurd h85 h151
                            · refine lv_aload_n hx hb d_Mod_firstFrame_154 rfl (lv_at hl 5 rfl) ?_
                              refine va_get (D := g.1) (ci := 10) (v := .ref (q 47)) (C := R_Mod) (T := F_Mod) (N := 61) hx hb hts in_Mod hown hK hP 0 rfl rfl 47 (by decide) (hts _ wd_1297) (fun _ h9 => h9) rfl d_Mod_firstFrame_155 ?_
                              refine lv_iload_n hx hb d_Mod_firstFrame_158 rfl (lv_at hl 4 rfl) ?_
                              refine lv_iconst (v := 1) hx hb d_Mod_firstFrame_159 (by decide) ?_
                              refine lv_iadd hx hb d_Mod_firstFrame_160 ?_
                              refine tw_ri (e2 := nI (nx + 1)) (nI_add nx 1) ?_
                              refine lv_iconst (v := 3) hx hb d_Mod_firstFrame_161 (by decide) ?_
                              refine va_iast hx hb hK hP hD hS 12 0 rfl rfl (vp_in_nI (by omega) (by decide)) d_Mod_firstFrame_162 (fun H locs hP hD hS => ?_)
                              have hP : va_P g.1 classes [(h0, .inr (10, mob q rf n mm mb fa fp av ev wi mn tp tc sc nf fd me mp xn mt wh tq u2.1 u2.2.1 ig)), ((q 2), aI g 600 bs), ((q 16), aI g 620 on), ((q 17), aI g 620 tw), ((q 27), aI g 160 fl), ((q 28), aI g 160 pl), ((q 30), aI g 160 ty), ((q 33), aI g 160 lo), ((q 34), aI g 160 bg), ((q 41), aI g 600 dp), ((q 42), aZ g 600 iw), ((q 43), aI g 76800 kd), ((q 47), aI g 128 (upd (upd nw8 nx (u2.2.2 (qq - 1))) (nI (nx + 1)).toNatClampNeg 3)), ((q 50), aI g 600 u2.2.2)] H := hP
                              have hD : va_D A [(h0, .inr (10, mob q rf n mm mb fa fp av ev wi mn tp tc sc nf fd me mp xn mt wh tq u2.1 u2.2.1 ig)), ((q 2), aI g 600 bs), ((q 16), aI g 620 on), ((q 17), aI g 620 tw), ((q 27), aI g 160 fl), ((q 28), aI g 160 pl), ((q 30), aI g 160 ty), ((q 33), aI g 160 lo), ((q 34), aI g 160 bg), ((q 41), aI g 600 dp), ((q 42), aZ g 600 iw), ((q 43), aI g 76800 kd), ((q 47), aI g 128 (upd (upd nw8 nx (u2.2.2 (qq - 1))) (nI (nx + 1)).toNatClampNeg 3)), ((q 50), aI g 600 u2.2.2)] := hD
                              have e9 : upd (upd nw8 nx (u2.2.2 (qq - 1))) (nI (nx + 1)).toNatClampNeg 3 = upd (upd nw8 nx (u2.2.2 (qq - 1))) (nx + 1) 3 := by rw [nI_clamp (by omega)]
                              rw [e9] at hP hD
                              refine lv_iload_n hx hb d_Mod_firstFrame_163 rfl (lv_at hl 4 rfl) ?_
                              refine lv_iload hx hb d_Mod_firstFrame_164 (lv_at hl 1 rfl) ?_
                              refine lv_iadd hx hb d_Mod_firstFrame_166 ?_
                              refine tw_ri (e2 := nI (nx + 2)) (nI_add nx 2) ?_
                              refine lv_istore_n hx hb d_Mod_firstFrame_167 rfl hl (by decide) rfl (fun ls hl => ?_)
                              have hl : lv_has ls 7 [(2, .int (nI (nx + 2))), (3, .int 1), (6, .int 2), (5, .int (u2.2.2 (qq - 1))), (4, .int (nI qq - 1)), (0, .ref h0), (1, .int (nI mt))] := hl
                              refine lv_iinc (k := 4) (v := nI (qq + 1) - 1) hx hb d_Mod_firstFrame_168 hl rfl (ff_up qq) (by decide) rfl (fun ls hl => ?_)
                              have hl : lv_has ls 7 [(4, .int (nI (qq + 1) - 1)), (2, .int (nI (nx + 2))), (3, .int 1), (6, .int 2), (5, .int (u2.2.2 (qq - 1))), (0, .ref h0), (1, .int (nI mt))] := hl
                              refine lv_goto (tgt := 55) hx hb d_Mod_firstFrame_171 (by decide) ?_
                              have hP : va_P g.1 classes [(h0, .inr (10, mob q rf n mm mb fa fp av ev wi mn tp tc sc nf fd me mp xn mt wh tq u2.1 u2.2.1 ig)), ((q 2), aI g 600 bs), ((q 16), aI g 620 on), ((q 17), aI g 620 tw), ((q 27), aI g 160 fl), ((q 28), aI g 160 pl), ((q 30), aI g 160 ty), ((q 33), aI g 160 lo), ((q 34), aI g 160 bg), ((q 41), aI g 600 dp), ((q 42), aZ g 600 iw), ((q 43), aI g 76800 kd), ((q 47), aI g 128 (upd (upd nw8 nx (u2.2.2 (qq - 1))) (nx + 1) 3)), ((q 50), aI g 600 u2.2.2)] H := hP.sub [0, 1, 2, 3, 4, 5, 6, 7, 8, 9, 10, 11, 12, 13] rfl
                              have hD : va_D A [(h0, .inr (10, mob q rf n mm mb fa fp av ev wi mn tp tc sc nf fd me mp xn mt wh tq u2.1 u2.2.1 ig)), ((q 2), aI g 600 bs), ((q 16), aI g 620 on), ((q 17), aI g 620 tw), ((q 27), aI g 160 fl), ((q 28), aI g 160 pl), ((q 30), aI g 160 ty), ((q 33), aI g 160 lo), ((q 34), aI g 160 bg), ((q 41), aI g 600 dp), ((q 42), aZ g 600 iw), ((q 43), aI g 76800 kd), ((q 47), aI g 128 (upd (upd nw8 nx (u2.2.2 (qq - 1))) (nx + 1) 3)), ((q 50), aI g 600 u2.2.2)] := hD.sub [0, 1, 2, 3, 4, 5, 6, 7, 8, 9, 10, 11, 12, 13] (by decide) rfl
                              exact ih55 _ (by omega) (nx + 2) 1 (qq + 1) (upd (upd nw8 nx (u2.2.2 (qq - 1))) (nx + 1) 3) ls _ _ rfl (by omega) (by omega) ((hNW8.put (kn3 hkk)).put2 (by omega) (by omega)) (lv_sub hl [0, 2, 1, 5, 6] rfl) hP hD hS
                          · refine lv_iconst (v := 0) hx hb d_Mod_firstFrame_141 (by decide) ?_
                            refine lv_goto (tgt := 147) hx hb d_Mod_firstFrame_142 (by decide) ?_
                            refine va_iast hx hb hK hP hD hS 12 0 rfl rfl (vp_in_nI (by omega) (by decide)) d_Mod_firstFrame_147 (fun H locs hP hD hS => ?_)
                            have hP : va_P g.1 classes [(h0, .inr (10, mob q rf n mm mb fa fp av ev wi mn tp tc sc nf fd me mp xn mt wh tq u2.1 u2.2.1 ig)), ((q 2), aI g 600 bs), ((q 16), aI g 620 on), ((q 17), aI g 620 tw), ((q 27), aI g 160 fl), ((q 28), aI g 160 pl), ((q 30), aI g 160 ty), ((q 33), aI g 160 lo), ((q 34), aI g 160 bg), ((q 41), aI g 600 dp), ((q 42), aZ g 600 iw), ((q 43), aI g 76800 kd), ((q 47), aI g 128 (upd nw8 (nI nx).toNatClampNeg 0)), ((q 50), aI g 600 u2.2.2)] H := hP
                            have hD : va_D A [(h0, .inr (10, mob q rf n mm mb fa fp av ev wi mn tp tc sc nf fd me mp xn mt wh tq u2.1 u2.2.1 ig)), ((q 2), aI g 600 bs), ((q 16), aI g 620 on), ((q 17), aI g 620 tw), ((q 27), aI g 160 fl), ((q 28), aI g 160 pl), ((q 30), aI g 160 ty), ((q 33), aI g 160 lo), ((q 34), aI g 160 bg), ((q 41), aI g 600 dp), ((q 42), aZ g 600 iw), ((q 43), aI g 76800 kd), ((q 47), aI g 128 (upd nw8 (nI nx).toNatClampNeg 0)), ((q 50), aI g 600 u2.2.2)] := hD
                            have e9 : upd nw8 (nI nx).toNatClampNeg 0 = upd nw8 nx 0 := by rw [nI_clamp (by omega)]
                            rw [e9] at hP hD
                            refine lv_iload hx hb d_Mod_firstFrame_148 (lv_at hl 2 rfl) ?_
                            refine lv_iconst (v := 2) hx hb d_Mod_firstFrame_150 (by decide) ?_
                            refine lv_icmp_ne (tgt := 163) hx hb d_Mod_firstFrame_151 (by decide) (fun h151 => ?_) (fun h151 => ?_)
                            · exact absurd h85 h151
                            · refine lv_aload_n hx hb d_Mod_firstFrame_154 rfl (lv_at hl 5 rfl) ?_
                              refine va_get (D := g.1) (ci := 10) (v := .ref (q 47)) (C := R_Mod) (T := F_Mod) (N := 61) hx hb hts in_Mod hown hK hP 0 rfl rfl 47 (by decide) (hts _ wd_1297) (fun _ h9 => h9) rfl d_Mod_firstFrame_155 ?_
                              refine lv_iload_n hx hb d_Mod_firstFrame_158 rfl (lv_at hl 4 rfl) ?_
                              refine lv_iconst (v := 1) hx hb d_Mod_firstFrame_159 (by decide) ?_
                              refine lv_iadd hx hb d_Mod_firstFrame_160 ?_
                              refine tw_ri (e2 := nI (nx + 1)) (nI_add nx 1) ?_
                              refine lv_iconst (v := 3) hx hb d_Mod_firstFrame_161 (by decide) ?_
                              refine va_iast hx hb hK hP hD hS 12 0 rfl rfl (vp_in_nI (by omega) (by decide)) d_Mod_firstFrame_162 (fun H locs hP hD hS => ?_)
                              have hP : va_P g.1 classes [(h0, .inr (10, mob q rf n mm mb fa fp av ev wi mn tp tc sc nf fd me mp xn mt wh tq u2.1 u2.2.1 ig)), ((q 2), aI g 600 bs), ((q 16), aI g 620 on), ((q 17), aI g 620 tw), ((q 27), aI g 160 fl), ((q 28), aI g 160 pl), ((q 30), aI g 160 ty), ((q 33), aI g 160 lo), ((q 34), aI g 160 bg), ((q 41), aI g 600 dp), ((q 42), aZ g 600 iw), ((q 43), aI g 76800 kd), ((q 47), aI g 128 (upd (upd nw8 nx 0) (nI (nx + 1)).toNatClampNeg 3)), ((q 50), aI g 600 u2.2.2)] H := hP
                              have hD : va_D A [(h0, .inr (10, mob q rf n mm mb fa fp av ev wi mn tp tc sc nf fd me mp xn mt wh tq u2.1 u2.2.1 ig)), ((q 2), aI g 600 bs), ((q 16), aI g 620 on), ((q 17), aI g 620 tw), ((q 27), aI g 160 fl), ((q 28), aI g 160 pl), ((q 30), aI g 160 ty), ((q 33), aI g 160 lo), ((q 34), aI g 160 bg), ((q 41), aI g 600 dp), ((q 42), aZ g 600 iw), ((q 43), aI g 76800 kd), ((q 47), aI g 128 (upd (upd nw8 nx 0) (nI (nx + 1)).toNatClampNeg 3)), ((q 50), aI g 600 u2.2.2)] := hD
                              have e9 : upd (upd nw8 nx 0) (nI (nx + 1)).toNatClampNeg 3 = upd (upd nw8 nx 0) (nx + 1) 3 := by rw [nI_clamp (by omega)]
                              rw [e9] at hP hD
                              refine lv_iload_n hx hb d_Mod_firstFrame_163 rfl (lv_at hl 4 rfl) ?_
                              refine lv_iload hx hb d_Mod_firstFrame_164 (lv_at hl 1 rfl) ?_
                              refine lv_iadd hx hb d_Mod_firstFrame_166 ?_
                              refine tw_ri (e2 := nI (nx + 2)) (nI_add nx 2) ?_
                              refine lv_istore_n hx hb d_Mod_firstFrame_167 rfl hl (by decide) rfl (fun ls hl => ?_)
                              have hl : lv_has ls 7 [(2, .int (nI (nx + 2))), (3, .int 1), (6, .int 2), (5, .int (u2.2.2 (qq - 1))), (4, .int (nI qq - 1)), (0, .ref h0), (1, .int (nI mt))] := hl
                              refine lv_iinc (k := 4) (v := nI (qq + 1) - 1) hx hb d_Mod_firstFrame_168 hl rfl (ff_up qq) (by decide) rfl (fun ls hl => ?_)
                              have hl : lv_has ls 7 [(4, .int (nI (qq + 1) - 1)), (2, .int (nI (nx + 2))), (3, .int 1), (6, .int 2), (5, .int (u2.2.2 (qq - 1))), (0, .ref h0), (1, .int (nI mt))] := hl
                              refine lv_goto (tgt := 55) hx hb d_Mod_firstFrame_171 (by decide) ?_
                              have hP : va_P g.1 classes [(h0, .inr (10, mob q rf n mm mb fa fp av ev wi mn tp tc sc nf fd me mp xn mt wh tq u2.1 u2.2.1 ig)), ((q 2), aI g 600 bs), ((q 16), aI g 620 on), ((q 17), aI g 620 tw), ((q 27), aI g 160 fl), ((q 28), aI g 160 pl), ((q 30), aI g 160 ty), ((q 33), aI g 160 lo), ((q 34), aI g 160 bg), ((q 41), aI g 600 dp), ((q 42), aZ g 600 iw), ((q 43), aI g 76800 kd), ((q 47), aI g 128 (upd (upd nw8 nx 0) (nx + 1) 3)), ((q 50), aI g 600 u2.2.2)] H := hP.sub [0, 1, 2, 3, 4, 5, 6, 7, 8, 9, 10, 11, 12, 13] rfl
                              have hD : va_D A [(h0, .inr (10, mob q rf n mm mb fa fp av ev wi mn tp tc sc nf fd me mp xn mt wh tq u2.1 u2.2.1 ig)), ((q 2), aI g 600 bs), ((q 16), aI g 620 on), ((q 17), aI g 620 tw), ((q 27), aI g 160 fl), ((q 28), aI g 160 pl), ((q 30), aI g 160 ty), ((q 33), aI g 160 lo), ((q 34), aI g 160 bg), ((q 41), aI g 600 dp), ((q 42), aZ g 600 iw), ((q 43), aI g 76800 kd), ((q 47), aI g 128 (upd (upd nw8 nx 0) (nx + 1) 3)), ((q 50), aI g 600 u2.2.2)] := hD.sub [0, 1, 2, 3, 4, 5, 6, 7, 8, 9, 10, 11, 12, 13] (by decide) rfl
                              exact ih55 _ (by omega) (nx + 2) 1 (qq + 1) (upd (upd nw8 nx 0) (nx + 1) 3) ls _ _ rfl (by omega) (by omega) ((hNW8.put (by decide)).put2 (by omega) (by omega)) (lv_sub hl [0, 2, 1, 5, 6] rfl) hP hD hS
                  · refine lv_iload hx hb d_Mod_firstFrame_88 (lv_at hl 0 rfl) ?_
                    refine lv_bipush (v := 9) hx hb d_Mod_firstFrame_90 (by decide) ?_
                    refine lv_icmp_le (tgt := 99) hx hb d_Mod_firstFrame_92 (by decide) (fun h92 => ?_) (fun h92 => ?_)
                    · refine lv_iconst (v := 1) hx hb d_Mod_firstFrame_99 (by decide) ?_
                      refine lv_istore hx hb d_Mod_firstFrame_100 hl (by decide) rfl (fun ls hl => ?_)
                      have hl : lv_has ls 7 [(6, .int 1), (5, .int (u2.2.2 (qq - 1))), (4, .int (nI qq - 1)), (3, .int ft), (2, .int (nI nx)), (0, .ref h0), (1, .int (nI mt))] := hl
                      refine lv_iload_n hx hb d_Mod_firstFrame_102 rfl (lv_at hl 3 rfl) ?_
                      refine lv_if_eq (tgt := 123) hx hb d_Mod_firstFrame_103 (by decide) (fun h103 => ?_) (fun h103 => ?_)
                      · refine lv_iconst (v := 0) hx hb d_Mod_firstFrame_123 (by decide) ?_
                        refine lv_istore_n hx hb d_Mod_firstFrame_124 rfl hl (by decide) rfl (fun ls hl => ?_)
                        have hl : lv_has ls 7 [(3, .int 0), (6, .int 1), (5, .int (u2.2.2 (qq - 1))), (4, .int (nI qq - 1)), (2, .int (nI nx)), (0, .ref h0), (1, .int (nI mt))] := hl
                        refine lv_iload_n hx hb d_Mod_firstFrame_125 rfl (lv_at hl 0 rfl) ?_
                        refine lv_if_eq (tgt := 163) hx hb d_Mod_firstFrame_126 (by decide) (fun h126 => ?_) (fun h126 => ?_)
                        · refine lv_iload_n hx hb d_Mod_firstFrame_163 rfl (lv_at hl 4 rfl) ?_
                          refine lv_iload hx hb d_Mod_firstFrame_164 (lv_at hl 1 rfl) ?_
                          refine lv_iadd hx hb d_Mod_firstFrame_166 ?_
                          refine tw_ri (e2 := nI (nx + 1)) (nI_add nx 1) ?_
                          refine lv_istore_n hx hb d_Mod_firstFrame_167 rfl hl (by decide) rfl (fun ls hl => ?_)
                          have hl : lv_has ls 7 [(2, .int (nI (nx + 1))), (3, .int 0), (6, .int 1), (5, .int (u2.2.2 (qq - 1))), (4, .int (nI qq - 1)), (0, .ref h0), (1, .int (nI mt))] := hl
                          refine lv_iinc (k := 4) (v := nI (qq + 1) - 1) hx hb d_Mod_firstFrame_168 hl rfl (ff_up qq) (by decide) rfl (fun ls hl => ?_)
                          have hl : lv_has ls 7 [(4, .int (nI (qq + 1) - 1)), (2, .int (nI (nx + 1))), (3, .int 0), (6, .int 1), (5, .int (u2.2.2 (qq - 1))), (0, .ref h0), (1, .int (nI mt))] := hl
                          refine lv_goto (tgt := 55) hx hb d_Mod_firstFrame_171 (by decide) ?_
                          have hP : va_P g.1 classes [(h0, .inr (10, mob q rf n mm mb fa fp av ev wi mn tp tc sc nf fd me mp xn mt wh tq u2.1 u2.2.1 ig)), ((q 2), aI g 600 bs), ((q 16), aI g 620 on), ((q 17), aI g 620 tw), ((q 27), aI g 160 fl), ((q 28), aI g 160 pl), ((q 30), aI g 160 ty), ((q 33), aI g 160 lo), ((q 34), aI g 160 bg), ((q 41), aI g 600 dp), ((q 42), aZ g 600 iw), ((q 43), aI g 76800 kd), ((q 47), aI g 128 nw8), ((q 50), aI g 600 u2.2.2)] H := hP.sub [0, 1, 2, 3, 4, 5, 6, 7, 8, 9, 10, 11, 12, 13] rfl
                          have hD : va_D A [(h0, .inr (10, mob q rf n mm mb fa fp av ev wi mn tp tc sc nf fd me mp xn mt wh tq u2.1 u2.2.1 ig)), ((q 2), aI g 600 bs), ((q 16), aI g 620 on), ((q 17), aI g 620 tw), ((q 27), aI g 160 fl), ((q 28), aI g 160 pl), ((q 30), aI g 160 ty), ((q 33), aI g 160 lo), ((q 34), aI g 160 bg), ((q 41), aI g 600 dp), ((q 42), aZ g 600 iw), ((q 43), aI g 76800 kd), ((q 47), aI g 128 nw8), ((q 50), aI g 600 u2.2.2)] := hD.sub [0, 1, 2, 3, 4, 5, 6, 7, 8, 9, 10, 11, 12, 13] (by decide) rfl
                          exact ih55 _ (by omega) (nx + 1) 0 (qq + 1) nw8 ls _ _ rfl (by omega) (by omega) hNW8 (lv_sub hl [0, 2, 1, 5, 6] rfl) hP hD hS
                        · first | exact absurd h126 (by decide) | exact absurd (by decide) h126
                      · refine lv_iload_n hx hb d_Mod_firstFrame_106 rfl (lv_at hl 4 rfl) ?_
                        refine lv_iload hx hb d_Mod_firstFrame_107 (lv_at hl 0 rfl) ?_
                        refine lv_iadd hx hb d_Mod_firstFrame_109 ?_
                        refine tw_ri (e2 := nI (nx + 1)) (nI_add nx 1) ?_
                        refine lv_aload_n hx hb d_Mod_firstFrame_110 rfl (lv_at hl 5 rfl) ?_
                        refine va_get (D := g.1) (ci := 10) (v := .ref (q 33)) (C := R_Mod) (T := F_Mod) (N := 61) hx hb hts in_Mod hown hK hP 0 rfl rfl 33 (by decide) (hts _ wd_1283) (fun _ h9 => h9) rfl d_Mod_firstFrame_111 ?_
                        refine lv_iload_n hx hb d_Mod_firstFrame_114 rfl (lv_at hl 6 rfl) ?_
                        refine va_iald hx hb hK hP 7 0 rfl rfl (vp_in_nI (by omega) (by decide)) d_Mod_firstFrame_115 ?_
                        refine tw_ri (e2 := nI o1) (by rw [nI_clamp (by omega)]; exact hlo) ?_
                        refine lv_icmp_gt (tgt := 123) hx hb d_Mod_firstFrame_116 (by decide) (fun h116 => ?_) (fun h116 => ?_)
                        · refine lv_iconst (v := 0) hx hb d_Mod_firstFrame_123 (by decide) ?_
                          refine lv_istore_n hx hb d_Mod_firstFrame_124 rfl hl (by decide) rfl (fun ls hl => ?_)
                          have hl : lv_has ls 7 [(3, .int 0), (6, .int 1), (5, .int (u2.2.2 (qq - 1))), (4, .int (nI qq - 1)), (2, .int (nI nx)), (0, .ref h0), (1, .int (nI mt))] := hl
                          refine lv_iload_n hx hb d_Mod_firstFrame_125 rfl (lv_at hl 0 rfl) ?_
                          refine lv_if_eq (tgt := 163) hx hb d_Mod_firstFrame_126 (by decide) (fun h126 => ?_) (fun h126 => ?_)
                          · refine lv_iload_n hx hb d_Mod_firstFrame_163 rfl (lv_at hl 4 rfl) ?_
                            refine lv_iload hx hb d_Mod_firstFrame_164 (lv_at hl 1 rfl) ?_
                            refine lv_iadd hx hb d_Mod_firstFrame_166 ?_
                            refine tw_ri (e2 := nI (nx + 1)) (nI_add nx 1) ?_
                            refine lv_istore_n hx hb d_Mod_firstFrame_167 rfl hl (by decide) rfl (fun ls hl => ?_)
                            have hl : lv_has ls 7 [(2, .int (nI (nx + 1))), (3, .int 0), (6, .int 1), (5, .int (u2.2.2 (qq - 1))), (4, .int (nI qq - 1)), (0, .ref h0), (1, .int (nI mt))] := hl
                            refine lv_iinc (k := 4) (v := nI (qq + 1) - 1) hx hb d_Mod_firstFrame_168 hl rfl (ff_up qq) (by decide) rfl (fun ls hl => ?_)
                            have hl : lv_has ls 7 [(4, .int (nI (qq + 1) - 1)), (2, .int (nI (nx + 1))), (3, .int 0), (6, .int 1), (5, .int (u2.2.2 (qq - 1))), (0, .ref h0), (1, .int (nI mt))] := hl
                            refine lv_goto (tgt := 55) hx hb d_Mod_firstFrame_171 (by decide) ?_
                            have hP : va_P g.1 classes [(h0, .inr (10, mob q rf n mm mb fa fp av ev wi mn tp tc sc nf fd me mp xn mt wh tq u2.1 u2.2.1 ig)), ((q 2), aI g 600 bs), ((q 16), aI g 620 on), ((q 17), aI g 620 tw), ((q 27), aI g 160 fl), ((q 28), aI g 160 pl), ((q 30), aI g 160 ty), ((q 33), aI g 160 lo), ((q 34), aI g 160 bg), ((q 41), aI g 600 dp), ((q 42), aZ g 600 iw), ((q 43), aI g 76800 kd), ((q 47), aI g 128 nw8), ((q 50), aI g 600 u2.2.2)] H := hP.sub [0, 1, 2, 3, 4, 5, 6, 7, 8, 9, 10, 11, 12, 13] rfl
                            have hD : va_D A [(h0, .inr (10, mob q rf n mm mb fa fp av ev wi mn tp tc sc nf fd me mp xn mt wh tq u2.1 u2.2.1 ig)), ((q 2), aI g 600 bs), ((q 16), aI g 620 on), ((q 17), aI g 620 tw), ((q 27), aI g 160 fl), ((q 28), aI g 160 pl), ((q 30), aI g 160 ty), ((q 33), aI g 160 lo), ((q 34), aI g 160 bg), ((q 41), aI g 600 dp), ((q 42), aZ g 600 iw), ((q 43), aI g 76800 kd), ((q 47), aI g 128 nw8), ((q 50), aI g 600 u2.2.2)] := hD.sub [0, 1, 2, 3, 4, 5, 6, 7, 8, 9, 10, 11, 12, 13] (by decide) rfl
                            exact ih55 _ (by omega) (nx + 1) 0 (qq + 1) nw8 ls _ _ rfl (by omega) (by omega) hNW8 (lv_sub hl [0, 2, 1, 5, 6] rfl) hP hD hS
                          · first | exact absurd h126 (by decide) | exact absurd (by decide) h126
                        · have h116 := tn_nlt h116 (by omega) (by omega)
                          refine lv_iconst (v := 1) hx hb d_Mod_firstFrame_119 (by decide) ?_
                          refine lv_goto (tgt := 124) hx hb d_Mod_firstFrame_120 (by decide) ?_
                          refine lv_istore_n hx hb d_Mod_firstFrame_124 rfl hl (by decide) rfl (fun ls hl => ?_)
                          have hl : lv_has ls 7 [(3, .int 1), (6, .int 1), (5, .int (u2.2.2 (qq - 1))), (4, .int (nI qq - 1)), (2, .int (nI nx)), (0, .ref h0), (1, .int (nI mt))] := hl
                          refine lv_iload_n hx hb d_Mod_firstFrame_125 rfl (lv_at hl 0 rfl) ?_
                          refine lv_if_eq (tgt := 163) hx hb d_Mod_firstFrame_126 (by decide) (fun h126 => ?_) (fun h126 => ?_)
                          · first | exact absurd h126 (by decide) | exact absurd (by decide) h126
                          · refine lv_aload_n hx hb d_Mod_firstFrame_129 rfl (lv_at hl 5 rfl) ?_
                            refine va_get (D := g.1) (ci := 10) (v := .ref (q 47)) (C := R_Mod) (T := F_Mod) (N := 61) hx hb hts in_Mod hown hK hP 0 rfl rfl 47 (by decide) (hts _ wd_1297) (fun _ h9 => h9) rfl d_Mod_firstFrame_130 ?_
                            refine lv_iload_n hx hb d_Mod_firstFrame_133 rfl (lv_at hl 4 rfl) ?_
                            refine lv_iload hx hb d_Mod_firstFrame_134 (lv_at hl 2 rfl) ?_
                            refine lv_bipush (v := 9) hx hb d_Mod_firstFrame_136 (by decide) ?_
                            refine lv_icmp_lt (tgt := 145) hx hb d_Mod_firstFrame_138 (by decide) (fun h138 => ?_) (fun h138 => ?_)
                            · refine lv_iload hx hb d_Mod_firstFrame_145 (lv_at hl 2 rfl) ?_
                              refine va_iast hx hb hK hP hD hS 12 0 rfl rfl (vp_in_nI (by omega) (by decide)) d_Mod_firstFrame_147 (fun H locs hP hD hS => ?_)
                              have hP : va_P g.1 classes [(h0, .inr (10, mob q rf n mm mb fa fp av ev wi mn tp tc sc nf fd me mp xn mt wh tq u2.1 u2.2.1 ig)), ((q 2), aI g 600 bs), ((q 16), aI g 620 on), ((q 17), aI g 620 tw), ((q 27), aI g 160 fl), ((q 28), aI g 160 pl), ((q 30), aI g 160 ty), ((q 33), aI g 160 lo), ((q 34), aI g 160 bg), ((q 41), aI g 600 dp), ((q 42), aZ g 600 iw), ((q 43), aI g 76800 kd), ((q 47), aI g 128 (upd nw8 (nI nx).toNatClampNeg (u2.2.2 (qq - 1)))), ((q 50), aI g 600 u2.2.2)] H := hP
                              have hD : va_D A [(h0, .inr (10, mob q rf n mm mb fa fp av ev wi mn tp tc sc nf fd me mp xn mt wh tq u2.1 u2.2.1 ig)), ((q 2), aI g 600 bs), ((q 16), aI g 620 on), ((q 17), aI g 620 tw), ((q 27), aI g 160 fl), ((q 28), aI g 160 pl), ((q 30), aI g 160 ty), ((q 33), aI g 160 lo), ((q 34), aI g 160 bg), ((q 41), aI g 600 dp), ((q 42), aZ g 600 iw), ((q 43), aI g 76800 kd), ((q 47), aI g 128 (upd nw8 (nI nx).toNatClampNeg (u2.2.2 (qq - 1)))), ((q 50), aI g 600 u2.2.2)] := hD
                              have e9 : upd nw8 (nI nx).toNatClampNeg (u2.2.2 (qq - 1)) = upd nw8 nx (u2.2.2 (qq - 1)) := by rw [nI_clamp (by omega)]
                              rw [e9] at hP hD
                              refine lv_iload hx hb d_Mod_firstFrame_148 (lv_at hl 2 rfl) ?_
                              refine lv_iconst (v := 2) hx hb d_Mod_firstFrame_150 (by decide) ?_
                              refine lv_icmp_ne (tgt := 163) hx hb d_Mod_firstFrame_151 (by decide) (fun h151 => ?_) (fun h151 => ?_)
                              · refine lv_iload_n hx hb d_Mod_firstFrame_163 rfl (lv_at hl 4 rfl) ?_
                                refine lv_iload hx hb d_Mod_firstFrame_164 (lv_at hl 1 rfl) ?_
                                refine lv_iadd hx hb d_Mod_firstFrame_166 ?_
                                refine tw_ri (e2 := nI (nx + 1)) (nI_add nx 1) ?_
                                refine lv_istore_n hx hb d_Mod_firstFrame_167 rfl hl (by decide) rfl (fun ls hl => ?_)
                                have hl : lv_has ls 7 [(2, .int (nI (nx + 1))), (3, .int 1), (6, .int 1), (5, .int (u2.2.2 (qq - 1))), (4, .int (nI qq - 1)), (0, .ref h0), (1, .int (nI mt))] := hl
                                refine lv_iinc (k := 4) (v := nI (qq + 1) - 1) hx hb d_Mod_firstFrame_168 hl rfl (ff_up qq) (by decide) rfl (fun ls hl => ?_)
                                have hl : lv_has ls 7 [(4, .int (nI (qq + 1) - 1)), (2, .int (nI (nx + 1))), (3, .int 1), (6, .int 1), (5, .int (u2.2.2 (qq - 1))), (0, .ref h0), (1, .int (nI mt))] := hl
                                refine lv_goto (tgt := 55) hx hb d_Mod_firstFrame_171 (by decide) ?_
                                have hP : va_P g.1 classes [(h0, .inr (10, mob q rf n mm mb fa fp av ev wi mn tp tc sc nf fd me mp xn mt wh tq u2.1 u2.2.1 ig)), ((q 2), aI g 600 bs), ((q 16), aI g 620 on), ((q 17), aI g 620 tw), ((q 27), aI g 160 fl), ((q 28), aI g 160 pl), ((q 30), aI g 160 ty), ((q 33), aI g 160 lo), ((q 34), aI g 160 bg), ((q 41), aI g 600 dp), ((q 42), aZ g 600 iw), ((q 43), aI g 76800 kd), ((q 47), aI g 128 (upd nw8 nx (u2.2.2 (qq - 1)))), ((q 50), aI g 600 u2.2.2)] H := hP.sub [0, 1, 2, 3, 4, 5, 6, 7, 8, 9, 10, 11, 12, 13] rfl
                                have hD : va_D A [(h0, .inr (10, mob q rf n mm mb fa fp av ev wi mn tp tc sc nf fd me mp xn mt wh tq u2.1 u2.2.1 ig)), ((q 2), aI g 600 bs), ((q 16), aI g 620 on), ((q 17), aI g 620 tw), ((q 27), aI g 160 fl), ((q 28), aI g 160 pl), ((q 30), aI g 160 ty), ((q 33), aI g 160 lo), ((q 34), aI g 160 bg), ((q 41), aI g 600 dp), ((q 42), aZ g 600 iw), ((q 43), aI g 76800 kd), ((q 47), aI g 128 (upd nw8 nx (u2.2.2 (qq - 1)))), ((q 50), aI g 600 u2.2.2)] := hD.sub [0, 1, 2, 3, 4, 5, 6, 7, 8, 9, 10, 11, 12, 13] (by decide) rfl
                                exact ih55 _ (by omega) (nx + 1) 1 (qq + 1) (upd nw8 nx (u2.2.2 (qq - 1))) ls _ _ rfl (by omega) (by omega) (hNW8.put (kn3 hkk)) (lv_sub hl [0, 2, 1, 5, 6] rfl) hP hD hS
                              · exact absurd h151 h85
                            · refine lv_iconst (v := 0) hx hb d_Mod_firstFrame_141 (by decide) ?_
                              refine lv_goto (tgt := 147) hx hb d_Mod_firstFrame_142 (by decide) ?_
                              refine va_iast hx hb hK hP hD hS 12 0 rfl rfl (vp_in_nI (by omega) (by decide)) d_Mod_firstFrame_147 (fun H locs hP hD hS => ?_)
                              have hP : va_P g.1 classes [(h0, .inr (10, mob q rf n mm mb fa fp av ev wi mn tp tc sc nf fd me mp xn mt wh tq u2.1 u2.2.1 ig)), ((q 2), aI g 600 bs), ((q 16), aI g 620 on), ((q 17), aI g 620 tw), ((q 27), aI g 160 fl), ((q 28), aI g 160 pl), ((q 30), aI g 160 ty), ((q 33), aI g 160 lo), ((q 34), aI g 160 bg), ((q 41), aI g 600 dp), ((q 42), aZ g 600 iw), ((q 43), aI g 76800 kd), ((q 47), aI g 128 (upd nw8 (nI nx).toNatClampNeg 0)), ((q 50), aI g 600 u2.2.2)] H := hP
                              have hD : va_D A [(h0, .inr (10, mob q rf n mm mb fa fp av ev wi mn tp tc sc nf fd me mp xn mt wh tq u2.1 u2.2.1 ig)), ((q 2), aI g 600 bs), ((q 16), aI g 620 on), ((q 17), aI g 620 tw), ((q 27), aI g 160 fl), ((q 28), aI g 160 pl), ((q 30), aI g 160 ty), ((q 33), aI g 160 lo), ((q 34), aI g 160 bg), ((q 41), aI g 600 dp), ((q 42), aZ g 600 iw), ((q 43), aI g 76800 kd), ((q 47), aI g 128 (upd nw8 (nI nx).toNatClampNeg 0)), ((q 50), aI g 600 u2.2.2)] := hD
                              have e9 : upd nw8 (nI nx).toNatClampNeg 0 = upd nw8 nx 0 := by rw [nI_clamp (by omega)]
                              rw [e9] at hP hD
                              refine lv_iload hx hb d_Mod_firstFrame_148 (lv_at hl 2 rfl) ?_
                              refine lv_iconst (v := 2) hx hb d_Mod_firstFrame_150 (by decide) ?_
                              refine lv_icmp_ne (tgt := 163) hx hb d_Mod_firstFrame_151 (by decide) (fun h151 => ?_) (fun h151 => ?_)
                              · refine lv_iload_n hx hb d_Mod_firstFrame_163 rfl (lv_at hl 4 rfl) ?_
                                refine lv_iload hx hb d_Mod_firstFrame_164 (lv_at hl 1 rfl) ?_
                                refine lv_iadd hx hb d_Mod_firstFrame_166 ?_
                                refine tw_ri (e2 := nI (nx + 1)) (nI_add nx 1) ?_
                                refine lv_istore_n hx hb d_Mod_firstFrame_167 rfl hl (by decide) rfl (fun ls hl => ?_)
                                have hl : lv_has ls 7 [(2, .int (nI (nx + 1))), (3, .int 1), (6, .int 1), (5, .int (u2.2.2 (qq - 1))), (4, .int (nI qq - 1)), (0, .ref h0), (1, .int (nI mt))] := hl
                                refine lv_iinc (k := 4) (v := nI (qq + 1) - 1) hx hb d_Mod_firstFrame_168 hl rfl (ff_up qq) (by decide) rfl (fun ls hl => ?_)
                                have hl : lv_has ls 7 [(4, .int (nI (qq + 1) - 1)), (2, .int (nI (nx + 1))), (3, .int 1), (6, .int 1), (5, .int (u2.2.2 (qq - 1))), (0, .ref h0), (1, .int (nI mt))] := hl
                                refine lv_goto (tgt := 55) hx hb d_Mod_firstFrame_171 (by decide) ?_
                                have hP : va_P g.1 classes [(h0, .inr (10, mob q rf n mm mb fa fp av ev wi mn tp tc sc nf fd me mp xn mt wh tq u2.1 u2.2.1 ig)), ((q 2), aI g 600 bs), ((q 16), aI g 620 on), ((q 17), aI g 620 tw), ((q 27), aI g 160 fl), ((q 28), aI g 160 pl), ((q 30), aI g 160 ty), ((q 33), aI g 160 lo), ((q 34), aI g 160 bg), ((q 41), aI g 600 dp), ((q 42), aZ g 600 iw), ((q 43), aI g 76800 kd), ((q 47), aI g 128 (upd nw8 nx 0)), ((q 50), aI g 600 u2.2.2)] H := hP.sub [0, 1, 2, 3, 4, 5, 6, 7, 8, 9, 10, 11, 12, 13] rfl
                                have hD : va_D A [(h0, .inr (10, mob q rf n mm mb fa fp av ev wi mn tp tc sc nf fd me mp xn mt wh tq u2.1 u2.2.1 ig)), ((q 2), aI g 600 bs), ((q 16), aI g 620 on), ((q 17), aI g 620 tw), ((q 27), aI g 160 fl), ((q 28), aI g 160 pl), ((q 30), aI g 160 ty), ((q 33), aI g 160 lo), ((q 34), aI g 160 bg), ((q 41), aI g 600 dp), ((q 42), aZ g 600 iw), ((q 43), aI g 76800 kd), ((q 47), aI g 128 (upd nw8 nx 0)), ((q 50), aI g 600 u2.2.2)] := hD.sub [0, 1, 2, 3, 4, 5, 6, 7, 8, 9, 10, 11, 12, 13] (by decide) rfl
                                exact ih55 _ (by omega) (nx + 1) 1 (qq + 1) (upd nw8 nx 0) ls _ _ rfl (by omega) (by omega) (hNW8.put (by decide)) (lv_sub hl [0, 2, 1, 5, 6] rfl) hP hD hS
                              · exact absurd h151 h85
                    · refine lv_iconst (v := 2) hx hb d_Mod_firstFrame_95 (by decide) ?_
                      refine lv_goto (tgt := 100) hx hb d_Mod_firstFrame_96 (by decide) ?_
                      refine lv_istore hx hb d_Mod_firstFrame_100 hl (by decide) rfl (fun ls hl => ?_)
                      have hl : lv_has ls 7 [(6, .int 2), (5, .int (u2.2.2 (qq - 1))), (4, .int (nI qq - 1)), (3, .int ft), (2, .int (nI nx)), (0, .ref h0), (1, .int (nI mt))] := hl
                      refine lv_iload_n hx hb d_Mod_firstFrame_102 rfl (lv_at hl 3 rfl) ?_
                      refine lv_if_eq (tgt := 123) hx hb d_Mod_firstFrame_103 (by decide) (fun h103 => ?_) (fun h103 => ?_)
                      · refine lv_iconst (v := 0) hx hb d_Mod_firstFrame_123 (by decide) ?_
                        refine lv_istore_n hx hb d_Mod_firstFrame_124 rfl hl (by decide) rfl (fun ls hl => ?_)
                        have hl : lv_has ls 7 [(3, .int 0), (6, .int 2), (5, .int (u2.2.2 (qq - 1))), (4, .int (nI qq - 1)), (2, .int (nI nx)), (0, .ref h0), (1, .int (nI mt))] := hl
                        refine lv_iload_n hx hb d_Mod_firstFrame_125 rfl (lv_at hl 0 rfl) ?_
                        refine lv_if_eq (tgt := 163) hx hb d_Mod_firstFrame_126 (by decide) (fun h126 => ?_) (fun h126 => ?_)
                        · refine lv_iload_n hx hb d_Mod_firstFrame_163 rfl (lv_at hl 4 rfl) ?_
                          refine lv_iload hx hb d_Mod_firstFrame_164 (lv_at hl 1 rfl) ?_
                          refine lv_iadd hx hb d_Mod_firstFrame_166 ?_
                          refine tw_ri (e2 := nI (nx + 2)) (nI_add nx 2) ?_
                          refine lv_istore_n hx hb d_Mod_firstFrame_167 rfl hl (by decide) rfl (fun ls hl => ?_)
                          have hl : lv_has ls 7 [(2, .int (nI (nx + 2))), (3, .int 0), (6, .int 2), (5, .int (u2.2.2 (qq - 1))), (4, .int (nI qq - 1)), (0, .ref h0), (1, .int (nI mt))] := hl
                          refine lv_iinc (k := 4) (v := nI (qq + 1) - 1) hx hb d_Mod_firstFrame_168 hl rfl (ff_up qq) (by decide) rfl (fun ls hl => ?_)
                          have hl : lv_has ls 7 [(4, .int (nI (qq + 1) - 1)), (2, .int (nI (nx + 2))), (3, .int 0), (6, .int 2), (5, .int (u2.2.2 (qq - 1))), (0, .ref h0), (1, .int (nI mt))] := hl
                          refine lv_goto (tgt := 55) hx hb d_Mod_firstFrame_171 (by decide) ?_
                          have hP : va_P g.1 classes [(h0, .inr (10, mob q rf n mm mb fa fp av ev wi mn tp tc sc nf fd me mp xn mt wh tq u2.1 u2.2.1 ig)), ((q 2), aI g 600 bs), ((q 16), aI g 620 on), ((q 17), aI g 620 tw), ((q 27), aI g 160 fl), ((q 28), aI g 160 pl), ((q 30), aI g 160 ty), ((q 33), aI g 160 lo), ((q 34), aI g 160 bg), ((q 41), aI g 600 dp), ((q 42), aZ g 600 iw), ((q 43), aI g 76800 kd), ((q 47), aI g 128 nw8), ((q 50), aI g 600 u2.2.2)] H := hP.sub [0, 1, 2, 3, 4, 5, 6, 7, 8, 9, 10, 11, 12, 13] rfl
                          have hD : va_D A [(h0, .inr (10, mob q rf n mm mb fa fp av ev wi mn tp tc sc nf fd me mp xn mt wh tq u2.1 u2.2.1 ig)), ((q 2), aI g 600 bs), ((q 16), aI g 620 on), ((q 17), aI g 620 tw), ((q 27), aI g 160 fl), ((q 28), aI g 160 pl), ((q 30), aI g 160 ty), ((q 33), aI g 160 lo), ((q 34), aI g 160 bg), ((q 41), aI g 600 dp), ((q 42), aZ g 600 iw), ((q 43), aI g 76800 kd), ((q 47), aI g 128 nw8), ((q 50), aI g 600 u2.2.2)] := hD.sub [0, 1, 2, 3, 4, 5, 6, 7, 8, 9, 10, 11, 12, 13] (by decide) rfl
                          exact ih55 _ (by omega) (nx + 2) 0 (qq + 1) nw8 ls _ _ rfl (by omega) (by omega) hNW8 (lv_sub hl [0, 2, 1, 5, 6] rfl) hP hD hS
                        · first | exact absurd h126 (by decide) | exact absurd (by decide) h126
                      · refine lv_iload_n hx hb d_Mod_firstFrame_106 rfl (lv_at hl 4 rfl) ?_
                        refine lv_iload hx hb d_Mod_firstFrame_107 (lv_at hl 0 rfl) ?_
                        refine lv_iadd hx hb d_Mod_firstFrame_109 ?_
                        refine tw_ri (e2 := nI (nx + 2)) (nI_add nx 2) ?_
                        refine lv_aload_n hx hb d_Mod_firstFrame_110 rfl (lv_at hl 5 rfl) ?_
                        refine va_get (D := g.1) (ci := 10) (v := .ref (q 33)) (C := R_Mod) (T := F_Mod) (N := 61) hx hb hts in_Mod hown hK hP 0 rfl rfl 33 (by decide) (hts _ wd_1283) (fun _ h9 => h9) rfl d_Mod_firstFrame_111 ?_
                        refine lv_iload_n hx hb d_Mod_firstFrame_114 rfl (lv_at hl 6 rfl) ?_
                        refine va_iald hx hb hK hP 7 0 rfl rfl (vp_in_nI (by omega) (by decide)) d_Mod_firstFrame_115 ?_
                        refine tw_ri (e2 := nI o1) (by rw [nI_clamp (by omega)]; exact hlo) ?_
                        refine lv_icmp_gt (tgt := 123) hx hb d_Mod_firstFrame_116 (by decide) (fun h116 => ?_) (fun h116 => ?_)
                        · refine lv_iconst (v := 0) hx hb d_Mod_firstFrame_123 (by decide) ?_
                          refine lv_istore_n hx hb d_Mod_firstFrame_124 rfl hl (by decide) rfl (fun ls hl => ?_)
                          have hl : lv_has ls 7 [(3, .int 0), (6, .int 2), (5, .int (u2.2.2 (qq - 1))), (4, .int (nI qq - 1)), (2, .int (nI nx)), (0, .ref h0), (1, .int (nI mt))] := hl
                          refine lv_iload_n hx hb d_Mod_firstFrame_125 rfl (lv_at hl 0 rfl) ?_
                          refine lv_if_eq (tgt := 163) hx hb d_Mod_firstFrame_126 (by decide) (fun h126 => ?_) (fun h126 => ?_)
                          · refine lv_iload_n hx hb d_Mod_firstFrame_163 rfl (lv_at hl 4 rfl) ?_
                            refine lv_iload hx hb d_Mod_firstFrame_164 (lv_at hl 1 rfl) ?_
                            refine lv_iadd hx hb d_Mod_firstFrame_166 ?_
                            refine tw_ri (e2 := nI (nx + 2)) (nI_add nx 2) ?_
                            refine lv_istore_n hx hb d_Mod_firstFrame_167 rfl hl (by decide) rfl (fun ls hl => ?_)
                            have hl : lv_has ls 7 [(2, .int (nI (nx + 2))), (3, .int 0), (6, .int 2), (5, .int (u2.2.2 (qq - 1))), (4, .int (nI qq - 1)), (0, .ref h0), (1, .int (nI mt))] := hl
                            refine lv_iinc (k := 4) (v := nI (qq + 1) - 1) hx hb d_Mod_firstFrame_168 hl rfl (ff_up qq) (by decide) rfl (fun ls hl => ?_)
                            have hl : lv_has ls 7 [(4, .int (nI (qq + 1) - 1)), (2, .int (nI (nx + 2))), (3, .int 0), (6, .int 2), (5, .int (u2.2.2 (qq - 1))), (0, .ref h0), (1, .int (nI mt))] := hl
                            refine lv_goto (tgt := 55) hx hb d_Mod_firstFrame_171 (by decide) ?_
                            have hP : va_P g.1 classes [(h0, .inr (10, mob q rf n mm mb fa fp av ev wi mn tp tc sc nf fd me mp xn mt wh tq u2.1 u2.2.1 ig)), ((q 2), aI g 600 bs), ((q 16), aI g 620 on), ((q 17), aI g 620 tw), ((q 27), aI g 160 fl), ((q 28), aI g 160 pl), ((q 30), aI g 160 ty), ((q 33), aI g 160 lo), ((q 34), aI g 160 bg), ((q 41), aI g 600 dp), ((q 42), aZ g 600 iw), ((q 43), aI g 76800 kd), ((q 47), aI g 128 nw8), ((q 50), aI g 600 u2.2.2)] H := hP.sub [0, 1, 2, 3, 4, 5, 6, 7, 8, 9, 10, 11, 12, 13] rfl
                            have hD : va_D A [(h0, .inr (10, mob q rf n mm mb fa fp av ev wi mn tp tc sc nf fd me mp xn mt wh tq u2.1 u2.2.1 ig)), ((q 2), aI g 600 bs), ((q 16), aI g 620 on), ((q 17), aI g 620 tw), ((q 27), aI g 160 fl), ((q 28), aI g 160 pl), ((q 30), aI g 160 ty), ((q 33), aI g 160 lo), ((q 34), aI g 160 bg), ((q 41), aI g 600 dp), ((q 42), aZ g 600 iw), ((q 43), aI g 76800 kd), ((q 47), aI g 128 nw8), ((q 50), aI g 600 u2.2.2)] := hD.sub [0, 1, 2, 3, 4, 5, 6, 7, 8, 9, 10, 11, 12, 13] (by decide) rfl
                            exact ih55 _ (by omega) (nx + 2) 0 (qq + 1) nw8 ls _ _ rfl (by omega) (by omega) hNW8 (lv_sub hl [0, 2, 1, 5, 6] rfl) hP hD hS
                          · first | exact absurd h126 (by decide) | exact absurd (by decide) h126
                        · have h116 := tn_nlt h116 (by omega) (by omega)
                          refine lv_iconst (v := 1) hx hb d_Mod_firstFrame_119 (by decide) ?_
                          refine lv_goto (tgt := 124) hx hb d_Mod_firstFrame_120 (by decide) ?_
                          refine lv_istore_n hx hb d_Mod_firstFrame_124 rfl hl (by decide) rfl (fun ls hl => ?_)
                          have hl : lv_has ls 7 [(3, .int 1), (6, .int 2), (5, .int (u2.2.2 (qq - 1))), (4, .int (nI qq - 1)), (2, .int (nI nx)), (0, .ref h0), (1, .int (nI mt))] := hl
                          refine lv_iload_n hx hb d_Mod_firstFrame_125 rfl (lv_at hl 0 rfl) ?_
                          refine lv_if_eq (tgt := 163) hx hb d_Mod_firstFrame_126 (by decide) (fun h126 => ?_) (fun h126 => ?_)
                          · first | exact absurd h126 (by decide) | exact absurd (by decide) h126
                          · refine lv_aload_n hx hb d_Mod_firstFrame_129 rfl (lv_at hl 5 rfl) ?_
                            refine va_get (D := g.1) (ci := 10) (v := .ref (q 47)) (C := R_Mod) (T := F_Mod) (N := 61) hx hb hts in_Mod hown hK hP 0 rfl rfl 47 (by decide) (hts _ wd_1297) (fun _ h9 => h9) rfl d_Mod_firstFrame_130 ?_
                            refine lv_iload_n hx hb d_Mod_firstFrame_133 rfl (lv_at hl 4 rfl) ?_
                            refine lv_iload hx hb d_Mod_firstFrame_134 (lv_at hl 2 rfl) ?_
                            refine lv_bipush (v := 9) hx hb d_Mod_firstFrame_136 (by decide) ?_
                            refine lv_icmp_lt (tgt := 145) hx hb d_Mod_firstFrame_138 (by decide) (fun h138 => ?_) (fun h138 => ?_)
                            · refine lv_iload hx hb d_Mod_firstFrame_145 (lv_at hl 2 rfl) ?_
                              refine va_iast hx hb hK hP hD hS 12 0 rfl rfl (vp_in_nI (by omega) (by decide)) d_Mod_firstFrame_147 (fun H locs hP hD hS => ?_)
                              have hP : va_P g.1 classes [(h0, .inr (10, mob q rf n mm mb fa fp av ev wi mn tp tc sc nf fd me mp xn mt wh tq u2.1 u2.2.1 ig)), ((q 2), aI g 600 bs), ((q 16), aI g 620 on), ((q 17), aI g 620 tw), ((q 27), aI g 160 fl), ((q 28), aI g 160 pl), ((q 30), aI g 160 ty), ((q 33), aI g 160 lo), ((q 34), aI g 160 bg), ((q 41), aI g 600 dp), ((q 42), aZ g 600 iw), ((q 43), aI g 76800 kd), ((q 47), aI g 128 (upd nw8 (nI nx).toNatClampNeg (u2.2.2 (qq - 1)))), ((q 50), aI g 600 u2.2.2)] H := hP
                              have hD : va_D A [(h0, .inr (10, mob q rf n mm mb fa fp av ev wi mn tp tc sc nf fd me mp xn mt wh tq u2.1 u2.2.1 ig)), ((q 2), aI g 600 bs), ((q 16), aI g 620 on), ((q 17), aI g 620 tw), ((q 27), aI g 160 fl), ((q 28), aI g 160 pl), ((q 30), aI g 160 ty), ((q 33), aI g 160 lo), ((q 34), aI g 160 bg), ((q 41), aI g 600 dp), ((q 42), aZ g 600 iw), ((q 43), aI g 76800 kd), ((q 47), aI g 128 (upd nw8 (nI nx).toNatClampNeg (u2.2.2 (qq - 1)))), ((q 50), aI g 600 u2.2.2)] := hD
                              have e9 : upd nw8 (nI nx).toNatClampNeg (u2.2.2 (qq - 1)) = upd nw8 nx (u2.2.2 (qq - 1)) := by rw [nI_clamp (by omega)]
                              rw [e9] at hP hD
                              refine lv_iload hx hb d_Mod_firstFrame_148 (lv_at hl 2 rfl) ?_
                              refine lv_iconst (v := 2) hx hb d_Mod_firstFrame_150 (by decide) ?_
                              refine lv_icmp_ne (tgt := 163) hx hb d_Mod_firstFrame_151 (by decide) (fun h151 => ?_) (fun h151 => ?_)
                              · refine lv_iload_n hx hb d_Mod_firstFrame_163 rfl (lv_at hl 4 rfl) ?_
                                refine lv_iload hx hb d_Mod_firstFrame_164 (lv_at hl 1 rfl) ?_
                                refine lv_iadd hx hb d_Mod_firstFrame_166 ?_
                                refine tw_ri (e2 := nI (nx + 2)) (nI_add nx 2) ?_
                                refine lv_istore_n hx hb d_Mod_firstFrame_167 rfl hl (by decide) rfl (fun ls hl => ?_)
                                have hl : lv_has ls 7 [(2, .int (nI (nx + 2))), (3, .int 1), (6, .int 2), (5, .int (u2.2.2 (qq - 1))), (4, .int (nI qq - 1)), (0, .ref h0), (1, .int (nI mt))] := hl
                                refine lv_iinc (k := 4) (v := nI (qq + 1) - 1) hx hb d_Mod_firstFrame_168 hl rfl (ff_up qq) (by decide) rfl (fun ls hl => ?_)
                                have hl : lv_has ls 7 [(4, .int (nI (qq + 1) - 1)), (2, .int (nI (nx + 2))), (3, .int 1), (6, .int 2), (5, .int (u2.2.2 (qq - 1))), (0, .ref h0), (1, .int (nI mt))] := hl
                                refine lv_goto (tgt := 55) hx hb d_Mod_firstFrame_171 (by decide) ?_
                                have hP : va_P g.1 classes [(h0, .inr (10, mob q rf n mm mb fa fp av ev wi mn tp tc sc nf fd me mp xn mt wh tq u2.1 u2.2.1 ig)), ((q 2), aI g 600 bs), ((q 16), aI g 620 on), ((q 17), aI g 620 tw), ((q 27), aI g 160 fl), ((q 28), aI g 160 pl), ((q 30), aI g 160 ty), ((q 33), aI g 160 lo), ((q 34), aI g 160 bg), ((q 41), aI g 600 dp), ((q 42), aZ g 600 iw), ((q 43), aI g 76800 kd), ((q 47), aI g 128 (upd nw8 nx (u2.2.2 (qq - 1)))), ((q 50), aI g 600 u2.2.2)] H := hP.sub [0, 1, 2, 3, 4, 5, 6, 7, 8, 9, 10, 11, 12, 13] rfl
                                have hD : va_D A [(h0, .inr (10, mob q rf n mm mb fa fp av ev wi mn tp tc sc nf fd me mp xn mt wh tq u2.1 u2.2.1 ig)), ((q 2), aI g 600 bs), ((q 16), aI g 620 on), ((q 17), aI g 620 tw), ((q 27), aI g 160 fl), ((q 28), aI g 160 pl), ((q 30), aI g 160 ty), ((q 33), aI g 160 lo), ((q 34), aI g 160 bg), ((q 41), aI g 600 dp), ((q 42), aZ g 600 iw), ((q 43), aI g 76800 kd), ((q 47), aI g 128 (upd nw8 nx (u2.2.2 (qq - 1)))), ((q 50), aI g 600 u2.2.2)] := hD.sub [0, 1, 2, 3, 4, 5, 6, 7, 8, 9, 10, 11, 12, 13] (by decide) rfl
                                exact ih55 _ (by omega) (nx + 2) 1 (qq + 1) (upd nw8 nx (u2.2.2 (qq - 1))) ls _ _ rfl (by omega) (by omega) (hNW8.put (kn3 hkk)) (lv_sub hl [0, 2, 1, 5, 6] rfl) hP hD hS
                              · exact absurd h151 h85
                            · refine lv_iconst (v := 0) hx hb d_Mod_firstFrame_141 (by decide) ?_
                              refine lv_goto (tgt := 147) hx hb d_Mod_firstFrame_142 (by decide) ?_
                              refine va_iast hx hb hK hP hD hS 12 0 rfl rfl (vp_in_nI (by omega) (by decide)) d_Mod_firstFrame_147 (fun H locs hP hD hS => ?_)
                              have hP : va_P g.1 classes [(h0, .inr (10, mob q rf n mm mb fa fp av ev wi mn tp tc sc nf fd me mp xn mt wh tq u2.1 u2.2.1 ig)), ((q 2), aI g 600 bs), ((q 16), aI g 620 on), ((q 17), aI g 620 tw), ((q 27), aI g 160 fl), ((q 28), aI g 160 pl), ((q 30), aI g 160 ty), ((q 33), aI g 160 lo), ((q 34), aI g 160 bg), ((q 41), aI g 600 dp), ((q 42), aZ g 600 iw), ((q 43), aI g 76800 kd), ((q 47), aI g 128 (upd nw8 (nI nx).toNatClampNeg 0)), ((q 50), aI g 600 u2.2.2)] H := hP
                              have hD : va_D A [(h0, .inr (10, mob q rf n mm mb fa fp av ev wi mn tp tc sc nf fd me mp xn mt wh tq u2.1 u2.2.1 ig)), ((q 2), aI g 600 bs), ((q 16), aI g 620 on), ((q 17), aI g 620 tw), ((q 27), aI g 160 fl), ((q 28), aI g 160 pl), ((q 30), aI g 160 ty), ((q 33), aI g 160 lo), ((q 34), aI g 160 bg), ((q 41), aI g 600 dp), ((q 42), aZ g 600 iw), ((q 43), aI g 76800 kd), ((q 47), aI g 128 (upd nw8 (nI nx).toNatClampNeg 0)), ((q 50), aI g 600 u2.2.2)] := hD
                              have e9 : upd nw8 (nI nx).toNatClampNeg 0 = upd nw8 nx 0 := by rw [nI_clamp (by omega)]
                              rw [e9] at hP hD
                              refine lv_iload hx hb d_Mod_firstFrame_148 (lv_at hl 2 rfl) ?_
                              refine lv_iconst (v := 2) hx hb d_Mod_firstFrame_150 (by decide) ?_
                              refine lv_icmp_ne (tgt := 163) hx hb d_Mod_firstFrame_151 (by decide) (fun h151 => ?_) (fun h151 => ?_)
                              · refine lv_iload_n hx hb d_Mod_firstFrame_163 rfl (lv_at hl 4 rfl) ?_
                                refine lv_iload hx hb d_Mod_firstFrame_164 (lv_at hl 1 rfl) ?_
                                refine lv_iadd hx hb d_Mod_firstFrame_166 ?_
                                refine tw_ri (e2 := nI (nx + 2)) (nI_add nx 2) ?_
                                refine lv_istore_n hx hb d_Mod_firstFrame_167 rfl hl (by decide) rfl (fun ls hl => ?_)
                                have hl : lv_has ls 7 [(2, .int (nI (nx + 2))), (3, .int 1), (6, .int 2), (5, .int (u2.2.2 (qq - 1))), (4, .int (nI qq - 1)), (0, .ref h0), (1, .int (nI mt))] := hl
                                refine lv_iinc (k := 4) (v := nI (qq + 1) - 1) hx hb d_Mod_firstFrame_168 hl rfl (ff_up qq) (by decide) rfl (fun ls hl => ?_)
                                have hl : lv_has ls 7 [(4, .int (nI (qq + 1) - 1)), (2, .int (nI (nx + 2))), (3, .int 1), (6, .int 2), (5, .int (u2.2.2 (qq - 1))), (0, .ref h0), (1, .int (nI mt))] := hl
                                refine lv_goto (tgt := 55) hx hb d_Mod_firstFrame_171 (by decide) ?_
                                have hP : va_P g.1 classes [(h0, .inr (10, mob q rf n mm mb fa fp av ev wi mn tp tc sc nf fd me mp xn mt wh tq u2.1 u2.2.1 ig)), ((q 2), aI g 600 bs), ((q 16), aI g 620 on), ((q 17), aI g 620 tw), ((q 27), aI g 160 fl), ((q 28), aI g 160 pl), ((q 30), aI g 160 ty), ((q 33), aI g 160 lo), ((q 34), aI g 160 bg), ((q 41), aI g 600 dp), ((q 42), aZ g 600 iw), ((q 43), aI g 76800 kd), ((q 47), aI g 128 (upd nw8 nx 0)), ((q 50), aI g 600 u2.2.2)] H := hP.sub [0, 1, 2, 3, 4, 5, 6, 7, 8, 9, 10, 11, 12, 13] rfl
                                have hD : va_D A [(h0, .inr (10, mob q rf n mm mb fa fp av ev wi mn tp tc sc nf fd me mp xn mt wh tq u2.1 u2.2.1 ig)), ((q 2), aI g 600 bs), ((q 16), aI g 620 on), ((q 17), aI g 620 tw), ((q 27), aI g 160 fl), ((q 28), aI g 160 pl), ((q 30), aI g 160 ty), ((q 33), aI g 160 lo), ((q 34), aI g 160 bg), ((q 41), aI g 600 dp), ((q 42), aZ g 600 iw), ((q 43), aI g 76800 kd), ((q 47), aI g 128 (upd nw8 nx 0)), ((q 50), aI g 600 u2.2.2)] := hD.sub [0, 1, 2, 3, 4, 5, 6, 7, 8, 9, 10, 11, 12, 13] (by decide) rfl
                                exact ih55 _ (by omega) (nx + 2) 1 (qq + 1) (upd nw8 nx 0) ls _ _ rfl (by omega) (by omega) (hNW8.put (by decide)) (lv_sub hl [0, 2, 1, 5, 6] rfl) hP hD hS
                              · exact absurd h151 h85
                · refine lv_iconst (v := 4) hx hb d_Mod_firstFrame_69 (by decide) ?_
                  refine lv_goto (tgt := 80) hx hb d_Mod_firstFrame_70 (by decide) ?_
                  refine lv_istore hx hb d_Mod_firstFrame_80 hl (by decide) rfl (fun ls hl => ?_)
                  have hl : lv_has ls 7 [(5, .int 4), (4, .int (nI qq - 1)), (3, .int ft), (2, .int (nI nx)), (0, .ref h0), (1, .int (nI mt))] := hl
                  refine lv_iload hx hb d_Mod_firstFrame_82 (lv_at hl 0 rfl) ?_
                  refine lv_iconst (v := 2) hx hb d_Mod_firstFrame_84 (by decide) ?_
                  refine lv_icmp_eq (tgt := 95) hx hb d_Mod_firstFrame_85 (by decide) (fun h85 => ?_) (fun h85 => ?_)
                  · refine lv_iconst (v := 2) hx hb d_Mod_firstFrame_95 (by decide) ?_
                    refine lv_goto (tgt := 100) hx hb d_Mod_firstFrame_96 (by decide) ?_
                    refine lv_istore hx hb d_Mod_firstFrame_100 hl (by decide) rfl (fun ls hl => ?_)
                    have hl : lv_has ls 7 [(6, .int 2), (5, .int 4), (4, .int (nI qq - 1)), (3, .int ft), (2, .int (nI nx)), (0, .ref h0), (1, .int (nI mt))] := hl
                    refine lv_iload_n hx hb d_Mod_firstFrame_102 rfl (lv_at hl 3 rfl) ?_
                    refine lv_if_eq (tgt := 123) hx hb d_Mod_firstFrame_103 (by decide) (fun h103 => ?_) (fun h103 => ?_)
                    · refine lv_iconst (v := 0) hx hb d_Mod_firstFrame_123 (by decide) ?_
                      refine lv_istore_n hx hb d_Mod_firstFrame_124 rfl hl (by decide) rfl (fun ls hl => ?_)
                      have hl : lv_has ls 7 [(3, .int 0), (6, .int 2), (5, .int 4), (4, .int (nI qq - 1)), (2, .int (nI nx)), (0, .ref h0), (1, .int (nI mt))] := hl
                      refine lv_iload_n hx hb d_Mod_firstFrame_125 rfl (lv_at hl 0 rfl) ?_
                      refine lv_if_eq (tgt := 163) hx hb d_Mod_firstFrame_126 (by decide) (fun h126 => ?_) (fun h126 => ?_)
                      · refine lv_iload_n hx hb d_Mod_firstFrame_163 rfl (lv_at hl 4 rfl) ?_
                        refine lv_iload hx hb d_Mod_firstFrame_164 (lv_at hl 1 rfl) ?_
                        refine lv_iadd hx hb d_Mod_firstFrame_166 ?_
                        refine tw_ri (e2 := nI (nx + 2)) (nI_add nx 2) ?_
                        refine lv_istore_n hx hb d_Mod_firstFrame_167 rfl hl (by decide) rfl (fun ls hl => ?_)
                        have hl : lv_has ls 7 [(2, .int (nI (nx + 2))), (3, .int 0), (6, .int 2), (5, .int 4), (4, .int (nI qq - 1)), (0, .ref h0), (1, .int (nI mt))] := hl
                        refine lv_iinc (k := 4) (v := nI (qq + 1) - 1) hx hb d_Mod_firstFrame_168 hl rfl (ff_up qq) (by decide) rfl (fun ls hl => ?_)
                        have hl : lv_has ls 7 [(4, .int (nI (qq + 1) - 1)), (2, .int (nI (nx + 2))), (3, .int 0), (6, .int 2), (5, .int 4), (0, .ref h0), (1, .int (nI mt))] := hl
                        refine lv_goto (tgt := 55) hx hb d_Mod_firstFrame_171 (by decide) ?_
                        have hP : va_P g.1 classes [(h0, .inr (10, mob q rf n mm mb fa fp av ev wi mn tp tc sc nf fd me mp xn mt wh tq u2.1 u2.2.1 ig)), ((q 2), aI g 600 bs), ((q 16), aI g 620 on), ((q 17), aI g 620 tw), ((q 27), aI g 160 fl), ((q 28), aI g 160 pl), ((q 30), aI g 160 ty), ((q 33), aI g 160 lo), ((q 34), aI g 160 bg), ((q 41), aI g 600 dp), ((q 42), aZ g 600 iw), ((q 43), aI g 76800 kd), ((q 47), aI g 128 nw8), ((q 50), aI g 600 u2.2.2)] H := hP.sub [0, 1, 2, 3, 4, 5, 6, 7, 8, 9, 10, 11, 12, 13] rfl
                        have hD : va_D A [(h0, .inr (10, mob q rf n mm mb fa fp av ev wi mn tp tc sc nf fd me mp xn mt wh tq u2.1 u2.2.1 ig)), ((q 2), aI g 600 bs), ((q 16), aI g 620 on), ((q 17), aI g 620 tw), ((q 27), aI g 160 fl), ((q 28), aI g 160 pl), ((q 30), aI g 160 ty), ((q 33), aI g 160 lo), ((q 34), aI g 160 bg), ((q 41), aI g 600 dp), ((q 42), aZ g 600 iw), ((q 43), aI g 76800 kd), ((q 47), aI g 128 nw8), ((q 50), aI g 600 u2.2.2)] := hD.sub [0, 1, 2, 3, 4, 5, 6, 7, 8, 9, 10, 11, 12, 13] (by decide) rfl
                        exact ih55 _ (by omega) (nx + 2) 0 (qq + 1) nw8 ls _ _ rfl (by omega) (by omega) hNW8 (lv_sub hl [0, 2, 1, 5, 6] rfl) hP hD hS
                      · first | exact absurd h126 (by decide) | exact absurd (by decide) h126
                    · refine lv_iload_n hx hb d_Mod_firstFrame_106 rfl (lv_at hl 4 rfl) ?_
                      refine lv_iload hx hb d_Mod_firstFrame_107 (lv_at hl 0 rfl) ?_
                      refine lv_iadd hx hb d_Mod_firstFrame_109 ?_
                      refine tw_ri (e2 := nI (nx + 2)) (nI_add nx 2) ?_
                      refine lv_aload_n hx hb d_Mod_firstFrame_110 rfl (lv_at hl 5 rfl) ?_
                      refine va_get (D := g.1) (ci := 10) (v := .ref (q 33)) (C := R_Mod) (T := F_Mod) (N := 61) hx hb hts in_Mod hown hK hP 0 rfl rfl 33 (by decide) (hts _ wd_1283) (fun _ h9 => h9) rfl d_Mod_firstFrame_111 ?_
                      refine lv_iload_n hx hb d_Mod_firstFrame_114 rfl (lv_at hl 6 rfl) ?_
                      refine va_iald hx hb hK hP 7 0 rfl rfl (vp_in_nI (by omega) (by decide)) d_Mod_firstFrame_115 ?_
                      refine tw_ri (e2 := nI o1) (by rw [nI_clamp (by omega)]; exact hlo) ?_
                      refine lv_icmp_gt (tgt := 123) hx hb d_Mod_firstFrame_116 (by decide) (fun h116 => ?_) (fun h116 => ?_)
                      · refine lv_iconst (v := 0) hx hb d_Mod_firstFrame_123 (by decide) ?_
                        refine lv_istore_n hx hb d_Mod_firstFrame_124 rfl hl (by decide) rfl (fun ls hl => ?_)
                        have hl : lv_has ls 7 [(3, .int 0), (6, .int 2), (5, .int 4), (4, .int (nI qq - 1)), (2, .int (nI nx)), (0, .ref h0), (1, .int (nI mt))] := hl
                        refine lv_iload_n hx hb d_Mod_firstFrame_125 rfl (lv_at hl 0 rfl) ?_
                        refine lv_if_eq (tgt := 163) hx hb d_Mod_firstFrame_126 (by decide) (fun h126 => ?_) (fun h126 => ?_)
                        · refine lv_iload_n hx hb d_Mod_firstFrame_163 rfl (lv_at hl 4 rfl) ?_
                          refine lv_iload hx hb d_Mod_firstFrame_164 (lv_at hl 1 rfl) ?_
                          refine lv_iadd hx hb d_Mod_firstFrame_166 ?_
                          refine tw_ri (e2 := nI (nx + 2)) (nI_add nx 2) ?_
                          refine lv_istore_n hx hb d_Mod_firstFrame_167 rfl hl (by decide) rfl (fun ls hl => ?_)
                          have hl : lv_has ls 7 [(2, .int (nI (nx + 2))), (3, .int 0), (6, .int 2), (5, .int 4), (4, .int (nI qq - 1)), (0, .ref h0), (1, .int (nI mt))] := hl
                          refine lv_iinc (k := 4) (v := nI (qq + 1) - 1) hx hb d_Mod_firstFrame_168 hl rfl (ff_up qq) (by decide) rfl (fun ls hl => ?_)
                          have hl : lv_has ls 7 [(4, .int (nI (qq + 1) - 1)), (2, .int (nI (nx + 2))), (3, .int 0), (6, .int 2), (5, .int 4), (0, .ref h0), (1, .int (nI mt))] := hl
                          refine lv_goto (tgt := 55) hx hb d_Mod_firstFrame_171 (by decide) ?_
                          have hP : va_P g.1 classes [(h0, .inr (10, mob q rf n mm mb fa fp av ev wi mn tp tc sc nf fd me mp xn mt wh tq u2.1 u2.2.1 ig)), ((q 2), aI g 600 bs), ((q 16), aI g 620 on), ((q 17), aI g 620 tw), ((q 27), aI g 160 fl), ((q 28), aI g 160 pl), ((q 30), aI g 160 ty), ((q 33), aI g 160 lo), ((q 34), aI g 160 bg), ((q 41), aI g 600 dp), ((q 42), aZ g 600 iw), ((q 43), aI g 76800 kd), ((q 47), aI g 128 nw8), ((q 50), aI g 600 u2.2.2)] H := hP.sub [0, 1, 2, 3, 4, 5, 6, 7, 8, 9, 10, 11, 12, 13] rfl
                          have hD : va_D A [(h0, .inr (10, mob q rf n mm mb fa fp av ev wi mn tp tc sc nf fd me mp xn mt wh tq u2.1 u2.2.1 ig)), ((q 2), aI g 600 bs), ((q 16), aI g 620 on), ((q 17), aI g 620 tw), ((q 27), aI g 160 fl), ((q 28), aI g 160 pl), ((q 30), aI g 160 ty), ((q 33), aI g 160 lo), ((q 34), aI g 160 bg), ((q 41), aI g 600 dp), ((q 42), aZ g 600 iw), ((q 43), aI g 76800 kd), ((q 47), aI g 128 nw8), ((q 50), aI g 600 u2.2.2)] := hD.sub [0, 1, 2, 3, 4, 5, 6, 7, 8, 9, 10, 11, 12, 13] (by decide) rfl
                          exact ih55 _ (by omega) (nx + 2) 0 (qq + 1) nw8 ls _ _ rfl (by omega) (by omega) hNW8 (lv_sub hl [0, 2, 1, 5, 6] rfl) hP hD hS
                        · first | exact absurd h126 (by decide) | exact absurd (by decide) h126
                      · have h116 := tn_nlt h116 (by omega) (by omega)
                        refine lv_iconst (v := 1) hx hb d_Mod_firstFrame_119 (by decide) ?_
                        refine lv_goto (tgt := 124) hx hb d_Mod_firstFrame_120 (by decide) ?_
                        refine lv_istore_n hx hb d_Mod_firstFrame_124 rfl hl (by decide) rfl (fun ls hl => ?_)
                        have hl : lv_has ls 7 [(3, .int 1), (6, .int 2), (5, .int 4), (4, .int (nI qq - 1)), (2, .int (nI nx)), (0, .ref h0), (1, .int (nI mt))] := hl
                        refine lv_iload_n hx hb d_Mod_firstFrame_125 rfl (lv_at hl 0 rfl) ?_
                        refine lv_if_eq (tgt := 163) hx hb d_Mod_firstFrame_126 (by decide) (fun h126 => ?_) (fun h126 => ?_)
                        · first | exact absurd h126 (by decide) | exact absurd (by decide) h126
                        · refine lv_aload_n hx hb d_Mod_firstFrame_129 rfl (lv_at hl 5 rfl) ?_
                          refine va_get (D := g.1) (ci := 10) (v := .ref (q 47)) (C := R_Mod) (T := F_Mod) (N := 61) hx hb hts in_Mod hown hK hP 0 rfl rfl 47 (by decide) (hts _ wd_1297) (fun _ h9 => h9) rfl d_Mod_firstFrame_130 ?_
                          refine lv_iload_n hx hb d_Mod_firstFrame_133 rfl (lv_at hl 4 rfl) ?_
                          refine lv_iload hx hb d_Mod_firstFrame_134 (lv_at hl 2 rfl) ?_
                          refine lv_bipush (v := 9) hx hb d_Mod_firstFrame_136 (by decide) ?_
                          refine lv_icmp_lt (tgt := 145) hx hb d_Mod_firstFrame_138 (by decide) (fun h138 => ?_) (fun h138 => ?_)
                          · refine lv_iload hx hb d_Mod_firstFrame_145 (lv_at hl 2 rfl) ?_
                            refine va_iast hx hb hK hP hD hS 12 0 rfl rfl (vp_in_nI (by omega) (by decide)) d_Mod_firstFrame_147 (fun H locs hP hD hS => ?_)
                            have hP : va_P g.1 classes [(h0, .inr (10, mob q rf n mm mb fa fp av ev wi mn tp tc sc nf fd me mp xn mt wh tq u2.1 u2.2.1 ig)), ((q 2), aI g 600 bs), ((q 16), aI g 620 on), ((q 17), aI g 620 tw), ((q 27), aI g 160 fl), ((q 28), aI g 160 pl), ((q 30), aI g 160 ty), ((q 33), aI g 160 lo), ((q 34), aI g 160 bg), ((q 41), aI g 600 dp), ((q 42), aZ g 600 iw), ((q 43), aI g 76800 kd), ((q 47), aI g 128 (upd nw8 (nI nx).toNatClampNeg 4)), ((q 50), aI g 600 u2.2.2)] H := hP
                            have hD : va_D A [(h0, .inr (10, mob q rf n mm mb fa fp av ev wi mn tp tc sc nf fd me mp xn mt wh tq u2.1 u2.2.1 ig)), ((q 2), aI g 600 bs), ((q 16), aI g 620 on), ((q 17), aI g 620 tw), ((q 27), aI g 160 fl), ((q 28), aI g 160 pl), ((q 30), aI g 160 ty), ((q 33), aI g 160 lo), ((q 34), aI g 160 bg), ((q 41), aI g 600 dp), ((q 42), aZ g 600 iw), ((q 43), aI g 76800 kd), ((q 47), aI g 128 (upd nw8 (nI nx).toNatClampNeg 4)), ((q 50), aI g 600 u2.2.2)] := hD
                            have e9 : upd nw8 (nI nx).toNatClampNeg 4 = upd nw8 nx 4 := by rw [nI_clamp (by omega)]
                            rw [e9] at hP hD
                            refine lv_iload hx hb d_Mod_firstFrame_148 (lv_at hl 2 rfl) ?_
                            refine lv_iconst (v := 2) hx hb d_Mod_firstFrame_150 (by decide) ?_
                            refine lv_icmp_ne (tgt := 163) hx hb d_Mod_firstFrame_151 (by decide) (fun h151 => ?_) (fun h151 => ?_)
                            · exact absurd h85 h151
                            · refine lv_aload_n hx hb d_Mod_firstFrame_154 rfl (lv_at hl 5 rfl) ?_
                              refine va_get (D := g.1) (ci := 10) (v := .ref (q 47)) (C := R_Mod) (T := F_Mod) (N := 61) hx hb hts in_Mod hown hK hP 0 rfl rfl 47 (by decide) (hts _ wd_1297) (fun _ h9 => h9) rfl d_Mod_firstFrame_155 ?_
                              refine lv_iload_n hx hb d_Mod_firstFrame_158 rfl (lv_at hl 4 rfl) ?_
                              refine lv_iconst (v := 1) hx hb d_Mod_firstFrame_159 (by decide) ?_
                              refine lv_iadd hx hb d_Mod_firstFrame_160 ?_
                              refine tw_ri (e2 := nI (nx + 1)) (nI_add nx 1) ?_
                              refine lv_iconst (v := 3) hx hb d_Mod_firstFrame_161 (by decide) ?_
                              refine va_iast hx hb hK hP hD hS 12 0 rfl rfl (vp_in_nI (by omega) (by decide)) d_Mod_firstFrame_162 (fun H locs hP hD hS => ?_)
                              have hP : va_P g.1 classes [(h0, .inr (10, mob q rf n mm mb fa fp av ev wi mn tp tc sc nf fd me mp xn mt wh tq u2.1 u2.2.1 ig)), ((q 2), aI g 600 bs), ((q 16), aI g 620 on), ((q 17), aI g 620 tw), ((q 27), aI g 160 fl), ((q 28), aI g 160 pl), ((q 30), aI g 160 ty), ((q 33), aI g 160 lo), ((q 34), aI g 160 bg), ((q 41), aI g 600 dp), ((q 42), aZ g 600 iw), ((q 43), aI g 76800 kd), ((q 47), aI g 128 (upd (upd nw8 nx 4) (nI (nx + 1)).toNatClampNeg 3)), ((q 50), aI g 600 u2.2.2)] H := hP
                              have hD : va_D A [(h0, .inr (10, mob q rf n mm mb fa fp av ev wi mn tp tc sc nf fd me mp xn mt wh tq u2.1 u2.2.1 ig)), ((q 2), aI g 600 bs), ((q 16), aI g 620 on), ((q 17), aI g 620 tw), ((q 27), aI g 160 fl), ((q 28), aI g 160 pl), ((q 30), aI g 160 ty), ((q 33), aI g 160 lo), ((q 34), aI g 160 bg), ((q 41), aI g 600 dp), ((q 42), aZ g 600 iw), ((q 43), aI g 76800 kd), ((q 47), aI g 128 (upd (upd nw8 nx 4) (nI (nx + 1)).toNatClampNeg 3)), ((q 50), aI g 600 u2.2.2)] := hD
                              have e9 : upd (upd nw8 nx 4) (nI (nx + 1)).toNatClampNeg 3 = upd (upd nw8 nx 4) (nx + 1) 3 := by rw [nI_clamp (by omega)]
                              rw [e9] at hP hD
                              refine lv_iload_n hx hb d_Mod_firstFrame_163 rfl (lv_at hl 4 rfl) ?_
                              refine lv_iload hx hb d_Mod_firstFrame_164 (lv_at hl 1 rfl) ?_
                              refine lv_iadd hx hb d_Mod_firstFrame_166 ?_
                              refine tw_ri (e2 := nI (nx + 2)) (nI_add nx 2) ?_
                              refine lv_istore_n hx hb d_Mod_firstFrame_167 rfl hl (by decide) rfl (fun ls hl => ?_)
                              have hl : lv_has ls 7 [(2, .int (nI (nx + 2))), (3, .int 1), (6, .int 2), (5, .int 4), (4, .int (nI qq - 1)), (0, .ref h0), (1, .int (nI mt))] := hl
                              refine lv_iinc (k := 4) (v := nI (qq + 1) - 1) hx hb d_Mod_firstFrame_168 hl rfl (ff_up qq) (by decide) rfl (fun ls hl => ?_)
                              have hl : lv_has ls 7 [(4, .int (nI (qq + 1) - 1)), (2, .int (nI (nx + 2))), (3, .int 1), (6, .int 2), (5, .int 4), (0, .ref h0), (1, .int (nI mt))] := hl
                              refine lv_goto (tgt := 55) hx hb d_Mod_firstFrame_171 (by decide) ?_
                              have hP : va_P g.1 classes [(h0, .inr (10, mob q rf n mm mb fa fp av ev wi mn tp tc sc nf fd me mp xn mt wh tq u2.1 u2.2.1 ig)), ((q 2), aI g 600 bs), ((q 16), aI g 620 on), ((q 17), aI g 620 tw), ((q 27), aI g 160 fl), ((q 28), aI g 160 pl), ((q 30), aI g 160 ty), ((q 33), aI g 160 lo), ((q 34), aI g 160 bg), ((q 41), aI g 600 dp), ((q 42), aZ g 600 iw), ((q 43), aI g 76800 kd), ((q 47), aI g 128 (upd (upd nw8 nx 4) (nx + 1) 3)), ((q 50), aI g 600 u2.2.2)] H := hP.sub [0, 1, 2, 3, 4, 5, 6, 7, 8, 9, 10, 11, 12, 13] rfl
                              have hD : va_D A [(h0, .inr (10, mob q rf n mm mb fa fp av ev wi mn tp tc sc nf fd me mp xn mt wh tq u2.1 u2.2.1 ig)), ((q 2), aI g 600 bs), ((q 16), aI g 620 on), ((q 17), aI g 620 tw), ((q 27), aI g 160 fl), ((q 28), aI g 160 pl), ((q 30), aI g 160 ty), ((q 33), aI g 160 lo), ((q 34), aI g 160 bg), ((q 41), aI g 600 dp), ((q 42), aZ g 600 iw), ((q 43), aI g 76800 kd), ((q 47), aI g 128 (upd (upd nw8 nx 4) (nx + 1) 3)), ((q 50), aI g 600 u2.2.2)] := hD.sub [0, 1, 2, 3, 4, 5, 6, 7, 8, 9, 10, 11, 12, 13] (by decide) rfl
                              exact ih55 _ (by omega) (nx + 2) 1 (qq + 1) (upd (upd nw8 nx 4) (nx + 1) 3) ls _ _ rfl (by omega) (by omega) ((hNW8.put (by decide)).put2 (by omega) (by omega)) (lv_sub hl [0, 2, 1, 5, 6] rfl) hP hD hS
                          · refine lv_iconst (v := 0) hx hb d_Mod_firstFrame_141 (by decide) ?_
                            refine lv_goto (tgt := 147) hx hb d_Mod_firstFrame_142 (by decide) ?_
                            refine va_iast hx hb hK hP hD hS 12 0 rfl rfl (vp_in_nI (by omega) (by decide)) d_Mod_firstFrame_147 (fun H locs hP hD hS => ?_)
                            have hP : va_P g.1 classes [(h0, .inr (10, mob q rf n mm mb fa fp av ev wi mn tp tc sc nf fd me mp xn mt wh tq u2.1 u2.2.1 ig)), ((q 2), aI g 600 bs), ((q 16), aI g 620 on), ((q 17), aI g 620 tw), ((q 27), aI g 160 fl), ((q 28), aI g 160 pl), ((q 30), aI g 160 ty), ((q 33), aI g 160 lo), ((q 34), aI g 160 bg), ((q 41), aI g 600 dp), ((q 42), aZ g 600 iw), ((q 43), aI g 76800 kd), ((q 47), aI g 128 (upd nw8 (nI nx).toNatClampNeg 0)), ((q 50), aI g 600 u2.2.2)] H := hP
                            have hD : va_D A [(h0, .inr (10, mob q rf n mm mb fa fp av ev wi mn tp tc sc nf fd me mp xn mt wh tq u2.1 u2.2.1 ig)), ((q 2), aI g 600 bs), ((q 16), aI g 620 on), ((q 17), aI g 620 tw), ((q 27), aI g 160 fl), ((q 28), aI g 160 pl), ((q 30), aI g 160 ty), ((q 33), aI g 160 lo), ((q 34), aI g 160 bg), ((q 41), aI g 600 dp), ((q 42), aZ g 600 iw), ((q 43), aI g 76800 kd), ((q 47), aI g 128 (upd nw8 (nI nx).toNatClampNeg 0)), ((q 50), aI g 600 u2.2.2)] := hD
                            have e9 : upd nw8 (nI nx).toNatClampNeg 0 = upd nw8 nx 0 := by rw [nI_clamp (by omega)]
                            rw [e9] at hP hD
                            refine lv_iload hx hb d_Mod_firstFrame_148 (lv_at hl 2 rfl) ?_
                            refine lv_iconst (v := 2) hx hb d_Mod_firstFrame_150 (by decide) ?_
                            refine lv_icmp_ne (tgt := 163) hx hb d_Mod_firstFrame_151 (by decide) (fun h151 => ?_) (fun h151 => ?_)
                            · exact absurd h85 h151
                            · refine lv_aload_n hx hb d_Mod_firstFrame_154 rfl (lv_at hl 5 rfl) ?_
                              refine va_get (D := g.1) (ci := 10) (v := .ref (q 47)) (C := R_Mod) (T := F_Mod) (N := 61) hx hb hts in_Mod hown hK hP 0 rfl rfl 47 (by decide) (hts _ wd_1297) (fun _ h9 => h9) rfl d_Mod_firstFrame_155 ?_
                              refine lv_iload_n hx hb d_Mod_firstFrame_158 rfl (lv_at hl 4 rfl) ?_
                              refine lv_iconst (v := 1) hx hb d_Mod_firstFrame_159 (by decide) ?_
                              refine lv_iadd hx hb d_Mod_firstFrame_160 ?_
                              refine tw_ri (e2 := nI (nx + 1)) (nI_add nx 1) ?_
                              refine lv_iconst (v := 3) hx hb d_Mod_firstFrame_161 (by decide) ?_
                              refine va_iast hx hb hK hP hD hS 12 0 rfl rfl (vp_in_nI (by omega) (by decide)) d_Mod_firstFrame_162 (fun H locs hP hD hS => ?_)
                              have hP : va_P g.1 classes [(h0, .inr (10, mob q rf n mm mb fa fp av ev wi mn tp tc sc nf fd me mp xn mt wh tq u2.1 u2.2.1 ig)), ((q 2), aI g 600 bs), ((q 16), aI g 620 on), ((q 17), aI g 620 tw), ((q 27), aI g 160 fl), ((q 28), aI g 160 pl), ((q 30), aI g 160 ty), ((q 33), aI g 160 lo), ((q 34), aI g 160 bg), ((q 41), aI g 600 dp), ((q 42), aZ g 600 iw), ((q 43), aI g 76800 kd), ((q 47), aI g 128 (upd (upd nw8 nx 0) (nI (nx + 1)).toNatClampNeg 3)), ((q 50), aI g 600 u2.2.2)] H := hP
                              have hD : va_D A [(h0, .inr (10, mob q rf n mm mb fa fp av ev wi mn tp tc sc nf fd me mp xn mt wh tq u2.1 u2.2.1 ig)), ((q 2), aI g 600 bs), ((q 16), aI g 620 on), ((q 17), aI g 620 tw), ((q 27), aI g 160 fl), ((q 28), aI g 160 pl), ((q 30), aI g 160 ty), ((q 33), aI g 160 lo), ((q 34), aI g 160 bg), ((q 41), aI g 600 dp), ((q 42), aZ g 600 iw), ((q 43), aI g 76800 kd), ((q 47), aI g 128 (upd (upd nw8 nx 0) (nI (nx + 1)).toNatClampNeg 3)), ((q 50), aI g 600 u2.2.2)] := hD
                              have e9 : upd (upd nw8 nx 0) (nI (nx + 1)).toNatClampNeg 3 = upd (upd nw8 nx 0) (nx + 1) 3 := by rw [nI_clamp (by omega)]
                              rw [e9] at hP hD
                              refine lv_iload_n hx hb d_Mod_firstFrame_163 rfl (lv_at hl 4 rfl) ?_
                              refine lv_iload hx hb d_Mod_firstFrame_164 (lv_at hl 1 rfl) ?_
                              refine lv_iadd hx hb d_Mod_firstFrame_166 ?_
                              refine tw_ri (e2 := nI (nx + 2)) (nI_add nx 2) ?_
                              refine lv_istore_n hx hb d_Mod_firstFrame_167 rfl hl (by decide) rfl (fun ls hl => ?_)
                              have hl : lv_has ls 7 [(2, .int (nI (nx + 2))), (3, .int 1), (6, .int 2), (5, .int 4), (4, .int (nI qq - 1)), (0, .ref h0), (1, .int (nI mt))] := hl
                              refine lv_iinc (k := 4) (v := nI (qq + 1) - 1) hx hb d_Mod_firstFrame_168 hl rfl (ff_up qq) (by decide) rfl (fun ls hl => ?_)
                              have hl : lv_has ls 7 [(4, .int (nI (qq + 1) - 1)), (2, .int (nI (nx + 2))), (3, .int 1), (6, .int 2), (5, .int 4), (0, .ref h0), (1, .int (nI mt))] := hl
                              refine lv_goto (tgt := 55) hx hb d_Mod_firstFrame_171 (by decide) ?_
                              have hP : va_P g.1 classes [(h0, .inr (10, mob q rf n mm mb fa fp av ev wi mn tp tc sc nf fd me mp xn mt wh tq u2.1 u2.2.1 ig)), ((q 2), aI g 600 bs), ((q 16), aI g 620 on), ((q 17), aI g 620 tw), ((q 27), aI g 160 fl), ((q 28), aI g 160 pl), ((q 30), aI g 160 ty), ((q 33), aI g 160 lo), ((q 34), aI g 160 bg), ((q 41), aI g 600 dp), ((q 42), aZ g 600 iw), ((q 43), aI g 76800 kd), ((q 47), aI g 128 (upd (upd nw8 nx 0) (nx + 1) 3)), ((q 50), aI g 600 u2.2.2)] H := hP.sub [0, 1, 2, 3, 4, 5, 6, 7, 8, 9, 10, 11, 12, 13] rfl
                              have hD : va_D A [(h0, .inr (10, mob q rf n mm mb fa fp av ev wi mn tp tc sc nf fd me mp xn mt wh tq u2.1 u2.2.1 ig)), ((q 2), aI g 600 bs), ((q 16), aI g 620 on), ((q 17), aI g 620 tw), ((q 27), aI g 160 fl), ((q 28), aI g 160 pl), ((q 30), aI g 160 ty), ((q 33), aI g 160 lo), ((q 34), aI g 160 bg), ((q 41), aI g 600 dp), ((q 42), aZ g 600 iw), ((q 43), aI g 76800 kd), ((q 47), aI g 128 (upd (upd nw8 nx 0) (nx + 1) 3)), ((q 50), aI g 600 u2.2.2)] := hD.sub [0, 1, 2, 3, 4, 5, 6, 7, 8, 9, 10, 11, 12, 13] (by decide) rfl
                              exact ih55 _ (by omega) (nx + 2) 1 (qq + 1) (upd (upd nw8 nx 0) (nx + 1) 3) ls _ _ rfl (by omega) (by omega) ((hNW8.put (by decide)).put2 (by omega) (by omega)) (lv_sub hl [0, 2, 1, 5, 6] rfl) hP hD hS
                  · refine lv_iload hx hb d_Mod_firstFrame_88 (lv_at hl 0 rfl) ?_
                    refine lv_bipush (v := 9) hx hb d_Mod_firstFrame_90 (by decide) ?_
                    refine lv_icmp_le (tgt := 99) hx hb d_Mod_firstFrame_92 (by decide) (fun h92 => ?_) (fun h92 => ?_)
                    · refine lv_iconst (v := 1) hx hb d_Mod_firstFrame_99 (by decide) ?_
                      refine lv_istore hx hb d_Mod_firstFrame_100 hl (by decide) rfl (fun ls hl => ?_)
                      have hl : lv_has ls 7 [(6, .int 1), (5, .int 4), (4, .int (nI qq - 1)), (3, .int ft), (2, .int (nI nx)), (0, .ref h0), (1, .int (nI mt))] := hl
                      refine lv_iload_n hx hb d_Mod_firstFrame_102 rfl (lv_at hl 3 rfl) ?_
                      refine lv_if_eq (tgt := 123) hx hb d_Mod_firstFrame_103 (by decide) (fun h103 => ?_) (fun h103 => ?_)
                      · refine lv_iconst (v := 0) hx hb d_Mod_firstFrame_123 (by decide) ?_
                        refine lv_istore_n hx hb d_Mod_firstFrame_124 rfl hl (by decide) rfl (fun ls hl => ?_)
                        have hl : lv_has ls 7 [(3, .int 0), (6, .int 1), (5, .int 4), (4, .int (nI qq - 1)), (2, .int (nI nx)), (0, .ref h0), (1, .int (nI mt))] := hl
                        refine lv_iload_n hx hb d_Mod_firstFrame_125 rfl (lv_at hl 0 rfl) ?_
                        refine lv_if_eq (tgt := 163) hx hb d_Mod_firstFrame_126 (by decide) (fun h126 => ?_) (fun h126 => ?_)
                        · refine lv_iload_n hx hb d_Mod_firstFrame_163 rfl (lv_at hl 4 rfl) ?_
                          refine lv_iload hx hb d_Mod_firstFrame_164 (lv_at hl 1 rfl) ?_
                          refine lv_iadd hx hb d_Mod_firstFrame_166 ?_
                          refine tw_ri (e2 := nI (nx + 1)) (nI_add nx 1) ?_
                          refine lv_istore_n hx hb d_Mod_firstFrame_167 rfl hl (by decide) rfl (fun ls hl => ?_)
                          have hl : lv_has ls 7 [(2, .int (nI (nx + 1))), (3, .int 0), (6, .int 1), (5, .int 4), (4, .int (nI qq - 1)), (0, .ref h0), (1, .int (nI mt))] := hl
                          refine lv_iinc (k := 4) (v := nI (qq + 1) - 1) hx hb d_Mod_firstFrame_168 hl rfl (ff_up qq) (by decide) rfl (fun ls hl => ?_)
                          have hl : lv_has ls 7 [(4, .int (nI (qq + 1) - 1)), (2, .int (nI (nx + 1))), (3, .int 0), (6, .int 1), (5, .int 4), (0, .ref h0), (1, .int (nI mt))] := hl
                          refine lv_goto (tgt := 55) hx hb d_Mod_firstFrame_171 (by decide) ?_
                          have hP : va_P g.1 classes [(h0, .inr (10, mob q rf n mm mb fa fp av ev wi mn tp tc sc nf fd me mp xn mt wh tq u2.1 u2.2.1 ig)), ((q 2), aI g 600 bs), ((q 16), aI g 620 on), ((q 17), aI g 620 tw), ((q 27), aI g 160 fl), ((q 28), aI g 160 pl), ((q 30), aI g 160 ty), ((q 33), aI g 160 lo), ((q 34), aI g 160 bg), ((q 41), aI g 600 dp), ((q 42), aZ g 600 iw), ((q 43), aI g 76800 kd), ((q 47), aI g 128 nw8), ((q 50), aI g 600 u2.2.2)] H := hP.sub [0, 1, 2, 3, 4, 5, 6, 7, 8, 9, 10, 11, 12, 13] rfl
                          have hD : va_D A [(h0, .inr (10, mob q rf n mm mb fa fp av ev wi mn tp tc sc nf fd me mp xn mt wh tq u2.1 u2.2.1 ig)), ((q 2), aI g 600 bs), ((q 16), aI g 620 on), ((q 17), aI g 620 tw), ((q 27), aI g 160 fl), ((q 28), aI g 160 pl), ((q 30), aI g 160 ty), ((q 33), aI g 160 lo), ((q 34), aI g 160 bg), ((q 41), aI g 600 dp), ((q 42), aZ g 600 iw), ((q 43), aI g 76800 kd), ((q 47), aI g 128 nw8), ((q 50), aI g 600 u2.2.2)] := hD.sub [0, 1, 2, 3, 4, 5, 6, 7, 8, 9, 10, 11, 12, 13] (by decide) rfl
                          exact ih55 _ (by omega) (nx + 1) 0 (qq + 1) nw8 ls _ _ rfl (by omega) (by omega) hNW8 (lv_sub hl [0, 2, 1, 5, 6] rfl) hP hD hS
                        · first | exact absurd h126 (by decide) | exact absurd (by decide) h126
                      · refine lv_iload_n hx hb d_Mod_firstFrame_106 rfl (lv_at hl 4 rfl) ?_
                        refine lv_iload hx hb d_Mod_firstFrame_107 (lv_at hl 0 rfl) ?_
                        refine lv_iadd hx hb d_Mod_firstFrame_109 ?_
                        refine tw_ri (e2 := nI (nx + 1)) (nI_add nx 1) ?_
                        refine lv_aload_n hx hb d_Mod_firstFrame_110 rfl (lv_at hl 5 rfl) ?_
                        refine va_get (D := g.1) (ci := 10) (v := .ref (q 33)) (C := R_Mod) (T := F_Mod) (N := 61) hx hb hts in_Mod hown hK hP 0 rfl rfl 33 (by decide) (hts _ wd_1283) (fun _ h9 => h9) rfl d_Mod_firstFrame_111 ?_
                        refine lv_iload_n hx hb d_Mod_firstFrame_114 rfl (lv_at hl 6 rfl) ?_
                        refine va_iald hx hb hK hP 7 0 rfl rfl (vp_in_nI (by omega) (by decide)) d_Mod_firstFrame_115 ?_
                        refine tw_ri (e2 := nI o1) (by rw [nI_clamp (by omega)]; exact hlo) ?_
                        refine lv_icmp_gt (tgt := 123) hx hb d_Mod_firstFrame_116 (by decide) (fun h116 => ?_) (fun h116 => ?_)
                        · refine lv_iconst (v := 0) hx hb d_Mod_firstFrame_123 (by decide) ?_
                          refine lv_istore_n hx hb d_Mod_firstFrame_124 rfl hl (by decide) rfl (fun ls hl => ?_)
                          have hl : lv_has ls 7 [(3, .int 0), (6, .int 1), (5, .int 4), (4, .int (nI qq - 1)), (2, .int (nI nx)), (0, .ref h0), (1, .int (nI mt))] := hl
                          refine lv_iload_n hx hb d_Mod_firstFrame_125 rfl (lv_at hl 0 rfl) ?_
                          refine lv_if_eq (tgt := 163) hx hb d_Mod_firstFrame_126 (by decide) (fun h126 => ?_) (fun h126 => ?_)
                          · refine lv_iload_n hx hb d_Mod_firstFrame_163 rfl (lv_at hl 4 rfl) ?_
                            refine lv_iload hx hb d_Mod_firstFrame_164 (lv_at hl 1 rfl) ?_
                            refine lv_iadd hx hb d_Mod_firstFrame_166 ?_
                            refine tw_ri (e2 := nI (nx + 1)) (nI_add nx 1) ?_
                            refine lv_istore_n hx hb d_Mod_firstFrame_167 rfl hl (by decide) rfl (fun ls hl => ?_)
                            have hl : lv_has ls 7 [(2, .int (nI (nx + 1))), (3, .int 0), (6, .int 1), (5, .int 4), (4, .int (nI qq - 1)), (0, .ref h0), (1, .int (nI mt))] := hl
                            refine lv_iinc (k := 4) (v := nI (qq + 1) - 1) hx hb d_Mod_firstFrame_168 hl rfl (ff_up qq) (by decide) rfl (fun ls hl => ?_)
                            have hl : lv_has ls 7 [(4, .int (nI (qq + 1) - 1)), (2, .int (nI (nx + 1))), (3, .int 0), (6, .int 1), (5, .int 4), (0, .ref h0), (1, .int (nI mt))] := hl
                            refine lv_goto (tgt := 55) hx hb d_Mod_firstFrame_171 (by decide) ?_
                            have hP : va_P g.1 classes [(h0, .inr (10, mob q rf n mm mb fa fp av ev wi mn tp tc sc nf fd me mp xn mt wh tq u2.1 u2.2.1 ig)), ((q 2), aI g 600 bs), ((q 16), aI g 620 on), ((q 17), aI g 620 tw), ((q 27), aI g 160 fl), ((q 28), aI g 160 pl), ((q 30), aI g 160 ty), ((q 33), aI g 160 lo), ((q 34), aI g 160 bg), ((q 41), aI g 600 dp), ((q 42), aZ g 600 iw), ((q 43), aI g 76800 kd), ((q 47), aI g 128 nw8), ((q 50), aI g 600 u2.2.2)] H := hP.sub [0, 1, 2, 3, 4, 5, 6, 7, 8, 9, 10, 11, 12, 13] rfl
                            have hD : va_D A [(h0, .inr (10, mob q rf n mm mb fa fp av ev wi mn tp tc sc nf fd me mp xn mt wh tq u2.1 u2.2.1 ig)), ((q 2), aI g 600 bs), ((q 16), aI g 620 on), ((q 17), aI g 620 tw), ((q 27), aI g 160 fl), ((q 28), aI g 160 pl), ((q 30), aI g 160 ty), ((q 33), aI g 160 lo), ((q 34), aI g 160 bg), ((q 41), aI g 600 dp), ((q 42), aZ g 600 iw), ((q 43), aI g 76800 kd), ((q 47), aI g 128 nw8), ((q 50), aI g 600 u2.2.2)] := hD.sub [0, 1, 2, 3, 4, 5, 6, 7, 8, 9, 10, 11, 12, 13] (by decide) rfl
                            exact ih55 _ (by omega) (nx + 1) 0 (qq + 1) nw8 ls _ _ rfl (by omega) (by omega) hNW8 (lv_sub hl [0, 2, 1, 5, 6] rfl) hP hD hS
                          · first | exact absurd h126 (by decide) | exact absurd (by decide) h126
                        · have h116 := tn_nlt h116 (by omega) (by omega)
                          refine lv_iconst (v := 1) hx hb d_Mod_firstFrame_119 (by decide) ?_
                          refine lv_goto (tgt := 124) hx hb d_Mod_firstFrame_120 (by decide) ?_
                          refine lv_istore_n hx hb d_Mod_firstFrame_124 rfl hl (by decide) rfl (fun ls hl => ?_)
                          have hl : lv_has ls 7 [(3, .int 1), (6, .int 1), (5, .int 4), (4, .int (nI qq - 1)), (2, .int (nI nx)), (0, .ref h0), (1, .int (nI mt))] := hl
                          refine lv_iload_n hx hb d_Mod_firstFrame_125 rfl (lv_at hl 0 rfl) ?_
                          refine lv_if_eq (tgt := 163) hx hb d_Mod_firstFrame_126 (by decide) (fun h126 => ?_) (fun h126 => ?_)
                          · first | exact absurd h126 (by decide) | exact absurd (by decide) h126
                          · refine lv_aload_n hx hb d_Mod_firstFrame_129 rfl (lv_at hl 5 rfl) ?_
                            refine va_get (D := g.1) (ci := 10) (v := .ref (q 47)) (C := R_Mod) (T := F_Mod) (N := 61) hx hb hts in_Mod hown hK hP 0 rfl rfl 47 (by decide) (hts _ wd_1297) (fun _ h9 => h9) rfl d_Mod_firstFrame_130 ?_
                            refine lv_iload_n hx hb d_Mod_firstFrame_133 rfl (lv_at hl 4 rfl) ?_
                            refine lv_iload hx hb d_Mod_firstFrame_134 (lv_at hl 2 rfl) ?_
                            refine lv_bipush (v := 9) hx hb d_Mod_firstFrame_136 (by decide) ?_
                            refine lv_icmp_lt (tgt := 145) hx hb d_Mod_firstFrame_138 (by decide) (fun h138 => ?_) (fun h138 => ?_)
                            · refine lv_iload hx hb d_Mod_firstFrame_145 (lv_at hl 2 rfl) ?_
                              refine va_iast hx hb hK hP hD hS 12 0 rfl rfl (vp_in_nI (by omega) (by decide)) d_Mod_firstFrame_147 (fun H locs hP hD hS => ?_)
                              have hP : va_P g.1 classes [(h0, .inr (10, mob q rf n mm mb fa fp av ev wi mn tp tc sc nf fd me mp xn mt wh tq u2.1 u2.2.1 ig)), ((q 2), aI g 600 bs), ((q 16), aI g 620 on), ((q 17), aI g 620 tw), ((q 27), aI g 160 fl), ((q 28), aI g 160 pl), ((q 30), aI g 160 ty), ((q 33), aI g 160 lo), ((q 34), aI g 160 bg), ((q 41), aI g 600 dp), ((q 42), aZ g 600 iw), ((q 43), aI g 76800 kd), ((q 47), aI g 128 (upd nw8 (nI nx).toNatClampNeg 4)), ((q 50), aI g 600 u2.2.2)] H := hP
                              have hD : va_D A [(h0, .inr (10, mob q rf n mm mb fa fp av ev wi mn tp tc sc nf fd me mp xn mt wh tq u2.1 u2.2.1 ig)), ((q 2), aI g 600 bs), ((q 16), aI g 620 on), ((q 17), aI g 620 tw), ((q 27), aI g 160 fl), ((q 28), aI g 160 pl), ((q 30), aI g 160 ty), ((q 33), aI g 160 lo), ((q 34), aI g 160 bg), ((q 41), aI g 600 dp), ((q 42), aZ g 600 iw), ((q 43), aI g 76800 kd), ((q 47), aI g 128 (upd nw8 (nI nx).toNatClampNeg 4)), ((q 50), aI g 600 u2.2.2)] := hD
                              have e9 : upd nw8 (nI nx).toNatClampNeg 4 = upd nw8 nx 4 := by rw [nI_clamp (by omega)]
                              rw [e9] at hP hD
                              refine lv_iload hx hb d_Mod_firstFrame_148 (lv_at hl 2 rfl) ?_
                              refine lv_iconst (v := 2) hx hb d_Mod_firstFrame_150 (by decide) ?_
                              refine lv_icmp_ne (tgt := 163) hx hb d_Mod_firstFrame_151 (by decide) (fun h151 => ?_) (fun h151 => ?_)
                              · refine lv_iload_n hx hb d_Mod_firstFrame_163 rfl (lv_at hl 4 rfl) ?_
                                refine lv_iload hx hb d_Mod_firstFrame_164 (lv_at hl 1 rfl) ?_
                                refine lv_iadd hx hb d_Mod_firstFrame_166 ?_
                                refine tw_ri (e2 := nI (nx + 1)) (nI_add nx 1) ?_
                                refine lv_istore_n hx hb d_Mod_firstFrame_167 rfl hl (by decide) rfl (fun ls hl => ?_)
                                have hl : lv_has ls 7 [(2, .int (nI (nx + 1))), (3, .int 1), (6, .int 1), (5, .int 4), (4, .int (nI qq - 1)), (0, .ref h0), (1, .int (nI mt))] := hl
                                refine lv_iinc (k := 4) (v := nI (qq + 1) - 1) hx hb d_Mod_firstFrame_168 hl rfl (ff_up qq) (by decide) rfl (fun ls hl => ?_)
                                have hl : lv_has ls 7 [(4, .int (nI (qq + 1) - 1)), (2, .int (nI (nx + 1))), (3, .int 1), (6, .int 1), (5, .int 4), (0, .ref h0), (1, .int (nI mt))] := hl
                                refine lv_goto (tgt := 55) hx hb d_Mod_firstFrame_171 (by decide) ?_
                                have hP : va_P g.1 classes [(h0, .inr (10, mob q rf n mm mb fa fp av ev wi mn tp tc sc nf fd me mp xn mt wh tq u2.1 u2.2.1 ig)), ((q 2), aI g 600 bs), ((q 16), aI g 620 on), ((q 17), aI g 620 tw), ((q 27), aI g 160 fl), ((q 28), aI g 160 pl), ((q 30), aI g 160 ty), ((q 33), aI g 160 lo), ((q 34), aI g 160 bg), ((q 41), aI g 600 dp), ((q 42), aZ g 600 iw), ((q 43), aI g 76800 kd), ((q 47), aI g 128 (upd nw8 nx 4)), ((q 50), aI g 600 u2.2.2)] H := hP.sub [0, 1, 2, 3, 4, 5, 6, 7, 8, 9, 10, 11, 12, 13] rfl
                                have hD : va_D A [(h0, .inr (10, mob q rf n mm mb fa fp av ev wi mn tp tc sc nf fd me mp xn mt wh tq u2.1 u2.2.1 ig)), ((q 2), aI g 600 bs), ((q 16), aI g 620 on), ((q 17), aI g 620 tw), ((q 27), aI g 160 fl), ((q 28), aI g 160 pl), ((q 30), aI g 160 ty), ((q 33), aI g 160 lo), ((q 34), aI g 160 bg), ((q 41), aI g 600 dp), ((q 42), aZ g 600 iw), ((q 43), aI g 76800 kd), ((q 47), aI g 128 (upd nw8 nx 4)), ((q 50), aI g 600 u2.2.2)] := hD.sub [0, 1, 2, 3, 4, 5, 6, 7, 8, 9, 10, 11, 12, 13] (by decide) rfl
                                exact ih55 _ (by omega) (nx + 1) 1 (qq + 1) (upd nw8 nx 4) ls _ _ rfl (by omega) (by omega) (hNW8.put (by decide)) (lv_sub hl [0, 2, 1, 5, 6] rfl) hP hD hS
                              · exact absurd h151 h85
                            · refine lv_iconst (v := 0) hx hb d_Mod_firstFrame_141 (by decide) ?_
                              refine lv_goto (tgt := 147) hx hb d_Mod_firstFrame_142 (by decide) ?_
                              refine va_iast hx hb hK hP hD hS 12 0 rfl rfl (vp_in_nI (by omega) (by decide)) d_Mod_firstFrame_147 (fun H locs hP hD hS => ?_)
                              have hP : va_P g.1 classes [(h0, .inr (10, mob q rf n mm mb fa fp av ev wi mn tp tc sc nf fd me mp xn mt wh tq u2.1 u2.2.1 ig)), ((q 2), aI g 600 bs), ((q 16), aI g 620 on), ((q 17), aI g 620 tw), ((q 27), aI g 160 fl), ((q 28), aI g 160 pl), ((q 30), aI g 160 ty), ((q 33), aI g 160 lo), ((q 34), aI g 160 bg), ((q 41), aI g 600 dp), ((q 42), aZ g 600 iw), ((q 43), aI g 76800 kd), ((q 47), aI g 128 (upd nw8 (nI nx).toNatClampNeg 0)), ((q 50), aI g 600 u2.2.2)] H := hP
                              have hD : va_D A [(h0, .inr (10, mob q rf n mm mb fa fp av ev wi mn tp tc sc nf fd me mp xn mt wh tq u2.1 u2.2.1 ig)), ((q 2), aI g 600 bs), ((q 16), aI g 620 on), ((q 17), aI g 620 tw), ((q 27), aI g 160 fl), ((q 28), aI g 160 pl), ((q 30), aI g 160 ty), ((q 33), aI g 160 lo), ((q 34), aI g 160 bg), ((q 41), aI g 600 dp), ((q 42), aZ g 600 iw), ((q 43), aI g 76800 kd), ((q 47), aI g 128 (upd nw8 (nI nx).toNatClampNeg 0)), ((q 50), aI g 600 u2.2.2)] := hD
                              have e9 : upd nw8 (nI nx).toNatClampNeg 0 = upd nw8 nx 0 := by rw [nI_clamp (by omega)]
                              rw [e9] at hP hD
                              refine lv_iload hx hb d_Mod_firstFrame_148 (lv_at hl 2 rfl) ?_
                              refine lv_iconst (v := 2) hx hb d_Mod_firstFrame_150 (by decide) ?_
                              refine lv_icmp_ne (tgt := 163) hx hb d_Mod_firstFrame_151 (by decide) (fun h151 => ?_) (fun h151 => ?_)
                              · refine lv_iload_n hx hb d_Mod_firstFrame_163 rfl (lv_at hl 4 rfl) ?_
                                refine lv_iload hx hb d_Mod_firstFrame_164 (lv_at hl 1 rfl) ?_
                                refine lv_iadd hx hb d_Mod_firstFrame_166 ?_
                                refine tw_ri (e2 := nI (nx + 1)) (nI_add nx 1) ?_
                                refine lv_istore_n hx hb d_Mod_firstFrame_167 rfl hl (by decide) rfl (fun ls hl => ?_)
                                have hl : lv_has ls 7 [(2, .int (nI (nx + 1))), (3, .int 1), (6, .int 1), (5, .int 4), (4, .int (nI qq - 1)), (0, .ref h0), (1, .int (nI mt))] := hl
                                refine lv_iinc (k := 4) (v := nI (qq + 1) - 1) hx hb d_Mod_firstFrame_168 hl rfl (ff_up qq) (by decide) rfl (fun ls hl => ?_)
                                have hl : lv_has ls 7 [(4, .int (nI (qq + 1) - 1)), (2, .int (nI (nx + 1))), (3, .int 1), (6, .int 1), (5, .int 4), (0, .ref h0), (1, .int (nI mt))] := hl
                                refine lv_goto (tgt := 55) hx hb d_Mod_firstFrame_171 (by decide) ?_
                                have hP : va_P g.1 classes [(h0, .inr (10, mob q rf n mm mb fa fp av ev wi mn tp tc sc nf fd me mp xn mt wh tq u2.1 u2.2.1 ig)), ((q 2), aI g 600 bs), ((q 16), aI g 620 on), ((q 17), aI g 620 tw), ((q 27), aI g 160 fl), ((q 28), aI g 160 pl), ((q 30), aI g 160 ty), ((q 33), aI g 160 lo), ((q 34), aI g 160 bg), ((q 41), aI g 600 dp), ((q 42), aZ g 600 iw), ((q 43), aI g 76800 kd), ((q 47), aI g 128 (upd nw8 nx 0)), ((q 50), aI g 600 u2.2.2)] H := hP.sub [0, 1, 2, 3, 4, 5, 6, 7, 8, 9, 10, 11, 12, 13] rfl
                                have hD : va_D A [(h0, .inr (10, mob q rf n mm mb fa fp av ev wi mn tp tc sc nf fd me mp xn mt wh tq u2.1 u2.2.1 ig)), ((q 2), aI g 600 bs), ((q 16), aI g 620 on), ((q 17), aI g 620 tw), ((q 27), aI g 160 fl), ((q 28), aI g 160 pl), ((q 30), aI g 160 ty), ((q 33), aI g 160 lo), ((q 34), aI g 160 bg), ((q 41), aI g 600 dp), ((q 42), aZ g 600 iw), ((q 43), aI g 76800 kd), ((q 47), aI g 128 (upd nw8 nx 0)), ((q 50), aI g 600 u2.2.2)] := hD.sub [0, 1, 2, 3, 4, 5, 6, 7, 8, 9, 10, 11, 12, 13] (by decide) rfl
                                exact ih55 _ (by omega) (nx + 1) 1 (qq + 1) (upd nw8 nx 0) ls _ _ rfl (by omega) (by omega) (hNW8.put (by decide)) (lv_sub hl [0, 2, 1, 5, 6] rfl) hP hD hS
                              · exact absurd h151 h85
                    · refine lv_iconst (v := 2) hx hb d_Mod_firstFrame_95 (by decide) ?_
                      refine lv_goto (tgt := 100) hx hb d_Mod_firstFrame_96 (by decide) ?_
                      refine lv_istore hx hb d_Mod_firstFrame_100 hl (by decide) rfl (fun ls hl => ?_)
                      have hl : lv_has ls 7 [(6, .int 2), (5, .int 4), (4, .int (nI qq - 1)), (3, .int ft), (2, .int (nI nx)), (0, .ref h0), (1, .int (nI mt))] := hl
                      refine lv_iload_n hx hb d_Mod_firstFrame_102 rfl (lv_at hl 3 rfl) ?_
                      refine lv_if_eq (tgt := 123) hx hb d_Mod_firstFrame_103 (by decide) (fun h103 => ?_) (fun h103 => ?_)
                      · refine lv_iconst (v := 0) hx hb d_Mod_firstFrame_123 (by decide) ?_
                        refine lv_istore_n hx hb d_Mod_firstFrame_124 rfl hl (by decide) rfl (fun ls hl => ?_)
                        have hl : lv_has ls 7 [(3, .int 0), (6, .int 2), (5, .int 4), (4, .int (nI qq - 1)), (2, .int (nI nx)), (0, .ref h0), (1, .int (nI mt))] := hl
                        refine lv_iload_n hx hb d_Mod_firstFrame_125 rfl (lv_at hl 0 rfl) ?_
                        refine lv_if_eq (tgt := 163) hx hb d_Mod_firstFrame_126 (by decide) (fun h126 => ?_) (fun h126 => ?_)
                        · refine lv_iload_n hx hb d_Mod_firstFrame_163 rfl (lv_at hl 4 rfl) ?_
                          refine lv_iload hx hb d_Mod_firstFrame_164 (lv_at hl 1 rfl) ?_
                          refine lv_iadd hx hb d_Mod_firstFrame_166 ?_
                          refine tw_ri (e2 := nI (nx + 2)) (nI_add nx 2) ?_
                          refine lv_istore_n hx hb d_Mod_firstFrame_167 rfl hl (by decide) rfl (fun ls hl => ?_)
                          have hl : lv_has ls 7 [(2, .int (nI (nx + 2))), (3, .int 0), (6, .int 2), (5, .int 4), (4, .int (nI qq - 1)), (0, .ref h0), (1, .int (nI mt))] := hl
                          refine lv_iinc (k := 4) (v := nI (qq + 1) - 1) hx hb d_Mod_firstFrame_168 hl rfl (ff_up qq) (by decide) rfl (fun ls hl => ?_)
                          have hl : lv_has ls 7 [(4, .int (nI (qq + 1) - 1)), (2, .int (nI (nx + 2))), (3, .int 0), (6, .int 2), (5, .int 4), (0, .ref h0), (1, .int (nI mt))] := hl
                          refine lv_goto (tgt := 55) hx hb d_Mod_firstFrame_171 (by decide) ?_
                          have hP : va_P g.1 classes [(h0, .inr (10, mob q rf n mm mb fa fp av ev wi mn tp tc sc nf fd me mp xn mt wh tq u2.1 u2.2.1 ig)), ((q 2), aI g 600 bs), ((q 16), aI g 620 on), ((q 17), aI g 620 tw), ((q 27), aI g 160 fl), ((q 28), aI g 160 pl), ((q 30), aI g 160 ty), ((q 33), aI g 160 lo), ((q 34), aI g 160 bg), ((q 41), aI g 600 dp), ((q 42), aZ g 600 iw), ((q 43), aI g 76800 kd), ((q 47), aI g 128 nw8), ((q 50), aI g 600 u2.2.2)] H := hP.sub [0, 1, 2, 3, 4, 5, 6, 7, 8, 9, 10, 11, 12, 13] rfl
                          have hD : va_D A [(h0, .inr (10, mob q rf n mm mb fa fp av ev wi mn tp tc sc nf fd me mp xn mt wh tq u2.1 u2.2.1 ig)), ((q 2), aI g 600 bs), ((q 16), aI g 620 on), ((q 17), aI g 620 tw), ((q 27), aI g 160 fl), ((q 28), aI g 160 pl), ((q 30), aI g 160 ty), ((q 33), aI g 160 lo), ((q 34), aI g 160 bg), ((q 41), aI g 600 dp), ((q 42), aZ g 600 iw), ((q 43), aI g 76800 kd), ((q 47), aI g 128 nw8), ((q 50), aI g 600 u2.2.2)] := hD.sub [0, 1, 2, 3, 4, 5, 6, 7, 8, 9, 10, 11, 12, 13] (by decide) rfl
                          exact ih55 _ (by omega) (nx + 2) 0 (qq + 1) nw8 ls _ _ rfl (by omega) (by omega) hNW8 (lv_sub hl [0, 2, 1, 5, 6] rfl) hP hD hS
                        · first | exact absurd h126 (by decide) | exact absurd (by decide) h126
                      · refine lv_iload_n hx hb d_Mod_firstFrame_106 rfl (lv_at hl 4 rfl) ?_
                        refine lv_iload hx hb d_Mod_firstFrame_107 (lv_at hl 0 rfl) ?_
                        refine lv_iadd hx hb d_Mod_firstFrame_109 ?_
                        refine tw_ri (e2 := nI (nx + 2)) (nI_add nx 2) ?_
                        refine lv_aload_n hx hb d_Mod_firstFrame_110 rfl (lv_at hl 5 rfl) ?_
                        refine va_get (D := g.1) (ci := 10) (v := .ref (q 33)) (C := R_Mod) (T := F_Mod) (N := 61) hx hb hts in_Mod hown hK hP 0 rfl rfl 33 (by decide) (hts _ wd_1283) (fun _ h9 => h9) rfl d_Mod_firstFrame_111 ?_
                        refine lv_iload_n hx hb d_Mod_firstFrame_114 rfl (lv_at hl 6 rfl) ?_
                        refine va_iald hx hb hK hP 7 0 rfl rfl (vp_in_nI (by omega) (by decide)) d_Mod_firstFrame_115 ?_
                        refine tw_ri (e2 := nI o1) (by rw [nI_clamp (by omega)]; exact hlo) ?_
                        refine lv_icmp_gt (tgt := 123) hx hb d_Mod_firstFrame_116 (by decide) (fun h116 => ?_) (fun h116 => ?_)
                        · refine lv_iconst (v := 0) hx hb d_Mod_firstFrame_123 (by decide) ?_
                          refine lv_istore_n hx hb d_Mod_firstFrame_124 rfl hl (by decide) rfl (fun ls hl => ?_)
                          have hl : lv_has ls 7 [(3, .int 0), (6, .int 2), (5, .int 4), (4, .int (nI qq - 1)), (2, .int (nI nx)), (0, .ref h0), (1, .int (nI mt))] := hl
                          refine lv_iload_n hx hb d_Mod_firstFrame_125 rfl (lv_at hl 0 rfl) ?_
                          refine lv_if_eq (tgt := 163) hx hb d_Mod_firstFrame_126 (by decide) (fun h126 => ?_) (fun h126 => ?_)
                          · refine lv_iload_n hx hb d_Mod_firstFrame_163 rfl (lv_at hl 4 rfl) ?_
                            refine lv_iload hx hb d_Mod_firstFrame_164 (lv_at hl 1 rfl) ?_
                            refine lv_iadd hx hb d_Mod_firstFrame_166 ?_
                            refine tw_ri (e2 := nI (nx + 2)) (nI_add nx 2) ?_
                            refine lv_istore_n hx hb d_Mod_firstFrame_167 rfl hl (by decide) rfl (fun ls hl => ?_)
                            have hl : lv_has ls 7 [(2, .int (nI (nx + 2))), (3, .int 0), (6, .int 2), (5, .int 4), (4, .int (nI qq - 1)), (0, .ref h0), (1, .int (nI mt))] := hl
                            refine lv_iinc (k := 4) (v := nI (qq + 1) - 1) hx hb d_Mod_firstFrame_168 hl rfl (ff_up qq) (by decide) rfl (fun ls hl => ?_)
                            have hl : lv_has ls 7 [(4, .int (nI (qq + 1) - 1)), (2, .int (nI (nx + 2))), (3, .int 0), (6, .int 2), (5, .int 4), (0, .ref h0), (1, .int (nI mt))] := hl
                            refine lv_goto (tgt := 55) hx hb d_Mod_firstFrame_171 (by decide) ?_
                            have hP : va_P g.1 classes [(h0, .inr (10, mob q rf n mm mb fa fp av ev wi mn tp tc sc nf fd me mp xn mt wh tq u2.1 u2.2.1 ig)), ((q 2), aI g 600 bs), ((q 16), aI g 620 on), ((q 17), aI g 620 tw), ((q 27), aI g 160 fl), ((q 28), aI g 160 pl), ((q 30), aI g 160 ty), ((q 33), aI g 160 lo), ((q 34), aI g 160 bg), ((q 41), aI g 600 dp), ((q 42), aZ g 600 iw), ((q 43), aI g 76800 kd), ((q 47), aI g 128 nw8), ((q 50), aI g 600 u2.2.2)] H := hP.sub [0, 1, 2, 3, 4, 5, 6, 7, 8, 9, 10, 11, 12, 13] rfl
                            have hD : va_D A [(h0, .inr (10, mob q rf n mm mb fa fp av ev wi mn tp tc sc nf fd me mp xn mt wh tq u2.1 u2.2.1 ig)), ((q 2), aI g 600 bs), ((q 16), aI g 620 on), ((q 17), aI g 620 tw), ((q 27), aI g 160 fl), ((q 28), aI g 160 pl), ((q 30), aI g 160 ty), ((q 33), aI g 160 lo), ((q 34), aI g 160 bg), ((q 41), aI g 600 dp), ((q 42), aZ g 600 iw), ((q 43), aI g 76800 kd), ((q 47), aI g 128 nw8), ((q 50), aI g 600 u2.2.2)] := hD.sub [0, 1, 2, 3, 4, 5, 6, 7, 8, 9, 10, 11, 12, 13] (by decide) rfl
                            exact ih55 _ (by omega) (nx + 2) 0 (qq + 1) nw8 ls _ _ rfl (by omega) (by omega) hNW8 (lv_sub hl [0, 2, 1, 5, 6] rfl) hP hD hS
                          · first | exact absurd h126 (by decide) | exact absurd (by decide) h126
                        · have h116 := tn_nlt h116 (by omega) (by omega)
                          refine lv_iconst (v := 1) hx hb d_Mod_firstFrame_119 (by decide) ?_
                          refine lv_goto (tgt := 124) hx hb d_Mod_firstFrame_120 (by decide) ?_
                          refine lv_istore_n hx hb d_Mod_firstFrame_124 rfl hl (by decide) rfl (fun ls hl => ?_)
                          have hl : lv_has ls 7 [(3, .int 1), (6, .int 2), (5, .int 4), (4, .int (nI qq - 1)), (2, .int (nI nx)), (0, .ref h0), (1, .int (nI mt))] := hl
                          refine lv_iload_n hx hb d_Mod_firstFrame_125 rfl (lv_at hl 0 rfl) ?_
                          refine lv_if_eq (tgt := 163) hx hb d_Mod_firstFrame_126 (by decide) (fun h126 => ?_) (fun h126 => ?_)
                          · first | exact absurd h126 (by decide) | exact absurd (by decide) h126
                          · refine lv_aload_n hx hb d_Mod_firstFrame_129 rfl (lv_at hl 5 rfl) ?_
                            refine va_get (D := g.1) (ci := 10) (v := .ref (q 47)) (C := R_Mod) (T := F_Mod) (N := 61) hx hb hts in_Mod hown hK hP 0 rfl rfl 47 (by decide) (hts _ wd_1297) (fun _ h9 => h9) rfl d_Mod_firstFrame_130 ?_
                            refine lv_iload_n hx hb d_Mod_firstFrame_133 rfl (lv_at hl 4 rfl) ?_
                            refine lv_iload hx hb d_Mod_firstFrame_134 (lv_at hl 2 rfl) ?_
                            refine lv_bipush (v := 9) hx hb d_Mod_firstFrame_136 (by decide) ?_
                            refine lv_icmp_lt (tgt := 145) hx hb d_Mod_firstFrame_138 (by decide) (fun h138 => ?_) (fun h138 => ?_)
                            · refine lv_iload hx hb d_Mod_firstFrame_145 (lv_at hl 2 rfl) ?_
                              refine va_iast hx hb hK hP hD hS 12 0 rfl rfl (vp_in_nI (by omega) (by decide)) d_Mod_firstFrame_147 (fun H locs hP hD hS => ?_)
                              have hP : va_P g.1 classes [(h0, .inr (10, mob q rf n mm mb fa fp av ev wi mn tp tc sc nf fd me mp xn mt wh tq u2.1 u2.2.1 ig)), ((q 2), aI g 600 bs), ((q 16), aI g 620 on), ((q 17), aI g 620 tw), ((q 27), aI g 160 fl), ((q 28), aI g 160 pl), ((q 30), aI g 160 ty), ((q 33), aI g 160 lo), ((q 34), aI g 160 bg), ((q 41), aI g 600 dp), ((q 42), aZ g 600 iw), ((q 43), aI g 76800 kd), ((q 47), aI g 128 (upd nw8 (nI nx).toNatClampNeg 4)), ((q 50), aI g 600 u2.2.2)] H := hP
                              have hD : va_D A [(h0, .inr (10, mob q rf n mm mb fa fp av ev wi mn tp tc sc nf fd me mp xn mt wh tq u2.1 u2.2.1 ig)), ((q 2), aI g 600 bs), ((q 16), aI g 620 on), ((q 17), aI g 620 tw), ((q 27), aI g 160 fl), ((q 28), aI g 160 pl), ((q 30), aI g 160 ty), ((q 33), aI g 160 lo), ((q 34), aI g 160 bg), ((q 41), aI g 600 dp), ((q 42), aZ g 600 iw), ((q 43), aI g 76800 kd), ((q 47), aI g 128 (upd nw8 (nI nx).toNatClampNeg 4)), ((q 50), aI g 600 u2.2.2)] := hD
                              have e9 : upd nw8 (nI nx).toNatClampNeg 4 = upd nw8 nx 4 := by rw [nI_clamp (by omega)]
                              rw [e9] at hP hD
                              refine lv_iload hx hb d_Mod_firstFrame_148 (lv_at hl 2 rfl) ?_
                              refine lv_iconst (v := 2) hx hb d_Mod_firstFrame_150 (by decide) ?_
                              refine lv_icmp_ne (tgt := 163) hx hb d_Mod_firstFrame_151 (by decide) (fun h151 => ?_) (fun h151 => ?_)
                              · refine lv_iload_n hx hb d_Mod_firstFrame_163 rfl (lv_at hl 4 rfl) ?_
                                refine lv_iload hx hb d_Mod_firstFrame_164 (lv_at hl 1 rfl) ?_
                                refine lv_iadd hx hb d_Mod_firstFrame_166 ?_
                                refine tw_ri (e2 := nI (nx + 2)) (nI_add nx 2) ?_
                                refine lv_istore_n hx hb d_Mod_firstFrame_167 rfl hl (by decide) rfl (fun ls hl => ?_)
                                have hl : lv_has ls 7 [(2, .int (nI (nx + 2))), (3, .int 1), (6, .int 2), (5, .int 4), (4, .int (nI qq - 1)), (0, .ref h0), (1, .int (nI mt))] := hl
                                refine lv_iinc (k := 4) (v := nI (qq + 1) - 1) hx hb d_Mod_firstFrame_168 hl rfl (ff_up qq) (by decide) rfl (fun ls hl => ?_)
                                have hl : lv_has ls 7 [(4, .int (nI (qq + 1) - 1)), (2, .int (nI (nx + 2))), (3, .int 1), (6, .int 2), (5, .int 4), (0, .ref h0), (1, .int (nI mt))] := hl
                                refine lv_goto (tgt := 55) hx hb d_Mod_firstFrame_171 (by decide) ?_
                                have hP : va_P g.1 classes [(h0, .inr (10, mob q rf n mm mb fa fp av ev wi mn tp tc sc nf fd me mp xn mt wh tq u2.1 u2.2.1 ig)), ((q 2), aI g 600 bs), ((q 16), aI g 620 on), ((q 17), aI g 620 tw), ((q 27), aI g 160 fl), ((q 28), aI g 160 pl), ((q 30), aI g 160 ty), ((q 33), aI g 160 lo), ((q 34), aI g 160 bg), ((q 41), aI g 600 dp), ((q 42), aZ g 600 iw), ((q 43), aI g 76800 kd), ((q 47), aI g 128 (upd nw8 nx 4)), ((q 50), aI g 600 u2.2.2)] H := hP.sub [0, 1, 2, 3, 4, 5, 6, 7, 8, 9, 10, 11, 12, 13] rfl
                                have hD : va_D A [(h0, .inr (10, mob q rf n mm mb fa fp av ev wi mn tp tc sc nf fd me mp xn mt wh tq u2.1 u2.2.1 ig)), ((q 2), aI g 600 bs), ((q 16), aI g 620 on), ((q 17), aI g 620 tw), ((q 27), aI g 160 fl), ((q 28), aI g 160 pl), ((q 30), aI g 160 ty), ((q 33), aI g 160 lo), ((q 34), aI g 160 bg), ((q 41), aI g 600 dp), ((q 42), aZ g 600 iw), ((q 43), aI g 76800 kd), ((q 47), aI g 128 (upd nw8 nx 4)), ((q 50), aI g 600 u2.2.2)] := hD.sub [0, 1, 2, 3, 4, 5, 6, 7, 8, 9, 10, 11, 12, 13] (by decide) rfl
                                exact ih55 _ (by omega) (nx + 2) 1 (qq + 1) (upd nw8 nx 4) ls _ _ rfl (by omega) (by omega) (hNW8.put (by decide)) (lv_sub hl [0, 2, 1, 5, 6] rfl) hP hD hS
                              · exact absurd h151 h85
                            · refine lv_iconst (v := 0) hx hb d_Mod_firstFrame_141 (by decide) ?_
                              refine lv_goto (tgt := 147) hx hb d_Mod_firstFrame_142 (by decide) ?_
                              refine va_iast hx hb hK hP hD hS 12 0 rfl rfl (vp_in_nI (by omega) (by decide)) d_Mod_firstFrame_147 (fun H locs hP hD hS => ?_)
                              have hP : va_P g.1 classes [(h0, .inr (10, mob q rf n mm mb fa fp av ev wi mn tp tc sc nf fd me mp xn mt wh tq u2.1 u2.2.1 ig)), ((q 2), aI g 600 bs), ((q 16), aI g 620 on), ((q 17), aI g 620 tw), ((q 27), aI g 160 fl), ((q 28), aI g 160 pl), ((q 30), aI g 160 ty), ((q 33), aI g 160 lo), ((q 34), aI g 160 bg), ((q 41), aI g 600 dp), ((q 42), aZ g 600 iw), ((q 43), aI g 76800 kd), ((q 47), aI g 128 (upd nw8 (nI nx).toNatClampNeg 0)), ((q 50), aI g 600 u2.2.2)] H := hP
                              have hD : va_D A [(h0, .inr (10, mob q rf n mm mb fa fp av ev wi mn tp tc sc nf fd me mp xn mt wh tq u2.1 u2.2.1 ig)), ((q 2), aI g 600 bs), ((q 16), aI g 620 on), ((q 17), aI g 620 tw), ((q 27), aI g 160 fl), ((q 28), aI g 160 pl), ((q 30), aI g 160 ty), ((q 33), aI g 160 lo), ((q 34), aI g 160 bg), ((q 41), aI g 600 dp), ((q 42), aZ g 600 iw), ((q 43), aI g 76800 kd), ((q 47), aI g 128 (upd nw8 (nI nx).toNatClampNeg 0)), ((q 50), aI g 600 u2.2.2)] := hD
                              have e9 : upd nw8 (nI nx).toNatClampNeg 0 = upd nw8 nx 0 := by rw [nI_clamp (by omega)]
                              rw [e9] at hP hD
                              refine lv_iload hx hb d_Mod_firstFrame_148 (lv_at hl 2 rfl) ?_
                              refine lv_iconst (v := 2) hx hb d_Mod_firstFrame_150 (by decide) ?_
                              refine lv_icmp_ne (tgt := 163) hx hb d_Mod_firstFrame_151 (by decide) (fun h151 => ?_) (fun h151 => ?_)
                              · refine lv_iload_n hx hb d_Mod_firstFrame_163 rfl (lv_at hl 4 rfl) ?_
                                refine lv_iload hx hb d_Mod_firstFrame_164 (lv_at hl 1 rfl) ?_
                                refine lv_iadd hx hb d_Mod_firstFrame_166 ?_
                                refine tw_ri (e2 := nI (nx + 2)) (nI_add nx 2) ?_
                                refine lv_istore_n hx hb d_Mod_firstFrame_167 rfl hl (by decide) rfl (fun ls hl => ?_)
                                have hl : lv_has ls 7 [(2, .int (nI (nx + 2))), (3, .int 1), (6, .int 2), (5, .int 4), (4, .int (nI qq - 1)), (0, .ref h0), (1, .int (nI mt))] := hl
                                refine lv_iinc (k := 4) (v := nI (qq + 1) - 1) hx hb d_Mod_firstFrame_168 hl rfl (ff_up qq) (by decide) rfl (fun ls hl => ?_)
                                have hl : lv_has ls 7 [(4, .int (nI (qq + 1) - 1)), (2, .int (nI (nx + 2))), (3, .int 1), (6, .int 2), (5, .int 4), (0, .ref h0), (1, .int (nI mt))] := hl
                                refine lv_goto (tgt := 55) hx hb d_Mod_firstFrame_171 (by decide) ?_
                                have hP : va_P g.1 classes [(h0, .inr (10, mob q rf n mm mb fa fp av ev wi mn tp tc sc nf fd me mp xn mt wh tq u2.1 u2.2.1 ig)), ((q 2), aI g 600 bs), ((q 16), aI g 620 on), ((q 17), aI g 620 tw), ((q 27), aI g 160 fl), ((q 28), aI g 160 pl), ((q 30), aI g 160 ty), ((q 33), aI g 160 lo), ((q 34), aI g 160 bg), ((q 41), aI g 600 dp), ((q 42), aZ g 600 iw), ((q 43), aI g 76800 kd), ((q 47), aI g 128 (upd nw8 nx 0)), ((q 50), aI g 600 u2.2.2)] H := hP.sub [0, 1, 2, 3, 4, 5, 6, 7, 8, 9, 10, 11, 12, 13] rfl
                                have hD : va_D A [(h0, .inr (10, mob q rf n mm mb fa fp av ev wi mn tp tc sc nf fd me mp xn mt wh tq u2.1 u2.2.1 ig)), ((q 2), aI g 600 bs), ((q 16), aI g 620 on), ((q 17), aI g 620 tw), ((q 27), aI g 160 fl), ((q 28), aI g 160 pl), ((q 30), aI g 160 ty), ((q 33), aI g 160 lo), ((q 34), aI g 160 bg), ((q 41), aI g 600 dp), ((q 42), aZ g 600 iw), ((q 43), aI g 76800 kd), ((q 47), aI g 128 (upd nw8 nx 0)), ((q 50), aI g 600 u2.2.2)] := hD.sub [0, 1, 2, 3, 4, 5, 6, 7, 8, 9, 10, 11, 12, 13] (by decide) rfl
                                exact ih55 _ (by omega) (nx + 2) 1 (qq + 1) (upd nw8 nx 0) ls _ _ rfl (by omega) (by omega) (hNW8.put (by decide)) (lv_sub hl [0, 2, 1, 5, 6] rfl) hP hD hS
                              · exact absurd h151 h85
          exact loop55 _ 0 1 1 nw9 ls _ _ rfl (Nat.zero_le _) (by omega) hNW1 (lv_sub hl [0, 1, 2, 3, 4] rfl) hP hD hS
      · have h6 := tn_nle (a := 128) h6 (by decide) (by omega)
        refine lv_aload_n hx hb d_Mod_firstFrame_9 rfl (lv_at hl 1 rfl) ?_
        refine va_get (D := g.1) (ci := 10) (v := .ref (q 47)) (C := R_Mod) (T := F_Mod) (N := 61) hx hb hts in_Mod hown hK hP 0 rfl rfl 47 (by decide) (hts _ wd_1297) (fun _ h9 => h9) rfl d_Mod_firstFrame_10 ?_
        refine lv_iload_n hx hb d_Mod_firstFrame_13 rfl (lv_at hl 0 rfl) ?_
        refine lv_iconst (v := 0) hx hb d_Mod_firstFrame_14 (by decide) ?_
        refine va_iast hx hb hK hP hD hS 12 0 rfl rfl (vp_in_nI (by omega) (by decide)) d_Mod_firstFrame_15 (fun H locs hP hD hS => ?_)
        have hP : va_P g.1 classes [(h0, .inr (10, mob q rf n mm mb fa fp av ev wi mn tp tc sc nf fd me mp xn mt wh tq ag an ig)), ((q 2), aI g 600 bs), ((q 16), aI g 620 on), ((q 17), aI g 620 tw), ((q 27), aI g 160 fl), ((q 28), aI g 160 pl), ((q 30), aI g 160 ty), ((q 33), aI g 160 lo), ((q 34), aI g 160 bg), ((q 41), aI g 600 dp), ((q 42), aZ g 600 iw), ((q 43), aI g 76800 kd), ((q 47), aI g 128 (upd nw9 (nI k).toNatClampNeg 0)), ((q 50), aI g 600 ak)] H := hP
        have hD : va_D A [(h0, .inr (10, mob q rf n mm mb fa fp av ev wi mn tp tc sc nf fd me mp xn mt wh tq ag an ig)), ((q 2), aI g 600 bs), ((q 16), aI g 620 on), ((q 17), aI g 620 tw), ((q 27), aI g 160 fl), ((q 28), aI g 160 pl), ((q 30), aI g 160 ty), ((q 33), aI g 160 lo), ((q 34), aI g 160 bg), ((q 41), aI g 600 dp), ((q 42), aZ g 600 iw), ((q 43), aI g 76800 kd), ((q 47), aI g 128 (upd nw9 (nI k).toNatClampNeg 0)), ((q 50), aI g 600 ak)] := hD
        have e9 : upd nw9 (nI k).toNatClampNeg 0 = upd nw9 k 0 := by rw [nI_clamp (by omega)]
        rw [e9] at hP hD
        refine lv_iinc (k := 0) (v := nI (k + 1)) hx hb d_Mod_firstFrame_16 hl rfl ((nI_succ k).symm) (by decide) rfl (fun ls hl => ?_)
        have hl : lv_has ls 7 [(2, .int (nI (k + 1))), (0, .ref h0), (1, .int (nI mt))] := hl
        refine lv_goto (tgt := 2) hx hb d_Mod_firstFrame_19 (by decide) ?_
        have hP : va_P g.1 classes [(h0, .inr (10, mob q rf n mm mb fa fp av ev wi mn tp tc sc nf fd me mp xn mt wh tq ag an ig)), ((q 2), aI g 600 bs), ((q 16), aI g 620 on), ((q 17), aI g 620 tw), ((q 27), aI g 160 fl), ((q 28), aI g 160 pl), ((q 30), aI g 160 ty), ((q 33), aI g 160 lo), ((q 34), aI g 160 bg), ((q 41), aI g 600 dp), ((q 42), aZ g 600 iw), ((q 43), aI g 76800 kd), ((q 47), aI g 128 (upd nw9 k 0)), ((q 50), aI g 600 ak)] H := hP.sub [0, 1, 2, 3, 4, 5, 6, 7, 8, 9, 10, 11, 12, 13] rfl
        have hD : va_D A [(h0, .inr (10, mob q rf n mm mb fa fp av ev wi mn tp tc sc nf fd me mp xn mt wh tq ag an ig)), ((q 2), aI g 600 bs), ((q 16), aI g 620 on), ((q 17), aI g 620 tw), ((q 27), aI g 160 fl), ((q 28), aI g 160 pl), ((q 30), aI g 160 ty), ((q 33), aI g 160 lo), ((q 34), aI g 160 bg), ((q 41), aI g 600 dp), ((q 42), aZ g 600 iw), ((q 43), aI g 76800 kd), ((q 47), aI g 128 (upd nw9 k 0)), ((q 50), aI g 600 ak)] := hD.sub [0, 1, 2, 3, 4, 5, 6, 7, 8, 9, 10, 11, 12, 13] (by decide) rfl
        exact ih _ (by omega) (k + 1) (upd nw9 k 0) ls _ _ rfl (by omega) (rl_z0 hzr) (lv_sub hl [0, 1, 2] rfl) hP hD hS
  exact loop2 _ 0 nw ls _ _ rfl (Nat.zero_le _) (fun j h => absurd h (Nat.not_lt_zero j)) (hl) hP hD hS
