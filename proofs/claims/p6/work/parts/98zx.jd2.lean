section
set_option maxHeartbeats 4000000 in
set_option maxRecDepth 100000 in
theorem g_Mod_judge (l : Launch) (g : tw_G) (sz : Nat) (h0 : Nat) (q : Nat → Nat) (rf : Int32) (n : Nat) (mm : Int32) (mb : Int32) (av : Nat) (ev : Nat) (wi : Int32) (mn : Nat) (tp : Int32) (tc : Int32) (sc : Int32) (nf : Nat) (fd : Nat) (me : Nat) (mp : Int32) (xn : Nat) (mt : Nat) (wh : Nat) (tq : Nat) (ag : Nat) (an : Int32) (ig : Int32) (bs : Nat → Int32) (ru : Nat → Int32) (rs : Nat → Int32) (rt : Nat → Int32) (tg : Nat → Int32) (tl : Nat → Int32) (on : Nat → Int32) (tw : Nat → Int32) (fl : Nat → Int32) (pl : Nat → Int32) (na : Nat → Int32) (ty : Nat → Int32) (ca : Nat → Int32) (sk : Nat → Int32) (lo : Nat → Int32) (bg : Nat → Int32) (ln : Nat → Int32) (xf : Nat → Int32) (xt : Nat → Int32) (fa : Int32) (fp : Int32) (hmn : mn ≤ 620) (hTX : TXT tg on tw) (hLCA : LCA mn tg on tw) (hTC : TGv mn tg 7 tc) (hLMA : ∀ j, j < me → LMB bs mn tg on tw fd na ty j) (hAMM : ∀ j, j < me → CDX ca sk lo bg ln xf xt xn j) (hru : ∀ i, i < 2 → ∃ c, c ≤ 6 ∧ ru i = nI c) (hrs : ∀ i, i < 12 → ∃ c, c ≤ 40 ∧ rs i = nI c) (hme : me ≤ 75) (hfd : fd ≤ me) (hf0 : fa = 0) : Met l y_Mod_judge [.code y_Mod_judge b_Mod_judge 2 none] ({ frames := 1, cells := 0, slots := 0, locals := 26 }) (tw_P g [.ref h0] [(h0, .inr (10, mob q rf n mm mb fa fp av ev wi mn tp tc sc nf fd me mp xn mt wh tq ag an ig)), ((q 2), aI g 600 bs), ((q 3), aI g 2 ru), ((q 4), aI g 12 rs), ((q 5), aI g 480 rt), ((q 14), aI g 620 tg), ((q 15), aI g 620 tl), ((q 16), aI g 620 on), ((q 17), aI g 620 tw), ((q 27), aI g 160 fl), ((q 28), aI g 160 pl), ((q 29), aI g 160 na), ((q 30), aI g 160 ty), ((q 31), aI g 160 ca), ((q 32), aI g 160 sk), ((q 33), aI g 160 lo), ((q 34), aI g 160 bg), ((q 35), aI g 160 ln), ((q 36), aI g 160 xf), ((q 37), aI g 160 xt)] sz) (tw_Qv g (fun (u : Int32 × Int32) => (u.1 = 0 → fa = 0) ∧ (u.1 = 0 → ∀ j, fd ≤ j → j < me → ¬ ca j ≤ 0 → SL64 sk lo j)) (fun u : Int32 × Int32 => [(h0, .inr (10, mob q rf n mm mb u.1 u.2 av ev wi mn tp tc sc nf fd me mp xn mt wh tq ag an ig)), ((q 2), aI g 600 bs), ((q 3), aI g 2 ru), ((q 4), aI g 12 rs), ((q 5), aI g 480 rt), ((q 14), aI g 620 tg), ((q 15), aI g 620 tl), ((q 16), aI g 620 on), ((q 17), aI g 620 tw), ((q 27), aI g 160 fl), ((q 28), aI g 160 pl), ((q 29), aI g 160 na), ((q 30), aI g 160 ty), ((q 31), aI g 160 ca), ((q 32), aI g 160 sk), ((q 33), aI g 160 lo), ((q 34), aI g 160 bg), ((q 35), aI g 160 ln), ((q 36), aI g 160 xf), ((q 37), aI g 160 xt)]) (va_A [(h0, .inr (10, mob q rf n mm mb fa fp av ev wi mn tp tc sc nf fd me mp xn mt wh tq ag an ig)), ((q 2), aI g 600 bs), ((q 3), aI g 2 ru), ((q 4), aI g 12 rs), ((q 5), aI g 480 rt), ((q 14), aI g 620 tg), ((q 15), aI g 620 tl), ((q 16), aI g 620 on), ((q 17), aI g 620 tw), ((q 27), aI g 160 fl), ((q 28), aI g 160 pl), ((q 29), aI g 160 na), ((q 30), aI g 160 ty), ((q 31), aI g 160 ca), ((q 32), aI g 160 sk), ((q 33), aI g 160 lo), ((q 34), aI g 160 bg), ((q 35), aI g 160 ln), ((q 36), aI g 160 xf), ((q 37), aI g 160 xt)] sz)) 0 0 (va_A [(h0, .inr (10, mob q rf n mm mb fa fp av ev wi mn tp tc sc nf fd me mp xn mt wh tq ag an ig)), ((q 2), aI g 600 bs), ((q 3), aI g 2 ru), ((q 4), aI g 12 rs), ((q 5), aI g 480 rt), ((q 14), aI g 620 tg), ((q 15), aI g 620 tl), ((q 16), aI g 620 on), ((q 17), aI g 620 tw), ((q 27), aI g 160 fl), ((q 28), aI g 160 pl), ((q 29), aI g 160 na), ((q 30), aI g 160 ty), ((q 31), aI g 160 ca), ((q 32), aI g 160 sk), ((q 33), aI g 160 lo), ((q 34), aI g 160 bg), ((q 35), aI g 160 ln), ((q 36), aI g 160 xf), ((q 37), aI g 160 xt)] sz) := by
  refine tw_metW (l := l) (g := g) (y := y_Mod_judge) (cc := b_Mod_judge) (maxL := 2) (ret := none) (rm := { frames := 1, cells := 0, slots := 0, locals := 26 }) (mc := 0) (ms := 0) (av := [.ref h0]) (ws := [(h0, .inr (10, mob q rf n mm mb fa fp av ev wi mn tp tc sc nf fd me mp xn mt wh tq ag an ig)), ((q 2), aI g 600 bs), ((q 3), aI g 2 ru), ((q 4), aI g 12 rs), ((q 5), aI g 480 rt), ((q 14), aI g 620 tg), ((q 15), aI g 620 tl), ((q 16), aI g 620 on), ((q 17), aI g 620 tw), ((q 27), aI g 160 fl), ((q 28), aI g 160 pl), ((q 29), aI g 160 na), ((q 30), aI g 160 ty), ((q 31), aI g 160 ca), ((q 32), aI g 160 sk), ((q 33), aI g 160 lo), ((q 34), aI g 160 bg), ((q 35), aI g 160 ln), ((q 36), aI g 160 xf), ((q 37), aI g 160 xt)]) (sz := sz) (Qc := fun A => (tw_Qv g (fun (u : Int32 × Int32) => (u.1 = 0 → fa = 0) ∧ (u.1 = 0 → ∀ j, fd ≤ j → j < me → ¬ ca j ≤ 0 → SL64 sk lo j)) (fun u : Int32 × Int32 => [(h0, .inr (10, mob q rf n mm mb u.1 u.2 av ev wi mn tp tc sc nf fd me mp xn mt wh tq ag an ig)), ((q 2), aI g 600 bs), ((q 3), aI g 2 ru), ((q 4), aI g 12 rs), ((q 5), aI g 480 rt), ((q 14), aI g 620 tg), ((q 15), aI g 620 tl), ((q 16), aI g 620 on), ((q 17), aI g 620 tw), ((q 27), aI g 160 fl), ((q 28), aI g 160 pl), ((q 29), aI g 160 na), ((q 30), aI g 160 ty), ((q 31), aI g 160 ca), ((q 32), aI g 160 sk), ((q 33), aI g 160 lo), ((q 34), aI g 160 bg), ((q 35), aI g 160 ln), ((q 36), aI g 160 xf), ((q 37), aI g 160 xt)]) A)) (by decide) (Nat.le_of_ble_eq_true rfl) ?_
  intro p e s m below meth c ls H A E hB hK hZ hP hD hS hA hl
  obtain ⟨hx, hb, hml, hr, hown, hts, hlocks, hin⟩ := id E
  have hl : lv_has ls 2 [(0, .ref h0)] := hl
  obtain ⟨jc, jx, px, lx, x1c, x2c, x3c, x4c, x5c, x6c, x7c⟩ := lk_cls hLCA hTX hmn hTC
  refine lv_aload_n hx hb d_Mod_judge_0 rfl (lv_at hl 0 rfl) ?_
  refine va_get (D := g.1) (ci := 10) (v := .int (nI me)) (C := R_Mod) (T := F_Mod) (N := 61) hx hb hts in_Mod hown hK hP 0 rfl rfl 25 (by decide) (hts _ wd_1275) (fun _ h9 => h9) rfl d_Mod_judge_1 ?_
  refine lv_aload_n hx hb d_Mod_judge_4 rfl (lv_at hl 0 rfl) ?_
  refine va_get (D := g.1) (ci := 10) (v := .int (nI fd)) (C := R_Mod) (T := F_Mod) (N := 61) hx hb hts in_Mod hown hK hP 0 rfl rfl 24 (by decide) (hts _ wd_1274) (fun _ h9 => h9) rfl d_Mod_judge_5 ?_
  refine lv_isub hx hb d_Mod_judge_8 ?_
  refine tw_ri (e2 := (nI me) - (nI fd)) rfl ?_
  refine lv_aload_n hx hb d_Mod_judge_9 rfl (lv_at hl 0 rfl) ?_
  refine va_get (D := g.1) (ci := 10) (v := .int mm) (C := R_Mod) (T := F_Mod) (N := 61) hx hb hts in_Mod hown hK hP 0 rfl rfl 6 (by decide) (hts _ wd_1256) (fun _ h9 => h9) rfl d_Mod_judge_10 ?_
  refine lv_icmp_le (tgt := 27) hx hb d_Mod_judge_13 (by decide) (fun h13 => ?_) (fun h13 => ?_)
  · refine lv_aload_n hx hb d_Mod_judge_27 rfl (lv_at hl 0 rfl) ?_
    refine lv_aload_n hx hb d_Mod_judge_28 rfl (lv_at hl 0 rfl) ?_
    refine va_get (D := g.1) (ci := 10) (v := .ref (q 16)) (C := R_Mod) (T := F_Mod) (N := 61) hx hb hts in_Mod hown hK hP 0 rfl rfl 16 (by decide) (hts _ wd_1266) (fun _ h9 => h9) rfl d_Mod_judge_29 ?_
    refine lv_aload_n hx hb d_Mod_judge_32 rfl (lv_at hl 0 rfl) ?_
    refine va_get (D := g.1) (ci := 10) (v := .int tc) (C := R_Mod) (T := F_Mod) (N := 61) hx hb hts in_Mod hown hK hP 0 rfl rfl 19 (by decide) (hts _ wd_1269) (fun _ h9 => h9) rfl d_Mod_judge_33 ?_
    refine va_iald hx hb hK hP 7 0 rfl rfl (by rw [x1c]; exact vp_in_nI (by omega) (by decide)) d_Mod_judge_36 ?_
    refine tw_ri (e2 := nI jx) (by rw [x1c, nI_clamp (by omega)]; exact x3c) ?_
    refine lv_iconst (v := 0) hx hb d_Mod_judge_37 (by decide) ?_
    refine tw_si (tw_runV (ws := [(h0, .inr (10, mob q rf n mm mb fa fp av ev wi mn tp tc sc nf fd me mp xn mt wh tq ag an ig)), ((q 2), aI g 600 bs), ((q 3), aI g 2 ru), ((q 4), aI g 12 rs), ((q 5), aI g 480 rt), ((q 14), aI g 620 tg), ((q 15), aI g 620 tl), ((q 16), aI g 620 on), ((q 17), aI g 620 tw), ((q 27), aI g 160 fl), ((q 28), aI g 160 pl), ((q 29), aI g 160 na), ((q 30), aI g 160 ty), ((q 31), aI g 160 ca), ((q 32), aI g 160 sk), ((q 33), aI g 160 lo), ((q 34), aI g 160 bg), ((q 35), aI g 160 ln), ((q 36), aI g 160 xf), ((q 37), aI g 160 xt)]) (wc := [(h0, .inr (10, mob q rf n mm mb fa fp av ev wi mn tp tc sc nf fd me mp xn mt wh tq ag an ig)), ((q 2), aI g 600 bs), ((q 3), aI g 2 ru), ((q 4), aI g 12 rs), ((q 5), aI g 480 rt), ((q 16), aI g 620 on), ((q 17), aI g 620 tw)]) (As := [.int (nI jx), .int 0]) (rest := []) E hB hK hZ (g_Mod_begins l g H.size h0 q rf n mm mb fa fp av ev wi mn tp tc sc nf fd me mp xn mt wh tq ag an ig bs ru rs rt on tw jx 0 px lx (by omega) x5c x6c x7c hru hrs (by decide)) mc_Mod_begins mi_Mod_begins me_Mod_begins wd_1587 hP hD hS hA [0, 1, 2, 3, 4, 7, 8] rfl (by decide) 0 rfl rfl rfl rfl rfl (by decide) rfl hl.1 rfl (Nat.le_of_ble_eq_true rfl) (by decide) d_Mod_judge_38) (fun r1 hr1 => ?_)
    have hB1 := hr1
    refine lv_if_eq (tgt := 54) hx hb d_Mod_judge_41 (by decide) (fun h41 => ?_) (fun h41 => ?_)
    · refine lv_iconst (v := 1) hx hb d_Mod_judge_54 (by decide) ?_
      refine lv_istore_n hx hb d_Mod_judge_55 rfl hl (by decide) rfl (fun ls hl => ?_)
      have hl : lv_has ls 2 [(1, .int 1), (0, .ref h0)] := hl
      have loop56 : ∀ (kq : Nat) (k : Nat) (fa9 : Int32) (fp9 : Int32) (ls : Array Slot) (H : Heap) (locs : List Loc) , mn - k = kq → (hc9 : fa9 = 0 → fa = 0) → (huk : k ≤ 700) → (hk1 : 1 ≤ k) → lv_has ls 2 [(1, .int (nI k)), (0, .ref h0)] → va_P g.1 classes [(h0, .inr (10, mob q rf n mm mb fa9 fp9 av ev wi mn tp tc sc nf fd me mp xn mt wh tq ag an ig)), ((q 2), aI g 600 bs), ((q 3), aI g 2 ru), ((q 4), aI g 12 rs), ((q 5), aI g 480 rt), ((q 14), aI g 620 tg), ((q 15), aI g 620 tl), ((q 16), aI g 620 on), ((q 17), aI g 620 tw), ((q 27), aI g 160 fl), ((q 28), aI g 160 pl), ((q 29), aI g 160 na), ((q 30), aI g 160 ty), ((q 31), aI g 160 ca), ((q 32), aI g 160 sk), ((q 33), aI g 160 lo), ((q 34), aI g 160 bg), ((q 35), aI g 160 ln), ((q 36), aI g 160 xf), ((q 37), aI g 160 xt)] H → va_D A [(h0, .inr (10, mob q rf n mm mb fa9 fp9 av ev wi mn tp tc sc nf fd me mp xn mt wh tq ag an ig)), ((q 2), aI g 600 bs), ((q 3), aI g 2 ru), ((q 4), aI g 12 rs), ((q 5), aI g 480 rt), ((q 14), aI g 620 tg), ((q 15), aI g 620 tl), ((q 16), aI g 620 on), ((q 17), aI g 620 tw), ((q 27), aI g 160 fl), ((q 28), aI g 160 pl), ((q 29), aI g 160 na), ((q 30), aI g 160 ty), ((q 31), aI g 160 ca), ((q 32), aI g 160 sk), ((q 33), aI g 160 lo), ((q 34), aI g 160 bg), ((q 35), aI g 160 ln), ((q 36), aI g 160 xf), ((q 37), aI g 160 xt)] → va_S A s.heap H locs → W p l e ({ frames := 1, cells := 0, slots := 0, locals := 26 }) s m [.ref h0].toArray below meth c H locs 0 0 (MQ below (tw_Qv g (fun (u : Int32 × Int32) => (u.1 = 0 → fa = 0) ∧ (u.1 = 0 → ∀ j, fd ≤ j → j < me → ¬ ca j ≤ 0 → SL64 sk lo j)) (fun u : Int32 × Int32 => [(h0, .inr (10, mob q rf n mm mb u.1 u.2 av ev wi mn tp tc sc nf fd me mp xn mt wh tq ag an ig)), ((q 2), aI g 600 bs), ((q 3), aI g 2 ru), ((q 4), aI g 12 rs), ((q 5), aI g 480 rt), ((q 14), aI g 620 tg), ((q 15), aI g 620 tl), ((q 16), aI g 620 on), ((q 17), aI g 620 tw), ((q 27), aI g 160 fl), ((q 28), aI g 160 pl), ((q 29), aI g 160 na), ((q 30), aI g 160 ty), ((q 31), aI g 160 ca), ((q 32), aI g 160 sk), ((q 33), aI g 160 lo), ((q 34), aI g 160 bg), ((q 35), aI g 160 ln), ((q 36), aI g 160 xf), ((q 37), aI g 160 xt)]) A) [.ref h0].toArray s 0 0 A) (F0 m 56 ls []) := by
        intro kq
        induction kq using Nat.strongRecOn with
        | _ kq ih =>
          intro k fa9 fp9 ls H locs hk hc9 huk hk1 hl hP hD hS
          refine lv_iload_n hx hb d_Mod_judge_56 rfl (lv_at hl 0 rfl) ?_
          refine lv_aload_n hx hb d_Mod_judge_57 rfl (lv_at hl 1 rfl) ?_
          refine va_get (D := g.1) (ci := 10) (v := .int (nI mn)) (C := R_Mod) (T := F_Mod) (N := 61) hx hb hts in_Mod hown hK hP 0 rfl rfl 13 (by decide) (hts _ wd_1263) (fun _ h9 => h9) rfl d_Mod_judge_58 ?_
          refine lv_icmp_ge (tgt := 157) hx hb d_Mod_judge_61 (by decide) (fun h61 => ?_) (fun h61 => ?_)
          · have h61 := tn_le h61 (by omega) (by omega)
            refine lv_aload_n hx hb d_Mod_judge_157 rfl (lv_at hl 1 rfl) ?_
            refine va_get (D := g.1) (ci := 10) (v := .int (nI fd)) (C := R_Mod) (T := F_Mod) (N := 61) hx hb hts in_Mod hown hK hP 0 rfl rfl 24 (by decide) (hts _ wd_1274) (fun _ h9 => h9) rfl d_Mod_judge_158 ?_
            refine lv_istore_n hx hb d_Mod_judge_161 rfl hl (by decide) rfl (fun ls hl => ?_)
            have hl : lv_has ls 2 [(1, .int (nI fd)), (0, .ref h0)] := hl
            have loop162 : ∀ (kq : Nat) (i : Nat) (fa8 : Int32) (fp8 : Int32) (ls : Array Slot) (H : Heap) (locs : List Loc) , me - i = kq → (hc8 : fa8 = 0 → fa9 = 0) → (hui : i ≤ 700) → (hfi : fd ≤ i) → (hJGk : fa8 = 0 → ∀ j, fd ≤ j → j < i → ¬ ca j ≤ 0 → SL64 sk lo j) → lv_has ls 2 [(1, .int (nI i)), (0, .ref h0)] → va_P g.1 classes [(h0, .inr (10, mob q rf n mm mb fa8 fp8 av ev wi mn tp tc sc nf fd me mp xn mt wh tq ag an ig)), ((q 2), aI g 600 bs), ((q 3), aI g 2 ru), ((q 4), aI g 12 rs), ((q 5), aI g 480 rt), ((q 14), aI g 620 tg), ((q 15), aI g 620 tl), ((q 16), aI g 620 on), ((q 17), aI g 620 tw), ((q 27), aI g 160 fl), ((q 28), aI g 160 pl), ((q 29), aI g 160 na), ((q 30), aI g 160 ty), ((q 31), aI g 160 ca), ((q 32), aI g 160 sk), ((q 33), aI g 160 lo), ((q 34), aI g 160 bg), ((q 35), aI g 160 ln), ((q 36), aI g 160 xf), ((q 37), aI g 160 xt)] H → va_D A [(h0, .inr (10, mob q rf n mm mb fa8 fp8 av ev wi mn tp tc sc nf fd me mp xn mt wh tq ag an ig)), ((q 2), aI g 600 bs), ((q 3), aI g 2 ru), ((q 4), aI g 12 rs), ((q 5), aI g 480 rt), ((q 14), aI g 620 tg), ((q 15), aI g 620 tl), ((q 16), aI g 620 on), ((q 17), aI g 620 tw), ((q 27), aI g 160 fl), ((q 28), aI g 160 pl), ((q 29), aI g 160 na), ((q 30), aI g 160 ty), ((q 31), aI g 160 ca), ((q 32), aI g 160 sk), ((q 33), aI g 160 lo), ((q 34), aI g 160 bg), ((q 35), aI g 160 ln), ((q 36), aI g 160 xf), ((q 37), aI g 160 xt)] → va_S A s.heap H locs → W p l e ({ frames := 1, cells := 0, slots := 0, locals := 26 }) s m [.ref h0].toArray below meth c H locs 0 0 (MQ below (tw_Qv g (fun (u : Int32 × Int32) => (u.1 = 0 → fa = 0) ∧ (u.1 = 0 → ∀ j, fd ≤ j → j < me → ¬ ca j ≤ 0 → SL64 sk lo j)) (fun u : Int32 × Int32 => [(h0, .inr (10, mob q rf n mm mb u.1 u.2 av ev wi mn tp tc sc nf fd me mp xn mt wh tq ag an ig)), ((q 2), aI g 600 bs), ((q 3), aI g 2 ru), ((q 4), aI g 12 rs), ((q 5), aI g 480 rt), ((q 14), aI g 620 tg), ((q 15), aI g 620 tl), ((q 16), aI g 620 on), ((q 17), aI g 620 tw), ((q 27), aI g 160 fl), ((q 28), aI g 160 pl), ((q 29), aI g 160 na), ((q 30), aI g 160 ty), ((q 31), aI g 160 ca), ((q 32), aI g 160 sk), ((q 33), aI g 160 lo), ((q 34), aI g 160 bg), ((q 35), aI g 160 ln), ((q 36), aI g 160 xf), ((q 37), aI g 160 xt)]) A) [.ref h0].toArray s 0 0 A) (F0 m 162 ls []) := by
              intro kq
              induction kq using Nat.strongRecOn with
              | _ kq ih162 =>
                intro i fa8 fp8 ls H locs hk162 hc8 hui hfi hJGk hl hP hD hS
                refine lv_iload_n hx hb d_Mod_judge_162 rfl (lv_at hl 0 rfl) ?_
                refine lv_aload_n hx hb d_Mod_judge_163 rfl (lv_at hl 1 rfl) ?_
                refine va_get (D := g.1) (ci := 10) (v := .int (nI me)) (C := R_Mod) (T := F_Mod) (N := 61) hx hb hts in_Mod hown hK hP 0 rfl rfl 25 (by decide) (hts _ wd_1275) (fun _ h9 => h9) rfl d_Mod_judge_164 ?_
                refine lv_icmp_ge (tgt := 290) hx hb d_Mod_judge_167 (by decide) (fun h167 => ?_) (fun h167 => ?_)
                · have h167 := tn_le h167 (by omega) (by omega)
                  exact tw_vret E hS (fa8, fp8) (⟨(fun _ => hf0), (fun hz => by have hz2 := hc8 hz; have hz3 := hc9 hz2; have hz4 := hJGk hz; exact fun j h1 h2 h9 => hz4 j h1 (by omega) h9)⟩) hP hD d_Mod_judge_290
                · have h167 := tn_nle h167 (by omega) (by omega)
                  refine lv_aload_n hx hb d_Mod_judge_170 rfl (lv_at hl 1 rfl) ?_
                  refine va_get (D := g.1) (ci := 10) (v := .int fa8) (C := R_Mod) (T := F_Mod) (N := 61) hx hb hts in_Mod hown hK hP 0 rfl rfl 8 (by decide) (hts _ wd_1258) (fun _ h9 => h9) rfl d_Mod_judge_171 ?_
                  refine lv_if_ne (tgt := 290) hx hb d_Mod_judge_174 (by decide) (fun h174 => ?_) (fun h174 => ?_)
                  · exact tw_vret E hS (fa8, fp8) (⟨(fun h => absurd h h174), (fun h => absurd h h174)⟩) hP hD d_Mod_judge_290
                  · have hz5 := hc8 h174
                    have hz6 := hc9 hz5
                    have hz7 := hJGk h174
                    refine lv_aload_n hx hb d_Mod_judge_177 rfl (lv_at hl 1 rfl) ?_
                    refine va_get (D := g.1) (ci := 10) (v := .ref (q 27)) (C := R_Mod) (T := F_Mod) (N := 61) hx hb hts in_Mod hown hK hP 0 rfl rfl 27 (by decide) (hts _ wd_1277) (fun _ h9 => h9) rfl d_Mod_judge_178 ?_
                    refine lv_iload_n hx hb d_Mod_judge_181 rfl (lv_at hl 0 rfl) ?_
                    refine va_iald hx hb hK hP 9 0 rfl rfl (vp_in_nI (by omega) (by decide)) d_Mod_judge_182 ?_
                    obtain ⟨x8, ex8⟩ : ∃ z : Int32, fl ((nI i).toNatClampNeg) = z := ⟨_, rfl⟩
                    refine tw_ri (e2 := x8) ex8 ?_
                    refine lv_sipush (v := 256) hx hb d_Mod_judge_183 (by decide) ?_
                    refine lv_iand hx hb d_Mod_judge_186 ?_
                    obtain ⟨x9, ex9⟩ : ∃ z : Int32, x8 &&& 256 = z := ⟨_, rfl⟩
                    refine tw_ri (e2 := x9) ex9 ?_
                    refine lv_if_eq (tgt := 205) hx hb d_Mod_judge_187 (by decide) (fun h187 => ?_) (fun h187 => ?_)
                    · refine lv_aload_n hx hb d_Mod_judge_205 rfl (lv_at hl 1 rfl) ?_
                      refine lv_iload_n hx hb d_Mod_judge_206 rfl (lv_at hl 0 rfl) ?_
                      refine tw_si (tw_runV (ws := [(h0, .inr (10, mob q rf n mm mb fa8 fp8 av ev wi mn tp tc sc nf fd me mp xn mt wh tq ag an ig)), ((q 2), aI g 600 bs), ((q 3), aI g 2 ru), ((q 4), aI g 12 rs), ((q 5), aI g 480 rt), ((q 14), aI g 620 tg), ((q 15), aI g 620 tl), ((q 16), aI g 620 on), ((q 17), aI g 620 tw), ((q 27), aI g 160 fl), ((q 28), aI g 160 pl), ((q 29), aI g 160 na), ((q 30), aI g 160 ty), ((q 31), aI g 160 ca), ((q 32), aI g 160 sk), ((q 33), aI g 160 lo), ((q 34), aI g 160 bg), ((q 35), aI g 160 ln), ((q 36), aI g 160 xf), ((q 37), aI g 160 xt)]) (wc := [(h0, .inr (10, mob q rf n mm mb fa8 fp8 av ev wi mn tp tc sc nf fd me mp xn mt wh tq ag an ig)), ((q 2), aI g 600 bs), ((q 14), aI g 620 tg), ((q 16), aI g 620 on), ((q 17), aI g 620 tw), ((q 29), aI g 160 na), ((q 30), aI g 160 ty)]) (As := [.int (nI i)]) (rest := []) E hB hK hZ (g_Mod_isFinalizer l g H.size h0 q rf n mm mb fa8 fp8 av ev wi mn tp tc sc nf fd me mp xn mt wh tq ag an ig bs tg on tw na ty i (by omega) hTX (by omega) (hLMA i (by omega))) mc_Mod_isFinalizer mi_Mod_isFinalizer me_Mod_isFinalizer wd_1591 hP hD hS hA [0, 1, 5, 7, 8, 11, 12] rfl (by decide) 0 rfl rfl rfl rfl rfl (by decide) rfl hl.1 rfl (Nat.le_of_ble_eq_true rfl) (by decide) d_Mod_judge_207) (fun r10 hr10 => ?_)
                      have hB10 := hr10
                      refine lv_if_eq (tgt := 228) hx hb d_Mod_judge_210 (by decide) (fun h210 => ?_) (fun h210 => ?_)
                      · refine lv_aload_n hx hb d_Mod_judge_228 rfl (lv_at hl 1 rfl) ?_
                        refine va_get (D := g.1) (ci := 10) (v := .ref (q 31)) (C := R_Mod) (T := F_Mod) (N := 61) hx hb hts in_Mod hown hK hP 0 rfl rfl 31 (by decide) (hts _ wd_1281) (fun _ h9 => h9) rfl d_Mod_judge_229 ?_
                        refine lv_iload_n hx hb d_Mod_judge_232 rfl (lv_at hl 0 rfl) ?_
                        refine va_iald hx hb hK hP 13 0 rfl rfl (vp_in_nI (by omega) (by decide)) d_Mod_judge_233 ?_
                        refine tw_ri (e2 := ca i) (by rw [nI_clamp (by omega)]) ?_
                        refine lv_if_le (tgt := 284) hx hb d_Mod_judge_234 (by decide) (fun h234 => ?_) (fun h234 => ?_)
                        · refine lv_iinc (k := 0) (v := nI (i + 1)) hx hb d_Mod_judge_284 hl rfl ((nI_succ i).symm) (by decide) rfl (fun ls hl => ?_)
                          have hl : lv_has ls 2 [(1, .int (nI (i + 1))), (0, .ref h0)] := hl
                          refine lv_goto (tgt := 162) hx hb d_Mod_judge_287 (by decide) ?_
                          have hP : va_P g.1 classes [(h0, .inr (10, mob q rf n mm mb fa8 fp8 av ev wi mn tp tc sc nf fd me mp xn mt wh tq ag an ig)), ((q 2), aI g 600 bs), ((q 3), aI g 2 ru), ((q 4), aI g 12 rs), ((q 5), aI g 480 rt), ((q 14), aI g 620 tg), ((q 15), aI g 620 tl), ((q 16), aI g 620 on), ((q 17), aI g 620 tw), ((q 27), aI g 160 fl), ((q 28), aI g 160 pl), ((q 29), aI g 160 na), ((q 30), aI g 160 ty), ((q 31), aI g 160 ca), ((q 32), aI g 160 sk), ((q 33), aI g 160 lo), ((q 34), aI g 160 bg), ((q 35), aI g 160 ln), ((q 36), aI g 160 xf), ((q 37), aI g 160 xt)] H := hP.sub [0, 1, 2, 3, 4, 5, 6, 7, 8, 9, 10, 11, 12, 13, 14, 15, 16, 17, 18, 19] rfl
                          have hD : va_D A [(h0, .inr (10, mob q rf n mm mb fa8 fp8 av ev wi mn tp tc sc nf fd me mp xn mt wh tq ag an ig)), ((q 2), aI g 600 bs), ((q 3), aI g 2 ru), ((q 4), aI g 12 rs), ((q 5), aI g 480 rt), ((q 14), aI g 620 tg), ((q 15), aI g 620 tl), ((q 16), aI g 620 on), ((q 17), aI g 620 tw), ((q 27), aI g 160 fl), ((q 28), aI g 160 pl), ((q 29), aI g 160 na), ((q 30), aI g 160 ty), ((q 31), aI g 160 ca), ((q 32), aI g 160 sk), ((q 33), aI g 160 lo), ((q 34), aI g 160 bg), ((q 35), aI g 160 ln), ((q 36), aI g 160 xf), ((q 37), aI g 160 xt)] := hD.sub [0, 1, 2, 3, 4, 5, 6, 7, 8, 9, 10, 11, 12, 13, 14, 15, 16, 17, 18, 19] (by decide) rfl
                          exact ih162 _ (by omega) (i + 1) fa8 fp8 ls _ _ rfl (fun _ => hz5) (by omega) (by omega) (fun _ => by exact fun j h1 h2 h9 => by by_cases ej : j = i; (rw [ej] at h9 ⊢; exact absurd h234 h9); (exact hz7 j h1 (by omega) h9)) (lv_sub hl [0, 1] rfl) hP hD hS
                        · obtain ⟨b9, l9, s1, o1, z1, z2, g1, g2, g3, g4, g5, g6, g7, g8, g9, g10, g11, g12⟩ := rl_cdx (hAMM i (by omega)) h234
                          refine lv_aload_n hx hb d_Mod_judge_237 rfl (lv_at hl 1 rfl) ?_
                          refine va_get (D := g.1) (ci := 10) (v := .ref (q 35)) (C := R_Mod) (T := F_Mod) (N := 61) hx hb hts in_Mod hown hK hP 0 rfl rfl 35 (by decide) (hts _ wd_1285) (fun _ h9 => h9) rfl d_Mod_judge_238 ?_
                          refine lv_iload_n hx hb d_Mod_judge_241 rfl (lv_at hl 0 rfl) ?_
                          refine va_iald hx hb hK hP 17 0 rfl rfl (vp_in_nI (by omega) (by decide)) d_Mod_judge_242 ?_
                          refine tw_ri (e2 := nI l9) (by rw [nI_clamp (by omega)]; exact g2) ?_
                          refine lv_aload_n hx hb d_Mod_judge_243 rfl (lv_at hl 1 rfl) ?_
                          refine va_get (D := g.1) (ci := 10) (v := .int mb) (C := R_Mod) (T := F_Mod) (N := 61) hx hb hts in_Mod hown hK hP 0 rfl rfl 7 (by decide) (hts _ wd_1257) (fun _ h9 => h9) rfl d_Mod_judge_244 ?_
                          refine lv_icmp_gt (tgt := 272) hx hb d_Mod_judge_247 (by decide) (fun h247 => ?_) (fun h247 => ?_)
                          · refine lv_aload_n hx hb d_Mod_judge_272 rfl (lv_at hl 1 rfl) ?_
                            refine lv_bipush (v := 13) hx hb d_Mod_judge_273 (by decide) ?_
                            refine lv_aload_n hx hb d_Mod_judge_275 rfl (lv_at hl 1 rfl) ?_
                            refine va_get (D := g.1) (ci := 10) (v := .ref (q 28)) (C := R_Mod) (T := F_Mod) (N := 61) hx hb hts in_Mod hown hK hP 0 rfl rfl 28 (by decide) (hts _ wd_1278) (fun _ h9 => h9) rfl d_Mod_judge_276 ?_
                            refine lv_iload_n hx hb d_Mod_judge_279 rfl (lv_at hl 0 rfl) ?_
                            refine va_iald hx hb hK hP 10 0 rfl rfl (vp_in_nI (by omega) (by decide)) d_Mod_judge_280 ?_
                            obtain ⟨x11, ex11⟩ : ∃ z : Int32, pl ((nI i).toNatClampNeg) = z := ⟨_, rfl⟩
                            refine tw_ri (e2 := x11) ex11 ?_
                            refine tw_wv (wr := [((q 2), aI g 600 bs), ((q 3), aI g 2 ru), ((q 4), aI g 12 rs), ((q 5), aI g 480 rt), ((q 14), aI g 620 tg), ((q 15), aI g 620 tl), ((q 16), aI g 620 on), ((q 17), aI g 620 tw), ((q 27), aI g 160 fl), ((q 28), aI g 160 pl), ((q 29), aI g 160 na), ((q 30), aI g 160 ty), ((q 31), aI g 160 ca), ((q 32), aI g 160 sk), ((q 33), aI g 160 lo), ((q 34), aI g 160 bg), ((q 35), aI g 160 ln), ((q 36), aI g 160 xf), ((q 37), aI g 160 xt)]) (tw_runV (ws := [(h0, .inr (10, mob q rf n mm mb fa8 fp8 av ev wi mn tp tc sc nf fd me mp xn mt wh tq ag an ig)), ((q 2), aI g 600 bs), ((q 3), aI g 2 ru), ((q 4), aI g 12 rs), ((q 5), aI g 480 rt), ((q 14), aI g 620 tg), ((q 15), aI g 620 tl), ((q 16), aI g 620 on), ((q 17), aI g 620 tw), ((q 27), aI g 160 fl), ((q 28), aI g 160 pl), ((q 29), aI g 160 na), ((q 30), aI g 160 ty), ((q 31), aI g 160 ca), ((q 32), aI g 160 sk), ((q 33), aI g 160 lo), ((q 34), aI g 160 bg), ((q 35), aI g 160 ln), ((q 36), aI g 160 xf), ((q 37), aI g 160 xt)]) (wc := [(h0, .inr (10, mob q rf n mm mb fa8 fp8 av ev wi mn tp tc sc nf fd me mp xn mt wh tq ag an ig))]) (As := [.int 13, .int x11]) (rest := []) E hB hK hZ (g_Mod_fail l g H.size h0 q rf n mm mb av ev wi mn tp tc sc nf fd me mp xn mt wh tq ag an ig fa8 fp8 13 x11 (by decide)) mc_Mod_fail mi_Mod_fail me_Mod_fail wd_1478 hP hD hS hA [0] rfl (by decide) 0 rfl rfl rfl rfl rfl (by decide) rfl hl.1 rfl (Nat.le_of_ble_eq_true rfl) (by decide) d_Mod_judge_281) hP hD hS hA [0] [1, 2, 3, 4, 5, 6, 7, 8, 9, 10, 11, 12, 13, 14, 15, 16, 17, 18, 19] rfl rfl (by decide) (by decide) (fun u13 H locs hr12 hP hD hS => ?_)
                            try dsimp only at hr12
                            have hP : va_P g.1 classes [((q 2), aI g 600 bs), ((q 3), aI g 2 ru), ((q 4), aI g 12 rs), ((q 5), aI g 480 rt), ((q 14), aI g 620 tg), ((q 15), aI g 620 tl), ((q 16), aI g 620 on), ((q 17), aI g 620 tw), ((q 27), aI g 160 fl), ((q 28), aI g 160 pl), ((q 29), aI g 160 na), ((q 30), aI g 160 ty), ((q 31), aI g 160 ca), ((q 32), aI g 160 sk), ((q 33), aI g 160 lo), ((q 34), aI g 160 bg), ((q 35), aI g 160 ln), ((q 36), aI g 160 xf), ((q 37), aI g 160 xt), (h0, .inr (10, mob q rf n mm mb u13.1 u13.2 av ev wi mn tp tc sc nf fd me mp xn mt wh tq ag an ig))] H := hP
                            have hD : va_D A [((q 2), aI g 600 bs), ((q 3), aI g 2 ru), ((q 4), aI g 12 rs), ((q 5), aI g 480 rt), ((q 14), aI g 620 tg), ((q 15), aI g 620 tl), ((q 16), aI g 620 on), ((q 17), aI g 620 tw), ((q 27), aI g 160 fl), ((q 28), aI g 160 pl), ((q 29), aI g 160 na), ((q 30), aI g 160 ty), ((q 31), aI g 160 ca), ((q 32), aI g 160 sk), ((q 33), aI g 160 lo), ((q 34), aI g 160 bg), ((q 35), aI g 160 ln), ((q 36), aI g 160 xf), ((q 37), aI g 160 xt), (h0, .inr (10, mob q rf n mm mb u13.1 u13.2 av ev wi mn tp tc sc nf fd me mp xn mt wh tq ag an ig))] := hD
                            have hP : va_P g.1 classes [(h0, .inr (10, mob q rf n mm mb u13.1 u13.2 av ev wi mn tp tc sc nf fd me mp xn mt wh tq ag an ig)), ((q 2), aI g 600 bs), ((q 3), aI g 2 ru), ((q 4), aI g 12 rs), ((q 5), aI g 480 rt), ((q 14), aI g 620 tg), ((q 15), aI g 620 tl), ((q 16), aI g 620 on), ((q 17), aI g 620 tw), ((q 27), aI g 160 fl), ((q 28), aI g 160 pl), ((q 29), aI g 160 na), ((q 30), aI g 160 ty), ((q 31), aI g 160 ca), ((q 32), aI g 160 sk), ((q 33), aI g 160 lo), ((q 34), aI g 160 bg), ((q 35), aI g 160 ln), ((q 36), aI g 160 xf), ((q 37), aI g 160 xt)] H := hP.sub [19, 0, 1, 2, 3, 4, 5, 6, 7, 8, 9, 10, 11, 12, 13, 14, 15, 16, 17, 18] rfl
                            have hD : va_D A [(h0, .inr (10, mob q rf n mm mb u13.1 u13.2 av ev wi mn tp tc sc nf fd me mp xn mt wh tq ag an ig)), ((q 2), aI g 600 bs), ((q 3), aI g 2 ru), ((q 4), aI g 12 rs), ((q 5), aI g 480 rt), ((q 14), aI g 620 tg), ((q 15), aI g 620 tl), ((q 16), aI g 620 on), ((q 17), aI g 620 tw), ((q 27), aI g 160 fl), ((q 28), aI g 160 pl), ((q 29), aI g 160 na), ((q 30), aI g 160 ty), ((q 31), aI g 160 ca), ((q 32), aI g 160 sk), ((q 33), aI g 160 lo), ((q 34), aI g 160 bg), ((q 35), aI g 160 ln), ((q 36), aI g 160 xf), ((q 37), aI g 160 xt)] := hD.sub [19, 0, 1, 2, 3, 4, 5, 6, 7, 8, 9, 10, 11, 12, 13, 14, 15, 16, 17, 18] (by decide) rfl
                            have hp13_0 := hr12
                            refine lv_iinc (k := 0) (v := nI (i + 1)) hx hb d_Mod_judge_284 hl rfl ((nI_succ i).symm) (by decide) rfl (fun ls hl => ?_)
                            have hl : lv_has ls 2 [(1, .int (nI (i + 1))), (0, .ref h0)] := hl
                            refine lv_goto (tgt := 162) hx hb d_Mod_judge_287 (by decide) ?_
                            have hP : va_P g.1 classes [(h0, .inr (10, mob q rf n mm mb u13.1 u13.2 av ev wi mn tp tc sc nf fd me mp xn mt wh tq ag an ig)), ((q 2), aI g 600 bs), ((q 3), aI g 2 ru), ((q 4), aI g 12 rs), ((q 5), aI g 480 rt), ((q 14), aI g 620 tg), ((q 15), aI g 620 tl), ((q 16), aI g 620 on), ((q 17), aI g 620 tw), ((q 27), aI g 160 fl), ((q 28), aI g 160 pl), ((q 29), aI g 160 na), ((q 30), aI g 160 ty), ((q 31), aI g 160 ca), ((q 32), aI g 160 sk), ((q 33), aI g 160 lo), ((q 34), aI g 160 bg), ((q 35), aI g 160 ln), ((q 36), aI g 160 xf), ((q 37), aI g 160 xt)] H := hP.sub [0, 1, 2, 3, 4, 5, 6, 7, 8, 9, 10, 11, 12, 13, 14, 15, 16, 17, 18, 19] rfl
                            have hD : va_D A [(h0, .inr (10, mob q rf n mm mb u13.1 u13.2 av ev wi mn tp tc sc nf fd me mp xn mt wh tq ag an ig)), ((q 2), aI g 600 bs), ((q 3), aI g 2 ru), ((q 4), aI g 12 rs), ((q 5), aI g 480 rt), ((q 14), aI g 620 tg), ((q 15), aI g 620 tl), ((q 16), aI g 620 on), ((q 17), aI g 620 tw), ((q 27), aI g 160 fl), ((q 28), aI g 160 pl), ((q 29), aI g 160 na), ((q 30), aI g 160 ty), ((q 31), aI g 160 ca), ((q 32), aI g 160 sk), ((q 33), aI g 160 lo), ((q 34), aI g 160 bg), ((q 35), aI g 160 ln), ((q 36), aI g 160 xf), ((q 37), aI g 160 xt)] := hD.sub [0, 1, 2, 3, 4, 5, 6, 7, 8, 9, 10, 11, 12, 13, 14, 15, 16, 17, 18, 19] (by decide) rfl
                            exact ih162 _ (by omega) (i + 1) u13.1 u13.2 ls _ _ rfl (fun h => absurd h hp13_0) (by omega) (by omega) (fun h => absurd h hp13_0) (lv_sub hl [0, 1] rfl) hP hD hS
                          · refine lv_aload_n hx hb d_Mod_judge_250 rfl (lv_at hl 1 rfl) ?_
                            refine va_get (D := g.1) (ci := 10) (v := .ref (q 32)) (C := R_Mod) (T := F_Mod) (N := 61) hx hb hts in_Mod hown hK hP 0 rfl rfl 32 (by decide) (hts _ wd_1282) (fun _ h9 => h9) rfl d_Mod_judge_251 ?_
                            refine lv_iload_n hx hb d_Mod_judge_254 rfl (lv_at hl 0 rfl) ?_
                            refine va_iald hx hb hK hP 14 0 rfl rfl (vp_in_nI (by omega) (by decide)) d_Mod_judge_255 ?_
                            refine tw_ri (e2 := nI s1) (by rw [nI_clamp (by omega)]; exact g5) ?_
                            refine lv_bipush (v := 64) hx hb d_Mod_judge_256 (by decide) ?_
                            refine lv_icmp_gt (tgt := 272) hx hb d_Mod_judge_258 (by decide) (fun h258 => ?_) (fun h258 => ?_)
                            · refine lv_aload_n hx hb d_Mod_judge_272 rfl (lv_at hl 1 rfl) ?_
                              refine lv_bipush (v := 13) hx hb d_Mod_judge_273 (by decide) ?_
                              refine lv_aload_n hx hb d_Mod_judge_275 rfl (lv_at hl 1 rfl) ?_
                              refine va_get (D := g.1) (ci := 10) (v := .ref (q 28)) (C := R_Mod) (T := F_Mod) (N := 61) hx hb hts in_Mod hown hK hP 0 rfl rfl 28 (by decide) (hts _ wd_1278) (fun _ h9 => h9) rfl d_Mod_judge_276 ?_
                              refine lv_iload_n hx hb d_Mod_judge_279 rfl (lv_at hl 0 rfl) ?_
                              refine va_iald hx hb hK hP 10 0 rfl rfl (vp_in_nI (by omega) (by decide)) d_Mod_judge_280 ?_
                              obtain ⟨x14, ex14⟩ : ∃ z : Int32, pl ((nI i).toNatClampNeg) = z := ⟨_, rfl⟩
                              refine tw_ri (e2 := x14) ex14 ?_
                              refine tw_wv (wr := [((q 2), aI g 600 bs), ((q 3), aI g 2 ru), ((q 4), aI g 12 rs), ((q 5), aI g 480 rt), ((q 14), aI g 620 tg), ((q 15), aI g 620 tl), ((q 16), aI g 620 on), ((q 17), aI g 620 tw), ((q 27), aI g 160 fl), ((q 28), aI g 160 pl), ((q 29), aI g 160 na), ((q 30), aI g 160 ty), ((q 31), aI g 160 ca), ((q 32), aI g 160 sk), ((q 33), aI g 160 lo), ((q 34), aI g 160 bg), ((q 35), aI g 160 ln), ((q 36), aI g 160 xf), ((q 37), aI g 160 xt)]) (tw_runV (ws := [(h0, .inr (10, mob q rf n mm mb fa8 fp8 av ev wi mn tp tc sc nf fd me mp xn mt wh tq ag an ig)), ((q 2), aI g 600 bs), ((q 3), aI g 2 ru), ((q 4), aI g 12 rs), ((q 5), aI g 480 rt), ((q 14), aI g 620 tg), ((q 15), aI g 620 tl), ((q 16), aI g 620 on), ((q 17), aI g 620 tw), ((q 27), aI g 160 fl), ((q 28), aI g 160 pl), ((q 29), aI g 160 na), ((q 30), aI g 160 ty), ((q 31), aI g 160 ca), ((q 32), aI g 160 sk), ((q 33), aI g 160 lo), ((q 34), aI g 160 bg), ((q 35), aI g 160 ln), ((q 36), aI g 160 xf), ((q 37), aI g 160 xt)]) (wc := [(h0, .inr (10, mob q rf n mm mb fa8 fp8 av ev wi mn tp tc sc nf fd me mp xn mt wh tq ag an ig))]) (As := [.int 13, .int x14]) (rest := []) E hB hK hZ (g_Mod_fail l g H.size h0 q rf n mm mb av ev wi mn tp tc sc nf fd me mp xn mt wh tq ag an ig fa8 fp8 13 x14 (by decide)) mc_Mod_fail mi_Mod_fail me_Mod_fail wd_1478 hP hD hS hA [0] rfl (by decide) 0 rfl rfl rfl rfl rfl (by decide) rfl hl.1 rfl (Nat.le_of_ble_eq_true rfl) (by decide) d_Mod_judge_281) hP hD hS hA [0] [1, 2, 3, 4, 5, 6, 7, 8, 9, 10, 11, 12, 13, 14, 15, 16, 17, 18, 19] rfl rfl (by decide) (by decide) (fun u16 H locs hr15 hP hD hS => ?_)
                              try dsimp only at hr15
                              have hP : va_P g.1 classes [((q 2), aI g 600 bs), ((q 3), aI g 2 ru), ((q 4), aI g 12 rs), ((q 5), aI g 480 rt), ((q 14), aI g 620 tg), ((q 15), aI g 620 tl), ((q 16), aI g 620 on), ((q 17), aI g 620 tw), ((q 27), aI g 160 fl), ((q 28), aI g 160 pl), ((q 29), aI g 160 na), ((q 30), aI g 160 ty), ((q 31), aI g 160 ca), ((q 32), aI g 160 sk), ((q 33), aI g 160 lo), ((q 34), aI g 160 bg), ((q 35), aI g 160 ln), ((q 36), aI g 160 xf), ((q 37), aI g 160 xt), (h0, .inr (10, mob q rf n mm mb u16.1 u16.2 av ev wi mn tp tc sc nf fd me mp xn mt wh tq ag an ig))] H := hP
                              have hD : va_D A [((q 2), aI g 600 bs), ((q 3), aI g 2 ru), ((q 4), aI g 12 rs), ((q 5), aI g 480 rt), ((q 14), aI g 620 tg), ((q 15), aI g 620 tl), ((q 16), aI g 620 on), ((q 17), aI g 620 tw), ((q 27), aI g 160 fl), ((q 28), aI g 160 pl), ((q 29), aI g 160 na), ((q 30), aI g 160 ty), ((q 31), aI g 160 ca), ((q 32), aI g 160 sk), ((q 33), aI g 160 lo), ((q 34), aI g 160 bg), ((q 35), aI g 160 ln), ((q 36), aI g 160 xf), ((q 37), aI g 160 xt), (h0, .inr (10, mob q rf n mm mb u16.1 u16.2 av ev wi mn tp tc sc nf fd me mp xn mt wh tq ag an ig))] := hD
                              have hP : va_P g.1 classes [(h0, .inr (10, mob q rf n mm mb u16.1 u16.2 av ev wi mn tp tc sc nf fd me mp xn mt wh tq ag an ig)), ((q 2), aI g 600 bs), ((q 3), aI g 2 ru), ((q 4), aI g 12 rs), ((q 5), aI g 480 rt), ((q 14), aI g 620 tg), ((q 15), aI g 620 tl), ((q 16), aI g 620 on), ((q 17), aI g 620 tw), ((q 27), aI g 160 fl), ((q 28), aI g 160 pl), ((q 29), aI g 160 na), ((q 30), aI g 160 ty), ((q 31), aI g 160 ca), ((q 32), aI g 160 sk), ((q 33), aI g 160 lo), ((q 34), aI g 160 bg), ((q 35), aI g 160 ln), ((q 36), aI g 160 xf), ((q 37), aI g 160 xt)] H := hP.sub [19, 0, 1, 2, 3, 4, 5, 6, 7, 8, 9, 10, 11, 12, 13, 14, 15, 16, 17, 18] rfl
                              have hD : va_D A [(h0, .inr (10, mob q rf n mm mb u16.1 u16.2 av ev wi mn tp tc sc nf fd me mp xn mt wh tq ag an ig)), ((q 2), aI g 600 bs), ((q 3), aI g 2 ru), ((q 4), aI g 12 rs), ((q 5), aI g 480 rt), ((q 14), aI g 620 tg), ((q 15), aI g 620 tl), ((q 16), aI g 620 on), ((q 17), aI g 620 tw), ((q 27), aI g 160 fl), ((q 28), aI g 160 pl), ((q 29), aI g 160 na), ((q 30), aI g 160 ty), ((q 31), aI g 160 ca), ((q 32), aI g 160 sk), ((q 33), aI g 160 lo), ((q 34), aI g 160 bg), ((q 35), aI g 160 ln), ((q 36), aI g 160 xf), ((q 37), aI g 160 xt)] := hD.sub [19, 0, 1, 2, 3, 4, 5, 6, 7, 8, 9, 10, 11, 12, 13, 14, 15, 16, 17, 18] (by decide) rfl
                              have hp16_0 := hr15
                              refine lv_iinc (k := 0) (v := nI (i + 1)) hx hb d_Mod_judge_284 hl rfl ((nI_succ i).symm) (by decide) rfl (fun ls hl => ?_)
                              have hl : lv_has ls 2 [(1, .int (nI (i + 1))), (0, .ref h0)] := hl
                              refine lv_goto (tgt := 162) hx hb d_Mod_judge_287 (by decide) ?_
                              have hP : va_P g.1 classes [(h0, .inr (10, mob q rf n mm mb u16.1 u16.2 av ev wi mn tp tc sc nf fd me mp xn mt wh tq ag an ig)), ((q 2), aI g 600 bs), ((q 3), aI g 2 ru), ((q 4), aI g 12 rs), ((q 5), aI g 480 rt), ((q 14), aI g 620 tg), ((q 15), aI g 620 tl), ((q 16), aI g 620 on), ((q 17), aI g 620 tw), ((q 27), aI g 160 fl), ((q 28), aI g 160 pl), ((q 29), aI g 160 na), ((q 30), aI g 160 ty), ((q 31), aI g 160 ca), ((q 32), aI g 160 sk), ((q 33), aI g 160 lo), ((q 34), aI g 160 bg), ((q 35), aI g 160 ln), ((q 36), aI g 160 xf), ((q 37), aI g 160 xt)] H := hP.sub [0, 1, 2, 3, 4, 5, 6, 7, 8, 9, 10, 11, 12, 13, 14, 15, 16, 17, 18, 19] rfl
                              have hD : va_D A [(h0, .inr (10, mob q rf n mm mb u16.1 u16.2 av ev wi mn tp tc sc nf fd me mp xn mt wh tq ag an ig)), ((q 2), aI g 600 bs), ((q 3), aI g 2 ru), ((q 4), aI g 12 rs), ((q 5), aI g 480 rt), ((q 14), aI g 620 tg), ((q 15), aI g 620 tl), ((q 16), aI g 620 on), ((q 17), aI g 620 tw), ((q 27), aI g 160 fl), ((q 28), aI g 160 pl), ((q 29), aI g 160 na), ((q 30), aI g 160 ty), ((q 31), aI g 160 ca), ((q 32), aI g 160 sk), ((q 33), aI g 160 lo), ((q 34), aI g 160 bg), ((q 35), aI g 160 ln), ((q 36), aI g 160 xf), ((q 37), aI g 160 xt)] := hD.sub [0, 1, 2, 3, 4, 5, 6, 7, 8, 9, 10, 11, 12, 13, 14, 15, 16, 17, 18, 19] (by decide) rfl
                              exact ih162 _ (by omega) (i + 1) u16.1 u16.2 ls _ _ rfl (fun h => absurd h hp16_0) (by omega) (by omega) (fun h => absurd h hp16_0) (lv_sub hl [0, 1] rfl) hP hD hS
                            · have h258 := tn_nlt (a := 64) h258 (by decide) (by omega)
                              refine lv_aload_n hx hb d_Mod_judge_261 rfl (lv_at hl 1 rfl) ?_
                              refine va_get (D := g.1) (ci := 10) (v := .ref (q 33)) (C := R_Mod) (T := F_Mod) (N := 61) hx hb hts in_Mod hown hK hP 0 rfl rfl 33 (by decide) (hts _ wd_1283) (fun _ h9 => h9) rfl d_Mod_judge_262 ?_
                              refine lv_iload_n hx hb d_Mod_judge_265 rfl (lv_at hl 0 rfl) ?_
                              refine va_iald hx hb hK hP 15 0 rfl rfl (vp_in_nI (by omega) (by decide)) d_Mod_judge_266 ?_
                              refine tw_ri (e2 := nI o1) (by rw [nI_clamp (by omega)]; exact g7) ?_
                              refine lv_bipush (v := 64) hx hb d_Mod_judge_267 (by decide) ?_
                              refine lv_icmp_le (tgt := 284) hx hb d_Mod_judge_269 (by decide) (fun h269 => ?_) (fun h269 => ?_)
                              · have h269 := tn_le (b := 64) h269 (by omega) (by decide)
                                refine lv_iinc (k := 0) (v := nI (i + 1)) hx hb d_Mod_judge_284 hl rfl ((nI_succ i).symm) (by decide) rfl (fun ls hl => ?_)
                                have hl : lv_has ls 2 [(1, .int (nI (i + 1))), (0, .ref h0)] := hl
                                refine lv_goto (tgt := 162) hx hb d_Mod_judge_287 (by decide) ?_
                                have hP : va_P g.1 classes [(h0, .inr (10, mob q rf n mm mb fa8 fp8 av ev wi mn tp tc sc nf fd me mp xn mt wh tq ag an ig)), ((q 2), aI g 600 bs), ((q 3), aI g 2 ru), ((q 4), aI g 12 rs), ((q 5), aI g 480 rt), ((q 14), aI g 620 tg), ((q 15), aI g 620 tl), ((q 16), aI g 620 on), ((q 17), aI g 620 tw), ((q 27), aI g 160 fl), ((q 28), aI g 160 pl), ((q 29), aI g 160 na), ((q 30), aI g 160 ty), ((q 31), aI g 160 ca), ((q 32), aI g 160 sk), ((q 33), aI g 160 lo), ((q 34), aI g 160 bg), ((q 35), aI g 160 ln), ((q 36), aI g 160 xf), ((q 37), aI g 160 xt)] H := hP.sub [0, 1, 2, 3, 4, 5, 6, 7, 8, 9, 10, 11, 12, 13, 14, 15, 16, 17, 18, 19] rfl
                                have hD : va_D A [(h0, .inr (10, mob q rf n mm mb fa8 fp8 av ev wi mn tp tc sc nf fd me mp xn mt wh tq ag an ig)), ((q 2), aI g 600 bs), ((q 3), aI g 2 ru), ((q 4), aI g 12 rs), ((q 5), aI g 480 rt), ((q 14), aI g 620 tg), ((q 15), aI g 620 tl), ((q 16), aI g 620 on), ((q 17), aI g 620 tw), ((q 27), aI g 160 fl), ((q 28), aI g 160 pl), ((q 29), aI g 160 na), ((q 30), aI g 160 ty), ((q 31), aI g 160 ca), ((q 32), aI g 160 sk), ((q 33), aI g 160 lo), ((q 34), aI g 160 bg), ((q 35), aI g 160 ln), ((q 36), aI g 160 xf), ((q 37), aI g 160 xt)] := hD.sub [0, 1, 2, 3, 4, 5, 6, 7, 8, 9, 10, 11, 12, 13, 14, 15, 16, 17, 18, 19] (by decide) rfl
                                exact ih162 _ (by omega) (i + 1) fa8 fp8 ls _ _ rfl (fun _ => hz5) (by omega) (by omega) (fun _ => by exact fun j h1 h2 h9 => by by_cases ej : j = i; (rw [ej] at h9 ⊢; exact ⟨s1, o1, g5, by omega, g7, by omega⟩); (exact hz7 j h1 (by omega) h9)) (lv_sub hl [0, 1] rfl) hP hD hS
                              · refine lv_aload_n hx hb d_Mod_judge_272 rfl (lv_at hl 1 rfl) ?_
                                refine lv_bipush (v := 13) hx hb d_Mod_judge_273 (by decide) ?_
                                refine lv_aload_n hx hb d_Mod_judge_275 rfl (lv_at hl 1 rfl) ?_
                                refine va_get (D := g.1) (ci := 10) (v := .ref (q 28)) (C := R_Mod) (T := F_Mod) (N := 61) hx hb hts in_Mod hown hK hP 0 rfl rfl 28 (by decide) (hts _ wd_1278) (fun _ h9 => h9) rfl d_Mod_judge_276 ?_
                                refine lv_iload_n hx hb d_Mod_judge_279 rfl (lv_at hl 0 rfl) ?_
                                refine va_iald hx hb hK hP 10 0 rfl rfl (vp_in_nI (by omega) (by decide)) d_Mod_judge_280 ?_
                                obtain ⟨x17, ex17⟩ : ∃ z : Int32, pl ((nI i).toNatClampNeg) = z := ⟨_, rfl⟩
                                refine tw_ri (e2 := x17) ex17 ?_
                                refine tw_wv (wr := [((q 2), aI g 600 bs), ((q 3), aI g 2 ru), ((q 4), aI g 12 rs), ((q 5), aI g 480 rt), ((q 14), aI g 620 tg), ((q 15), aI g 620 tl), ((q 16), aI g 620 on), ((q 17), aI g 620 tw), ((q 27), aI g 160 fl), ((q 28), aI g 160 pl), ((q 29), aI g 160 na), ((q 30), aI g 160 ty), ((q 31), aI g 160 ca), ((q 32), aI g 160 sk), ((q 33), aI g 160 lo), ((q 34), aI g 160 bg), ((q 35), aI g 160 ln), ((q 36), aI g 160 xf), ((q 37), aI g 160 xt)]) (tw_runV (ws := [(h0, .inr (10, mob q rf n mm mb fa8 fp8 av ev wi mn tp tc sc nf fd me mp xn mt wh tq ag an ig)), ((q 2), aI g 600 bs), ((q 3), aI g 2 ru), ((q 4), aI g 12 rs), ((q 5), aI g 480 rt), ((q 14), aI g 620 tg), ((q 15), aI g 620 tl), ((q 16), aI g 620 on), ((q 17), aI g 620 tw), ((q 27), aI g 160 fl), ((q 28), aI g 160 pl), ((q 29), aI g 160 na), ((q 30), aI g 160 ty), ((q 31), aI g 160 ca), ((q 32), aI g 160 sk), ((q 33), aI g 160 lo), ((q 34), aI g 160 bg), ((q 35), aI g 160 ln), ((q 36), aI g 160 xf), ((q 37), aI g 160 xt)]) (wc := [(h0, .inr (10, mob q rf n mm mb fa8 fp8 av ev wi mn tp tc sc nf fd me mp xn mt wh tq ag an ig))]) (As := [.int 13, .int x17]) (rest := []) E hB hK hZ (g_Mod_fail l g H.size h0 q rf n mm mb av ev wi mn tp tc sc nf fd me mp xn mt wh tq ag an ig fa8 fp8 13 x17 (by decide)) mc_Mod_fail mi_Mod_fail me_Mod_fail wd_1478 hP hD hS hA [0] rfl (by decide) 0 rfl rfl rfl rfl rfl (by decide) rfl hl.1 rfl (Nat.le_of_ble_eq_true rfl) (by decide) d_Mod_judge_281) hP hD hS hA [0] [1, 2, 3, 4, 5, 6, 7, 8, 9, 10, 11, 12, 13, 14, 15, 16, 17, 18, 19] rfl rfl (by decide) (by decide) (fun u19 H locs hr18 hP hD hS => ?_)
                                try dsimp only at hr18
                                have hP : va_P g.1 classes [((q 2), aI g 600 bs), ((q 3), aI g 2 ru), ((q 4), aI g 12 rs), ((q 5), aI g 480 rt), ((q 14), aI g 620 tg), ((q 15), aI g 620 tl), ((q 16), aI g 620 on), ((q 17), aI g 620 tw), ((q 27), aI g 160 fl), ((q 28), aI g 160 pl), ((q 29), aI g 160 na), ((q 30), aI g 160 ty), ((q 31), aI g 160 ca), ((q 32), aI g 160 sk), ((q 33), aI g 160 lo), ((q 34), aI g 160 bg), ((q 35), aI g 160 ln), ((q 36), aI g 160 xf), ((q 37), aI g 160 xt), (h0, .inr (10, mob q rf n mm mb u19.1 u19.2 av ev wi mn tp tc sc nf fd me mp xn mt wh tq ag an ig))] H := hP
                                have hD : va_D A [((q 2), aI g 600 bs), ((q 3), aI g 2 ru), ((q 4), aI g 12 rs), ((q 5), aI g 480 rt), ((q 14), aI g 620 tg), ((q 15), aI g 620 tl), ((q 16), aI g 620 on), ((q 17), aI g 620 tw), ((q 27), aI g 160 fl), ((q 28), aI g 160 pl), ((q 29), aI g 160 na), ((q 30), aI g 160 ty), ((q 31), aI g 160 ca), ((q 32), aI g 160 sk), ((q 33), aI g 160 lo), ((q 34), aI g 160 bg), ((q 35), aI g 160 ln), ((q 36), aI g 160 xf), ((q 37), aI g 160 xt), (h0, .inr (10, mob q rf n mm mb u19.1 u19.2 av ev wi mn tp tc sc nf fd me mp xn mt wh tq ag an ig))] := hD
                                have hP : va_P g.1 classes [(h0, .inr (10, mob q rf n mm mb u19.1 u19.2 av ev wi mn tp tc sc nf fd me mp xn mt wh tq ag an ig)), ((q 2), aI g 600 bs), ((q 3), aI g 2 ru), ((q 4), aI g 12 rs), ((q 5), aI g 480 rt), ((q 14), aI g 620 tg), ((q 15), aI g 620 tl), ((q 16), aI g 620 on), ((q 17), aI g 620 tw), ((q 27), aI g 160 fl), ((q 28), aI g 160 pl), ((q 29), aI g 160 na), ((q 30), aI g 160 ty), ((q 31), aI g 160 ca), ((q 32), aI g 160 sk), ((q 33), aI g 160 lo), ((q 34), aI g 160 bg), ((q 35), aI g 160 ln), ((q 36), aI g 160 xf), ((q 37), aI g 160 xt)] H := hP.sub [19, 0, 1, 2, 3, 4, 5, 6, 7, 8, 9, 10, 11, 12, 13, 14, 15, 16, 17, 18] rfl
                                have hD : va_D A [(h0, .inr (10, mob q rf n mm mb u19.1 u19.2 av ev wi mn tp tc sc nf fd me mp xn mt wh tq ag an ig)), ((q 2), aI g 600 bs), ((q 3), aI g 2 ru), ((q 4), aI g 12 rs), ((q 5), aI g 480 rt), ((q 14), aI g 620 tg), ((q 15), aI g 620 tl), ((q 16), aI g 620 on), ((q 17), aI g 620 tw), ((q 27), aI g 160 fl), ((q 28), aI g 160 pl), ((q 29), aI g 160 na), ((q 30), aI g 160 ty), ((q 31), aI g 160 ca), ((q 32), aI g 160 sk), ((q 33), aI g 160 lo), ((q 34), aI g 160 bg), ((q 35), aI g 160 ln), ((q 36), aI g 160 xf), ((q 37), aI g 160 xt)] := hD.sub [19, 0, 1, 2, 3, 4, 5, 6, 7, 8, 9, 10, 11, 12, 13, 14, 15, 16, 17, 18] (by decide) rfl
                                have hp19_0 := hr18
                                refine lv_iinc (k := 0) (v := nI (i + 1)) hx hb d_Mod_judge_284 hl rfl ((nI_succ i).symm) (by decide) rfl (fun ls hl => ?_)
                                have hl : lv_has ls 2 [(1, .int (nI (i + 1))), (0, .ref h0)] := hl
                                refine lv_goto (tgt := 162) hx hb d_Mod_judge_287 (by decide) ?_
                                have hP : va_P g.1 classes [(h0, .inr (10, mob q rf n mm mb u19.1 u19.2 av ev wi mn tp tc sc nf fd me mp xn mt wh tq ag an ig)), ((q 2), aI g 600 bs), ((q 3), aI g 2 ru), ((q 4), aI g 12 rs), ((q 5), aI g 480 rt), ((q 14), aI g 620 tg), ((q 15), aI g 620 tl), ((q 16), aI g 620 on), ((q 17), aI g 620 tw), ((q 27), aI g 160 fl), ((q 28), aI g 160 pl), ((q 29), aI g 160 na), ((q 30), aI g 160 ty), ((q 31), aI g 160 ca), ((q 32), aI g 160 sk), ((q 33), aI g 160 lo), ((q 34), aI g 160 bg), ((q 35), aI g 160 ln), ((q 36), aI g 160 xf), ((q 37), aI g 160 xt)] H := hP.sub [0, 1, 2, 3, 4, 5, 6, 7, 8, 9, 10, 11, 12, 13, 14, 15, 16, 17, 18, 19] rfl
                                have hD : va_D A [(h0, .inr (10, mob q rf n mm mb u19.1 u19.2 av ev wi mn tp tc sc nf fd me mp xn mt wh tq ag an ig)), ((q 2), aI g 600 bs), ((q 3), aI g 2 ru), ((q 4), aI g 12 rs), ((q 5), aI g 480 rt), ((q 14), aI g 620 tg), ((q 15), aI g 620 tl), ((q 16), aI g 620 on), ((q 17), aI g 620 tw), ((q 27), aI g 160 fl), ((q 28), aI g 160 pl), ((q 29), aI g 160 na), ((q 30), aI g 160 ty), ((q 31), aI g 160 ca), ((q 32), aI g 160 sk), ((q 33), aI g 160 lo), ((q 34), aI g 160 bg), ((q 35), aI g 160 ln), ((q 36), aI g 160 xf), ((q 37), aI g 160 xt)] := hD.sub [0, 1, 2, 3, 4, 5, 6, 7, 8, 9, 10, 11, 12, 13, 14, 15, 16, 17, 18, 19] (by decide) rfl
                                exact ih162 _ (by omega) (i + 1) u19.1 u19.2 ls _ _ rfl (fun h => absurd h hp19_0) (by omega) (by omega) (fun h => absurd h hp19_0) (lv_sub hl [0, 1] rfl) hP hD hS
                      · refine lv_aload_n hx hb d_Mod_judge_213 rfl (lv_at hl 1 rfl) ?_
                        refine lv_bipush (v := 17) hx hb d_Mod_judge_214 (by decide) ?_
                        refine lv_aload_n hx hb d_Mod_judge_216 rfl (lv_at hl 1 rfl) ?_
                        refine va_get (D := g.1) (ci := 10) (v := .ref (q 28)) (C := R_Mod) (T := F_Mod) (N := 61) hx hb hts in_Mod hown hK hP 0 rfl rfl 28 (by decide) (hts _ wd_1278) (fun _ h9 => h9) rfl d_Mod_judge_217 ?_
                        refine lv_iload_n hx hb d_Mod_judge_220 rfl (lv_at hl 0 rfl) ?_
                        refine va_iald hx hb hK hP 10 0 rfl rfl (vp_in_nI (by omega) (by decide)) d_Mod_judge_221 ?_
                        obtain ⟨x20, ex20⟩ : ∃ z : Int32, pl ((nI i).toNatClampNeg) = z := ⟨_, rfl⟩
                        refine tw_ri (e2 := x20) ex20 ?_
                        refine tw_wv (wr := [((q 2), aI g 600 bs), ((q 3), aI g 2 ru), ((q 4), aI g 12 rs), ((q 5), aI g 480 rt), ((q 14), aI g 620 tg), ((q 15), aI g 620 tl), ((q 16), aI g 620 on), ((q 17), aI g 620 tw), ((q 27), aI g 160 fl), ((q 28), aI g 160 pl), ((q 29), aI g 160 na), ((q 30), aI g 160 ty), ((q 31), aI g 160 ca), ((q 32), aI g 160 sk), ((q 33), aI g 160 lo), ((q 34), aI g 160 bg), ((q 35), aI g 160 ln), ((q 36), aI g 160 xf), ((q 37), aI g 160 xt)]) (tw_runV (ws := [(h0, .inr (10, mob q rf n mm mb fa8 fp8 av ev wi mn tp tc sc nf fd me mp xn mt wh tq ag an ig)), ((q 2), aI g 600 bs), ((q 3), aI g 2 ru), ((q 4), aI g 12 rs), ((q 5), aI g 480 rt), ((q 14), aI g 620 tg), ((q 15), aI g 620 tl), ((q 16), aI g 620 on), ((q 17), aI g 620 tw), ((q 27), aI g 160 fl), ((q 28), aI g 160 pl), ((q 29), aI g 160 na), ((q 30), aI g 160 ty), ((q 31), aI g 160 ca), ((q 32), aI g 160 sk), ((q 33), aI g 160 lo), ((q 34), aI g 160 bg), ((q 35), aI g 160 ln), ((q 36), aI g 160 xf), ((q 37), aI g 160 xt)]) (wc := [(h0, .inr (10, mob q rf n mm mb fa8 fp8 av ev wi mn tp tc sc nf fd me mp xn mt wh tq ag an ig))]) (As := [.int 17, .int x20]) (rest := []) E hB hK hZ (g_Mod_fail l g H.size h0 q rf n mm mb av ev wi mn tp tc sc nf fd me mp xn mt wh tq ag an ig fa8 fp8 17 x20 (by decide)) mc_Mod_fail mi_Mod_fail me_Mod_fail wd_1478 hP hD hS hA [0] rfl (by decide) 0 rfl rfl rfl rfl rfl (by decide) rfl hl.1 rfl (Nat.le_of_ble_eq_true rfl) (by decide) d_Mod_judge_222) hP hD hS hA [0] [1, 2, 3, 4, 5, 6, 7, 8, 9, 10, 11, 12, 13, 14, 15, 16, 17, 18, 19] rfl rfl (by decide) (by decide) (fun u22 H locs hr21 hP hD hS => ?_)
                        try dsimp only at hr21
                        have hP : va_P g.1 classes [((q 2), aI g 600 bs), ((q 3), aI g 2 ru), ((q 4), aI g 12 rs), ((q 5), aI g 480 rt), ((q 14), aI g 620 tg), ((q 15), aI g 620 tl), ((q 16), aI g 620 on), ((q 17), aI g 620 tw), ((q 27), aI g 160 fl), ((q 28), aI g 160 pl), ((q 29), aI g 160 na), ((q 30), aI g 160 ty), ((q 31), aI g 160 ca), ((q 32), aI g 160 sk), ((q 33), aI g 160 lo), ((q 34), aI g 160 bg), ((q 35), aI g 160 ln), ((q 36), aI g 160 xf), ((q 37), aI g 160 xt), (h0, .inr (10, mob q rf n mm mb u22.1 u22.2 av ev wi mn tp tc sc nf fd me mp xn mt wh tq ag an ig))] H := hP
                        have hD : va_D A [((q 2), aI g 600 bs), ((q 3), aI g 2 ru), ((q 4), aI g 12 rs), ((q 5), aI g 480 rt), ((q 14), aI g 620 tg), ((q 15), aI g 620 tl), ((q 16), aI g 620 on), ((q 17), aI g 620 tw), ((q 27), aI g 160 fl), ((q 28), aI g 160 pl), ((q 29), aI g 160 na), ((q 30), aI g 160 ty), ((q 31), aI g 160 ca), ((q 32), aI g 160 sk), ((q 33), aI g 160 lo), ((q 34), aI g 160 bg), ((q 35), aI g 160 ln), ((q 36), aI g 160 xf), ((q 37), aI g 160 xt), (h0, .inr (10, mob q rf n mm mb u22.1 u22.2 av ev wi mn tp tc sc nf fd me mp xn mt wh tq ag an ig))] := hD
                        have hP : va_P g.1 classes [(h0, .inr (10, mob q rf n mm mb u22.1 u22.2 av ev wi mn tp tc sc nf fd me mp xn mt wh tq ag an ig)), ((q 2), aI g 600 bs), ((q 3), aI g 2 ru), ((q 4), aI g 12 rs), ((q 5), aI g 480 rt), ((q 14), aI g 620 tg), ((q 15), aI g 620 tl), ((q 16), aI g 620 on), ((q 17), aI g 620 tw), ((q 27), aI g 160 fl), ((q 28), aI g 160 pl), ((q 29), aI g 160 na), ((q 30), aI g 160 ty), ((q 31), aI g 160 ca), ((q 32), aI g 160 sk), ((q 33), aI g 160 lo), ((q 34), aI g 160 bg), ((q 35), aI g 160 ln), ((q 36), aI g 160 xf), ((q 37), aI g 160 xt)] H := hP.sub [19, 0, 1, 2, 3, 4, 5, 6, 7, 8, 9, 10, 11, 12, 13, 14, 15, 16, 17, 18] rfl
                        have hD : va_D A [(h0, .inr (10, mob q rf n mm mb u22.1 u22.2 av ev wi mn tp tc sc nf fd me mp xn mt wh tq ag an ig)), ((q 2), aI g 600 bs), ((q 3), aI g 2 ru), ((q 4), aI g 12 rs), ((q 5), aI g 480 rt), ((q 14), aI g 620 tg), ((q 15), aI g 620 tl), ((q 16), aI g 620 on), ((q 17), aI g 620 tw), ((q 27), aI g 160 fl), ((q 28), aI g 160 pl), ((q 29), aI g 160 na), ((q 30), aI g 160 ty), ((q 31), aI g 160 ca), ((q 32), aI g 160 sk), ((q 33), aI g 160 lo), ((q 34), aI g 160 bg), ((q 35), aI g 160 ln), ((q 36), aI g 160 xf), ((q 37), aI g 160 xt)] := hD.sub [19, 0, 1, 2, 3, 4, 5, 6, 7, 8, 9, 10, 11, 12, 13, 14, 15, 16, 17, 18] (by decide) rfl
                        have hp22_0 := hr21
                        refine lv_goto (tgt := 284) hx hb d_Mod_judge_225 (by decide) ?_
                        refine lv_iinc (k := 0) (v := nI (i + 1)) hx hb d_Mod_judge_284 hl rfl ((nI_succ i).symm) (by decide) rfl (fun ls hl => ?_)
                        have hl : lv_has ls 2 [(1, .int (nI (i + 1))), (0, .ref h0)] := hl
                        refine lv_goto (tgt := 162) hx hb d_Mod_judge_287 (by decide) ?_
                        have hP : va_P g.1 classes [(h0, .inr (10, mob q rf n mm mb u22.1 u22.2 av ev wi mn tp tc sc nf fd me mp xn mt wh tq ag an ig)), ((q 2), aI g 600 bs), ((q 3), aI g 2 ru), ((q 4), aI g 12 rs), ((q 5), aI g 480 rt), ((q 14), aI g 620 tg), ((q 15), aI g 620 tl), ((q 16), aI g 620 on), ((q 17), aI g 620 tw), ((q 27), aI g 160 fl), ((q 28), aI g 160 pl), ((q 29), aI g 160 na), ((q 30), aI g 160 ty), ((q 31), aI g 160 ca), ((q 32), aI g 160 sk), ((q 33), aI g 160 lo), ((q 34), aI g 160 bg), ((q 35), aI g 160 ln), ((q 36), aI g 160 xf), ((q 37), aI g 160 xt)] H := hP.sub [0, 1, 2, 3, 4, 5, 6, 7, 8, 9, 10, 11, 12, 13, 14, 15, 16, 17, 18, 19] rfl
                        have hD : va_D A [(h0, .inr (10, mob q rf n mm mb u22.1 u22.2 av ev wi mn tp tc sc nf fd me mp xn mt wh tq ag an ig)), ((q 2), aI g 600 bs), ((q 3), aI g 2 ru), ((q 4), aI g 12 rs), ((q 5), aI g 480 rt), ((q 14), aI g 620 tg), ((q 15), aI g 620 tl), ((q 16), aI g 620 on), ((q 17), aI g 620 tw), ((q 27), aI g 160 fl), ((q 28), aI g 160 pl), ((q 29), aI g 160 na), ((q 30), aI g 160 ty), ((q 31), aI g 160 ca), ((q 32), aI g 160 sk), ((q 33), aI g 160 lo), ((q 34), aI g 160 bg), ((q 35), aI g 160 ln), ((q 36), aI g 160 xf), ((q 37), aI g 160 xt)] := hD.sub [0, 1, 2, 3, 4, 5, 6, 7, 8, 9, 10, 11, 12, 13, 14, 15, 16, 17, 18, 19] (by decide) rfl
                        exact ih162 _ (by omega) (i + 1) u22.1 u22.2 ls _ _ rfl (fun h => absurd h hp22_0) (by omega) (by omega) (fun h => absurd h hp22_0) (lv_sub hl [0, 1] rfl) hP hD hS
                    · refine lv_aload_n hx hb d_Mod_judge_190 rfl (lv_at hl 1 rfl) ?_
                      refine lv_bipush (v := 16) hx hb d_Mod_judge_191 (by decide) ?_
                      refine lv_aload_n hx hb d_Mod_judge_193 rfl (lv_at hl 1 rfl) ?_
                      refine va_get (D := g.1) (ci := 10) (v := .ref (q 28)) (C := R_Mod) (T := F_Mod) (N := 61) hx hb hts in_Mod hown hK hP 0 rfl rfl 28 (by decide) (hts _ wd_1278) (fun _ h9 => h9) rfl d_Mod_judge_194 ?_
                      refine lv_iload_n hx hb d_Mod_judge_197 rfl (lv_at hl 0 rfl) ?_
                      refine va_iald hx hb hK hP 10 0 rfl rfl (vp_in_nI (by omega) (by decide)) d_Mod_judge_198 ?_
                      obtain ⟨x23, ex23⟩ : ∃ z : Int32, pl ((nI i).toNatClampNeg) = z := ⟨_, rfl⟩
                      refine tw_ri (e2 := x23) ex23 ?_
                      refine tw_wv (wr := [((q 2), aI g 600 bs), ((q 3), aI g 2 ru), ((q 4), aI g 12 rs), ((q 5), aI g 480 rt), ((q 14), aI g 620 tg), ((q 15), aI g 620 tl), ((q 16), aI g 620 on), ((q 17), aI g 620 tw), ((q 27), aI g 160 fl), ((q 28), aI g 160 pl), ((q 29), aI g 160 na), ((q 30), aI g 160 ty), ((q 31), aI g 160 ca), ((q 32), aI g 160 sk), ((q 33), aI g 160 lo), ((q 34), aI g 160 bg), ((q 35), aI g 160 ln), ((q 36), aI g 160 xf), ((q 37), aI g 160 xt)]) (tw_runV (ws := [(h0, .inr (10, mob q rf n mm mb fa8 fp8 av ev wi mn tp tc sc nf fd me mp xn mt wh tq ag an ig)), ((q 2), aI g 600 bs), ((q 3), aI g 2 ru), ((q 4), aI g 12 rs), ((q 5), aI g 480 rt), ((q 14), aI g 620 tg), ((q 15), aI g 620 tl), ((q 16), aI g 620 on), ((q 17), aI g 620 tw), ((q 27), aI g 160 fl), ((q 28), aI g 160 pl), ((q 29), aI g 160 na), ((q 30), aI g 160 ty), ((q 31), aI g 160 ca), ((q 32), aI g 160 sk), ((q 33), aI g 160 lo), ((q 34), aI g 160 bg), ((q 35), aI g 160 ln), ((q 36), aI g 160 xf), ((q 37), aI g 160 xt)]) (wc := [(h0, .inr (10, mob q rf n mm mb fa8 fp8 av ev wi mn tp tc sc nf fd me mp xn mt wh tq ag an ig))]) (As := [.int 16, .int x23]) (rest := []) E hB hK hZ (g_Mod_fail l g H.size h0 q rf n mm mb av ev wi mn tp tc sc nf fd me mp xn mt wh tq ag an ig fa8 fp8 16 x23 (by decide)) mc_Mod_fail mi_Mod_fail me_Mod_fail wd_1478 hP hD hS hA [0] rfl (by decide) 0 rfl rfl rfl rfl rfl (by decide) rfl hl.1 rfl (Nat.le_of_ble_eq_true rfl) (by decide) d_Mod_judge_199) hP hD hS hA [0] [1, 2, 3, 4, 5, 6, 7, 8, 9, 10, 11, 12, 13, 14, 15, 16, 17, 18, 19] rfl rfl (by decide) (by decide) (fun u25 H locs hr24 hP hD hS => ?_)
                      try dsimp only at hr24
                      have hP : va_P g.1 classes [((q 2), aI g 600 bs), ((q 3), aI g 2 ru), ((q 4), aI g 12 rs), ((q 5), aI g 480 rt), ((q 14), aI g 620 tg), ((q 15), aI g 620 tl), ((q 16), aI g 620 on), ((q 17), aI g 620 tw), ((q 27), aI g 160 fl), ((q 28), aI g 160 pl), ((q 29), aI g 160 na), ((q 30), aI g 160 ty), ((q 31), aI g 160 ca), ((q 32), aI g 160 sk), ((q 33), aI g 160 lo), ((q 34), aI g 160 bg), ((q 35), aI g 160 ln), ((q 36), aI g 160 xf), ((q 37), aI g 160 xt), (h0, .inr (10, mob q rf n mm mb u25.1 u25.2 av ev wi mn tp tc sc nf fd me mp xn mt wh tq ag an ig))] H := hP
                      have hD : va_D A [((q 2), aI g 600 bs), ((q 3), aI g 2 ru), ((q 4), aI g 12 rs), ((q 5), aI g 480 rt), ((q 14), aI g 620 tg), ((q 15), aI g 620 tl), ((q 16), aI g 620 on), ((q 17), aI g 620 tw), ((q 27), aI g 160 fl), ((q 28), aI g 160 pl), ((q 29), aI g 160 na), ((q 30), aI g 160 ty), ((q 31), aI g 160 ca), ((q 32), aI g 160 sk), ((q 33), aI g 160 lo), ((q 34), aI g 160 bg), ((q 35), aI g 160 ln), ((q 36), aI g 160 xf), ((q 37), aI g 160 xt), (h0, .inr (10, mob q rf n mm mb u25.1 u25.2 av ev wi mn tp tc sc nf fd me mp xn mt wh tq ag an ig))] := hD
                      have hP : va_P g.1 classes [(h0, .inr (10, mob q rf n mm mb u25.1 u25.2 av ev wi mn tp tc sc nf fd me mp xn mt wh tq ag an ig)), ((q 2), aI g 600 bs), ((q 3), aI g 2 ru), ((q 4), aI g 12 rs), ((q 5), aI g 480 rt), ((q 14), aI g 620 tg), ((q 15), aI g 620 tl), ((q 16), aI g 620 on), ((q 17), aI g 620 tw), ((q 27), aI g 160 fl), ((q 28), aI g 160 pl), ((q 29), aI g 160 na), ((q 30), aI g 160 ty), ((q 31), aI g 160 ca), ((q 32), aI g 160 sk), ((q 33), aI g 160 lo), ((q 34), aI g 160 bg), ((q 35), aI g 160 ln), ((q 36), aI g 160 xf), ((q 37), aI g 160 xt)] H := hP.sub [19, 0, 1, 2, 3, 4, 5, 6, 7, 8, 9, 10, 11, 12, 13, 14, 15, 16, 17, 18] rfl
                      have hD : va_D A [(h0, .inr (10, mob q rf n mm mb u25.1 u25.2 av ev wi mn tp tc sc nf fd me mp xn mt wh tq ag an ig)), ((q 2), aI g 600 bs), ((q 3), aI g 2 ru), ((q 4), aI g 12 rs), ((q 5), aI g 480 rt), ((q 14), aI g 620 tg), ((q 15), aI g 620 tl), ((q 16), aI g 620 on), ((q 17), aI g 620 tw), ((q 27), aI g 160 fl), ((q 28), aI g 160 pl), ((q 29), aI g 160 na), ((q 30), aI g 160 ty), ((q 31), aI g 160 ca), ((q 32), aI g 160 sk), ((q 33), aI g 160 lo), ((q 34), aI g 160 bg), ((q 35), aI g 160 ln), ((q 36), aI g 160 xf), ((q 37), aI g 160 xt)] := hD.sub [19, 0, 1, 2, 3, 4, 5, 6, 7, 8, 9, 10, 11, 12, 13, 14, 15, 16, 17, 18] (by decide) rfl
                      have hp25_0 := hr24
                      refine lv_goto (tgt := 284) hx hb d_Mod_judge_202 (by decide) ?_
                      refine lv_iinc (k := 0) (v := nI (i + 1)) hx hb d_Mod_judge_284 hl rfl ((nI_succ i).symm) (by decide) rfl (fun ls hl => ?_)
                      have hl : lv_has ls 2 [(1, .int (nI (i + 1))), (0, .ref h0)] := hl
                      refine lv_goto (tgt := 162) hx hb d_Mod_judge_287 (by decide) ?_
                      have hP : va_P g.1 classes [(h0, .inr (10, mob q rf n mm mb u25.1 u25.2 av ev wi mn tp tc sc nf fd me mp xn mt wh tq ag an ig)), ((q 2), aI g 600 bs), ((q 3), aI g 2 ru), ((q 4), aI g 12 rs), ((q 5), aI g 480 rt), ((q 14), aI g 620 tg), ((q 15), aI g 620 tl), ((q 16), aI g 620 on), ((q 17), aI g 620 tw), ((q 27), aI g 160 fl), ((q 28), aI g 160 pl), ((q 29), aI g 160 na), ((q 30), aI g 160 ty), ((q 31), aI g 160 ca), ((q 32), aI g 160 sk), ((q 33), aI g 160 lo), ((q 34), aI g 160 bg), ((q 35), aI g 160 ln), ((q 36), aI g 160 xf), ((q 37), aI g 160 xt)] H := hP.sub [0, 1, 2, 3, 4, 5, 6, 7, 8, 9, 10, 11, 12, 13, 14, 15, 16, 17, 18, 19] rfl
                      have hD : va_D A [(h0, .inr (10, mob q rf n mm mb u25.1 u25.2 av ev wi mn tp tc sc nf fd me mp xn mt wh tq ag an ig)), ((q 2), aI g 600 bs), ((q 3), aI g 2 ru), ((q 4), aI g 12 rs), ((q 5), aI g 480 rt), ((q 14), aI g 620 tg), ((q 15), aI g 620 tl), ((q 16), aI g 620 on), ((q 17), aI g 620 tw), ((q 27), aI g 160 fl), ((q 28), aI g 160 pl), ((q 29), aI g 160 na), ((q 30), aI g 160 ty), ((q 31), aI g 160 ca), ((q 32), aI g 160 sk), ((q 33), aI g 160 lo), ((q 34), aI g 160 bg), ((q 35), aI g 160 ln), ((q 36), aI g 160 xf), ((q 37), aI g 160 xt)] := hD.sub [0, 1, 2, 3, 4, 5, 6, 7, 8, 9, 10, 11, 12, 13, 14, 15, 16, 17, 18, 19] (by decide) rfl
                      exact ih162 _ (by omega) (i + 1) u25.1 u25.2 ls _ _ rfl (fun h => absurd h hp25_0) (by omega) (by omega) (fun h => absurd h hp25_0) (lv_sub hl [0, 1] rfl) hP hD hS
            exact loop162 _ fd fa9 fp9 ls _ _ rfl (fun h => h) (by omega) (Nat.le_refl _) (fun _ j h1 h2 => absurd h2 (by omega)) (hl) hP hD hS
          · have h61 := tn_nle h61 (by omega) (by omega)
            refine lv_aload_n hx hb d_Mod_judge_64 rfl (lv_at hl 1 rfl) ?_
            refine va_get (D := g.1) (ci := 10) (v := .int fa9) (C := R_Mod) (T := F_Mod) (N := 61) hx hb hts in_Mod hown hK hP 0 rfl rfl 8 (by decide) (hts _ wd_1258) (fun _ h9 => h9) rfl d_Mod_judge_65 ?_
            refine lv_if_ne (tgt := 157) hx hb d_Mod_judge_68 (by decide) (fun h68 => ?_) (fun h68 => ?_)
            · refine lv_aload_n hx hb d_Mod_judge_157 rfl (lv_at hl 1 rfl) ?_
              refine va_get (D := g.1) (ci := 10) (v := .int (nI fd)) (C := R_Mod) (T := F_Mod) (N := 61) hx hb hts in_Mod hown hK hP 0 rfl rfl 24 (by decide) (hts _ wd_1274) (fun _ h9 => h9) rfl d_Mod_judge_158 ?_
              refine lv_istore_n hx hb d_Mod_judge_161 rfl hl (by decide) rfl (fun ls hl => ?_)
              have hl : lv_has ls 2 [(1, .int (nI fd)), (0, .ref h0)] := hl
              have loop162 : ∀ (kq : Nat) (i : Nat) (fa8 : Int32) (fp8 : Int32) (ls : Array Slot) (H : Heap) (locs : List Loc) , me - i = kq → (hc8 : fa8 = 0 → fa9 = 0) → (hui : i ≤ 700) → (hfi : fd ≤ i) → (hJGk : fa8 = 0 → ∀ j, fd ≤ j → j < i → ¬ ca j ≤ 0 → SL64 sk lo j) → lv_has ls 2 [(1, .int (nI i)), (0, .ref h0)] → va_P g.1 classes [(h0, .inr (10, mob q rf n mm mb fa8 fp8 av ev wi mn tp tc sc nf fd me mp xn mt wh tq ag an ig)), ((q 2), aI g 600 bs), ((q 3), aI g 2 ru), ((q 4), aI g 12 rs), ((q 5), aI g 480 rt), ((q 14), aI g 620 tg), ((q 15), aI g 620 tl), ((q 16), aI g 620 on), ((q 17), aI g 620 tw), ((q 27), aI g 160 fl), ((q 28), aI g 160 pl), ((q 29), aI g 160 na), ((q 30), aI g 160 ty), ((q 31), aI g 160 ca), ((q 32), aI g 160 sk), ((q 33), aI g 160 lo), ((q 34), aI g 160 bg), ((q 35), aI g 160 ln), ((q 36), aI g 160 xf), ((q 37), aI g 160 xt)] H → va_D A [(h0, .inr (10, mob q rf n mm mb fa8 fp8 av ev wi mn tp tc sc nf fd me mp xn mt wh tq ag an ig)), ((q 2), aI g 600 bs), ((q 3), aI g 2 ru), ((q 4), aI g 12 rs), ((q 5), aI g 480 rt), ((q 14), aI g 620 tg), ((q 15), aI g 620 tl), ((q 16), aI g 620 on), ((q 17), aI g 620 tw), ((q 27), aI g 160 fl), ((q 28), aI g 160 pl), ((q 29), aI g 160 na), ((q 30), aI g 160 ty), ((q 31), aI g 160 ca), ((q 32), aI g 160 sk), ((q 33), aI g 160 lo), ((q 34), aI g 160 bg), ((q 35), aI g 160 ln), ((q 36), aI g 160 xf), ((q 37), aI g 160 xt)] → va_S A s.heap H locs → W p l e ({ frames := 1, cells := 0, slots := 0, locals := 26 }) s m [.ref h0].toArray below meth c H locs 0 0 (MQ below (tw_Qv g (fun (u : Int32 × Int32) => (u.1 = 0 → fa = 0) ∧ (u.1 = 0 → ∀ j, fd ≤ j → j < me → ¬ ca j ≤ 0 → SL64 sk lo j)) (fun u : Int32 × Int32 => [(h0, .inr (10, mob q rf n mm mb u.1 u.2 av ev wi mn tp tc sc nf fd me mp xn mt wh tq ag an ig)), ((q 2), aI g 600 bs), ((q 3), aI g 2 ru), ((q 4), aI g 12 rs), ((q 5), aI g 480 rt), ((q 14), aI g 620 tg), ((q 15), aI g 620 tl), ((q 16), aI g 620 on), ((q 17), aI g 620 tw), ((q 27), aI g 160 fl), ((q 28), aI g 160 pl), ((q 29), aI g 160 na), ((q 30), aI g 160 ty), ((q 31), aI g 160 ca), ((q 32), aI g 160 sk), ((q 33), aI g 160 lo), ((q 34), aI g 160 bg), ((q 35), aI g 160 ln), ((q 36), aI g 160 xf), ((q 37), aI g 160 xt)]) A) [.ref h0].toArray s 0 0 A) (F0 m 162 ls []) := by
                intro kq
                induction kq using Nat.strongRecOn with
                | _ kq ih162 =>
                  intro i fa8 fp8 ls H locs hk162 hc8 hui hfi hJGk hl hP hD hS
                  refine lv_iload_n hx hb d_Mod_judge_162 rfl (lv_at hl 0 rfl) ?_
                  refine lv_aload_n hx hb d_Mod_judge_163 rfl (lv_at hl 1 rfl) ?_
                  refine va_get (D := g.1) (ci := 10) (v := .int (nI me)) (C := R_Mod) (T := F_Mod) (N := 61) hx hb hts in_Mod hown hK hP 0 rfl rfl 25 (by decide) (hts _ wd_1275) (fun _ h9 => h9) rfl d_Mod_judge_164 ?_
                  refine lv_icmp_ge (tgt := 290) hx hb d_Mod_judge_167 (by decide) (fun h167 => ?_) (fun h167 => ?_)
                  · have h167 := tn_le h167 (by omega) (by omega)
                    exact tw_vret E hS (fa8, fp8) (⟨(fun h => absurd h (fun h => h68 (hc8 h))), (fun h => absurd h (fun h => h68 (hc8 h)))⟩) hP hD d_Mod_judge_290
                  · have h167 := tn_nle h167 (by omega) (by omega)
                    refine lv_aload_n hx hb d_Mod_judge_170 rfl (lv_at hl 1 rfl) ?_
                    refine va_get (D := g.1) (ci := 10) (v := .int fa8) (C := R_Mod) (T := F_Mod) (N := 61) hx hb hts in_Mod hown hK hP 0 rfl rfl 8 (by decide) (hts _ wd_1258) (fun _ h9 => h9) rfl d_Mod_judge_171 ?_
                    refine lv_if_ne (tgt := 290) hx hb d_Mod_judge_174 (by decide) (fun h174 => ?_) (fun h174 => ?_)
                    · exact tw_vret E hS (fa8, fp8) (⟨(fun h => absurd h h174), (fun h => absurd h h174)⟩) hP hD d_Mod_judge_290
                    · exact absurd h174 (fun h => h68 (hc8 h))
              exact loop162 _ fd fa9 fp9 ls _ _ rfl (fun h => h) (by omega) (Nat.le_refl _) (fun _ j h1 h2 => absurd h2 (by omega)) (hl) hP hD hS
            · have hz26 := hc9 h68
              refine lv_aload_n hx hb d_Mod_judge_71 rfl (lv_at hl 1 rfl) ?_
              refine va_get (D := g.1) (ci := 10) (v := .ref (q 14)) (C := R_Mod) (T := F_Mod) (N := 61) hx hb hts in_Mod hown hK hP 0 rfl rfl 14 (by decide) (hts _ wd_1264) (fun _ h9 => h9) rfl d_Mod_judge_72 ?_
              refine lv_iload_n hx hb d_Mod_judge_75 rfl (lv_at hl 0 rfl) ?_
              refine va_iald hx hb hK hP 5 0 rfl rfl (vp_in_nI (by omega) (by decide)) d_Mod_judge_76 ?_
              refine tw_ri (e2 := tg k) (by rw [nI_clamp (by omega)]) ?_
              refine lv_bipush (v := 9) hx hb d_Mod_judge_77 (by decide) ?_
              refine lv_icmp_eq (tgt := 93) hx hb d_Mod_judge_79 (by decide) (fun h79 => ?_) (fun h79 => ?_)
              · obtain ⟨j7, jo, po, lo1, y1, y2, y3, y4, y5, y6, y7⟩ := lk_own hLCA hTX hmn (by omega) (by omega) (Or.inl h79)
                refine lv_aload_n hx hb d_Mod_judge_93 rfl (lv_at hl 1 rfl) ?_
                refine lv_aload_n hx hb d_Mod_judge_94 rfl (lv_at hl 1 rfl) ?_
                refine va_get (D := g.1) (ci := 10) (v := .ref (q 16)) (C := R_Mod) (T := F_Mod) (N := 61) hx hb hts in_Mod hown hK hP 0 rfl rfl 16 (by decide) (hts _ wd_1266) (fun _ h9 => h9) rfl d_Mod_judge_95 ?_
                refine lv_aload_n hx hb d_Mod_judge_98 rfl (lv_at hl 1 rfl) ?_
                refine va_get (D := g.1) (ci := 10) (v := .ref (q 16)) (C := R_Mod) (T := F_Mod) (N := 61) hx hb hts in_Mod hown hK hP 0 rfl rfl 16 (by decide) (hts _ wd_1266) (fun _ h9 => h9) rfl d_Mod_judge_99 ?_
                refine lv_iload_n hx hb d_Mod_judge_102 rfl (lv_at hl 0 rfl) ?_
                refine va_iald hx hb hK hP 7 0 rfl rfl (vp_in_nI (by omega) (by decide)) d_Mod_judge_103 ?_
                refine tw_ri (e2 := nI j7) (by rw [nI_clamp (by omega)]; exact y1) ?_
                refine va_iald hx hb hK hP 7 0 rfl rfl (vp_in_nI (by omega) (by decide)) d_Mod_judge_104 ?_
                refine tw_ri (e2 := nI jo) (by rw [nI_clamp (by omega)]; exact y3) ?_
                refine lv_aload_n hx hb d_Mod_judge_105 rfl (lv_at hl 1 rfl) ?_
                refine va_get (D := g.1) (ci := 10) (v := .ref (q 16)) (C := R_Mod) (T := F_Mod) (N := 61) hx hb hts in_Mod hown hK hP 0 rfl rfl 16 (by decide) (hts _ wd_1266) (fun _ h9 => h9) rfl d_Mod_judge_106 ?_
                refine lv_aload_n hx hb d_Mod_judge_109 rfl (lv_at hl 1 rfl) ?_
                refine va_get (D := g.1) (ci := 10) (v := .int tc) (C := R_Mod) (T := F_Mod) (N := 61) hx hb hts in_Mod hown hK hP 0 rfl rfl 19 (by decide) (hts _ wd_1269) (fun _ h9 => h9) rfl d_Mod_judge_110 ?_
                refine va_iald hx hb hK hP 7 0 rfl rfl (by rw [x1c]; exact vp_in_nI (by omega) (by decide)) d_Mod_judge_113 ?_
                refine tw_ri (e2 := nI jx) (by rw [x1c, nI_clamp (by omega)]; exact x3c) ?_
                refine tw_si (tw_runV (ws := [(h0, .inr (10, mob q rf n mm mb fa9 fp9 av ev wi mn tp tc sc nf fd me mp xn mt wh tq ag an ig)), ((q 2), aI g 600 bs), ((q 3), aI g 2 ru), ((q 4), aI g 12 rs), ((q 5), aI g 480 rt), ((q 14), aI g 620 tg), ((q 15), aI g 620 tl), ((q 16), aI g 620 on), ((q 17), aI g 620 tw), ((q 27), aI g 160 fl), ((q 28), aI g 160 pl), ((q 29), aI g 160 na), ((q 30), aI g 160 ty), ((q 31), aI g 160 ca), ((q 32), aI g 160 sk), ((q 33), aI g 160 lo), ((q 34), aI g 160 bg), ((q 35), aI g 160 ln), ((q 36), aI g 160 xf), ((q 37), aI g 160 xt)]) (wc := [(h0, .inr (10, mob q rf n mm mb fa9 fp9 av ev wi mn tp tc sc nf fd me mp xn mt wh tq ag an ig)), ((q 2), aI g 600 bs), ((q 16), aI g 620 on), ((q 17), aI g 620 tw)]) (As := [.int (nI jo), .int (nI jx)]) (rest := []) E hB hK hZ (g_Mod_sameTexts l g H.size h0 q rf n mm mb fa9 fp9 av ev wi mn tp tc sc nf fd me mp xn mt wh tq ag an ig bs on tw jo jx po lo1 px lx (by omega) y5 y6 y7 (by omega) x5c x6c x7c) mc_Mod_sameTexts mi_Mod_sameTexts me_Mod_sameTexts wd_1579 hP hD hS hA [0, 1, 7, 8] rfl (by decide) 0 rfl rfl rfl rfl rfl (by decide) rfl hl.1 rfl (Nat.le_of_ble_eq_true rfl) (by decide) d_Mod_judge_114) (fun r27 hr27 => ?_)
                have hB27 := hr27
                refine lv_if_ne (tgt := 151) hx hb d_Mod_judge_117 (by decide) (fun h117 => ?_) (fun h117 => ?_)
                · refine lv_iinc (k := 0) (v := nI (k + 1)) hx hb d_Mod_judge_151 hl rfl ((nI_succ k).symm) (by decide) rfl (fun ls hl => ?_)
                  have hl : lv_has ls 2 [(1, .int (nI (k + 1))), (0, .ref h0)] := hl
                  refine lv_goto (tgt := 56) hx hb d_Mod_judge_154 (by decide) ?_
                  have hP : va_P g.1 classes [(h0, .inr (10, mob q rf n mm mb fa9 fp9 av ev wi mn tp tc sc nf fd me mp xn mt wh tq ag an ig)), ((q 2), aI g 600 bs), ((q 3), aI g 2 ru), ((q 4), aI g 12 rs), ((q 5), aI g 480 rt), ((q 14), aI g 620 tg), ((q 15), aI g 620 tl), ((q 16), aI g 620 on), ((q 17), aI g 620 tw), ((q 27), aI g 160 fl), ((q 28), aI g 160 pl), ((q 29), aI g 160 na), ((q 30), aI g 160 ty), ((q 31), aI g 160 ca), ((q 32), aI g 160 sk), ((q 33), aI g 160 lo), ((q 34), aI g 160 bg), ((q 35), aI g 160 ln), ((q 36), aI g 160 xf), ((q 37), aI g 160 xt)] H := hP.sub [0, 1, 2, 3, 4, 5, 6, 7, 8, 9, 10, 11, 12, 13, 14, 15, 16, 17, 18, 19] rfl
                  have hD : va_D A [(h0, .inr (10, mob q rf n mm mb fa9 fp9 av ev wi mn tp tc sc nf fd me mp xn mt wh tq ag an ig)), ((q 2), aI g 600 bs), ((q 3), aI g 2 ru), ((q 4), aI g 12 rs), ((q 5), aI g 480 rt), ((q 14), aI g 620 tg), ((q 15), aI g 620 tl), ((q 16), aI g 620 on), ((q 17), aI g 620 tw), ((q 27), aI g 160 fl), ((q 28), aI g 160 pl), ((q 29), aI g 160 na), ((q 30), aI g 160 ty), ((q 31), aI g 160 ca), ((q 32), aI g 160 sk), ((q 33), aI g 160 lo), ((q 34), aI g 160 bg), ((q 35), aI g 160 ln), ((q 36), aI g 160 xf), ((q 37), aI g 160 xt)] := hD.sub [0, 1, 2, 3, 4, 5, 6, 7, 8, 9, 10, 11, 12, 13, 14, 15, 16, 17, 18, 19] (by decide) rfl
                  exact ih _ (by omega) (k + 1) fa9 fp9 ls _ _ rfl (fun _ => hz26) (by omega) (by omega) (lv_sub hl [0, 1] rfl) hP hD hS
                · refine lv_aload_n hx hb d_Mod_judge_120 rfl (lv_at hl 1 rfl) ?_
                  refine lv_aload_n hx hb d_Mod_judge_121 rfl (lv_at hl 1 rfl) ?_
                  refine va_get (D := g.1) (ci := 10) (v := .ref (q 16)) (C := R_Mod) (T := F_Mod) (N := 61) hx hb hts in_Mod hown hK hP 0 rfl rfl 16 (by decide) (hts _ wd_1266) (fun _ h9 => h9) rfl d_Mod_judge_122 ?_
                  refine lv_aload_n hx hb d_Mod_judge_125 rfl (lv_at hl 1 rfl) ?_
                  refine va_get (D := g.1) (ci := 10) (v := .ref (q 16)) (C := R_Mod) (T := F_Mod) (N := 61) hx hb hts in_Mod hown hK hP 0 rfl rfl 16 (by decide) (hts _ wd_1266) (fun _ h9 => h9) rfl d_Mod_judge_126 ?_
                  refine lv_iload_n hx hb d_Mod_judge_129 rfl (lv_at hl 0 rfl) ?_
                  refine va_iald hx hb hK hP 7 0 rfl rfl (vp_in_nI (by omega) (by decide)) d_Mod_judge_130 ?_
                  refine tw_ri (e2 := nI j7) (by rw [nI_clamp (by omega)]; exact y1) ?_
                  refine va_iald hx hb hK hP 7 0 rfl rfl (vp_in_nI (by omega) (by decide)) d_Mod_judge_131 ?_
                  refine tw_ri (e2 := nI jo) (by rw [nI_clamp (by omega)]; exact y3) ?_
                  refine lv_iconst (v := 1) hx hb d_Mod_judge_132 (by decide) ?_
                  refine tw_si (tw_runV (ws := [(h0, .inr (10, mob q rf n mm mb fa9 fp9 av ev wi mn tp tc sc nf fd me mp xn mt wh tq ag an ig)), ((q 2), aI g 600 bs), ((q 3), aI g 2 ru), ((q 4), aI g 12 rs), ((q 5), aI g 480 rt), ((q 14), aI g 620 tg), ((q 15), aI g 620 tl), ((q 16), aI g 620 on), ((q 17), aI g 620 tw), ((q 27), aI g 160 fl), ((q 28), aI g 160 pl), ((q 29), aI g 160 na), ((q 30), aI g 160 ty), ((q 31), aI g 160 ca), ((q 32), aI g 160 sk), ((q 33), aI g 160 lo), ((q 34), aI g 160 bg), ((q 35), aI g 160 ln), ((q 36), aI g 160 xf), ((q 37), aI g 160 xt)]) (wc := [(h0, .inr (10, mob q rf n mm mb fa9 fp9 av ev wi mn tp tc sc nf fd me mp xn mt wh tq ag an ig)), ((q 2), aI g 600 bs), ((q 3), aI g 2 ru), ((q 4), aI g 12 rs), ((q 5), aI g 480 rt), ((q 16), aI g 620 on), ((q 17), aI g 620 tw)]) (As := [.int (nI jo), .int 1]) (rest := []) E hB hK hZ (g_Mod_begins l g H.size h0 q rf n mm mb fa9 fp9 av ev wi mn tp tc sc nf fd me mp xn mt wh tq ag an ig bs ru rs rt on tw jo 1 po lo1 (by omega) y5 y6 y7 hru hrs (by decide)) mc_Mod_begins mi_Mod_begins me_Mod_begins wd_1587 hP hD hS hA [0, 1, 2, 3, 4, 7, 8] rfl (by decide) 0 rfl rfl rfl rfl rfl (by decide) rfl hl.1 rfl (Nat.le_of_ble_eq_true rfl) (by decide) d_Mod_judge_133) (fun r28 hr28 => ?_)
                  have hB28 := hr28
                  refine lv_if_ne (tgt := 151) hx hb d_Mod_judge_136 (by decide) (fun h136 => ?_) (fun h136 => ?_)
                  · refine lv_iinc (k := 0) (v := nI (k + 1)) hx hb d_Mod_judge_151 hl rfl ((nI_succ k).symm) (by decide) rfl (fun ls hl => ?_)
                    have hl : lv_has ls 2 [(1, .int (nI (k + 1))), (0, .ref h0)] := hl
                    refine lv_goto (tgt := 56) hx hb d_Mod_judge_154 (by decide) ?_
                    have hP : va_P g.1 classes [(h0, .inr (10, mob q rf n mm mb fa9 fp9 av ev wi mn tp tc sc nf fd me mp xn mt wh tq ag an ig)), ((q 2), aI g 600 bs), ((q 3), aI g 2 ru), ((q 4), aI g 12 rs), ((q 5), aI g 480 rt), ((q 14), aI g 620 tg), ((q 15), aI g 620 tl), ((q 16), aI g 620 on), ((q 17), aI g 620 tw), ((q 27), aI g 160 fl), ((q 28), aI g 160 pl), ((q 29), aI g 160 na), ((q 30), aI g 160 ty), ((q 31), aI g 160 ca), ((q 32), aI g 160 sk), ((q 33), aI g 160 lo), ((q 34), aI g 160 bg), ((q 35), aI g 160 ln), ((q 36), aI g 160 xf), ((q 37), aI g 160 xt)] H := hP.sub [0, 1, 2, 3, 4, 5, 6, 7, 8, 9, 10, 11, 12, 13, 14, 15, 16, 17, 18, 19] rfl
                    have hD : va_D A [(h0, .inr (10, mob q rf n mm mb fa9 fp9 av ev wi mn tp tc sc nf fd me mp xn mt wh tq ag an ig)), ((q 2), aI g 600 bs), ((q 3), aI g 2 ru), ((q 4), aI g 12 rs), ((q 5), aI g 480 rt), ((q 14), aI g 620 tg), ((q 15), aI g 620 tl), ((q 16), aI g 620 on), ((q 17), aI g 620 tw), ((q 27), aI g 160 fl), ((q 28), aI g 160 pl), ((q 29), aI g 160 na), ((q 30), aI g 160 ty), ((q 31), aI g 160 ca), ((q 32), aI g 160 sk), ((q 33), aI g 160 lo), ((q 34), aI g 160 bg), ((q 35), aI g 160 ln), ((q 36), aI g 160 xf), ((q 37), aI g 160 xt)] := hD.sub [0, 1, 2, 3, 4, 5, 6, 7, 8, 9, 10, 11, 12, 13, 14, 15, 16, 17, 18, 19] (by decide) rfl
                    exact ih _ (by omega) (k + 1) fa9 fp9 ls _ _ rfl (fun _ => hz26) (by omega) (by omega) (lv_sub hl [0, 1] rfl) hP hD hS
                  · refine lv_aload_n hx hb d_Mod_judge_139 rfl (lv_at hl 1 rfl) ?_
                    refine lv_bipush (v := 15) hx hb d_Mod_judge_140 (by decide) ?_
                    refine lv_aload_n hx hb d_Mod_judge_142 rfl (lv_at hl 1 rfl) ?_
                    refine va_get (D := g.1) (ci := 10) (v := .ref (q 15)) (C := R_Mod) (T := F_Mod) (N := 61) hx hb hts in_Mod hown hK hP 0 rfl rfl 15 (by decide) (hts _ wd_1265) (fun _ h9 => h9) rfl d_Mod_judge_143 ?_
                    refine lv_iload_n hx hb d_Mod_judge_146 rfl (lv_at hl 0 rfl) ?_
                    refine va_iald hx hb hK hP 6 0 rfl rfl (vp_in_nI (by omega) (by decide)) d_Mod_judge_147 ?_
                    obtain ⟨x29, ex29⟩ : ∃ z : Int32, tl ((nI k).toNatClampNeg) = z := ⟨_, rfl⟩
                    refine tw_ri (e2 := x29) ex29 ?_
                    refine tw_wv (wr := [((q 2), aI g 600 bs), ((q 3), aI g 2 ru), ((q 4), aI g 12 rs), ((q 5), aI g 480 rt), ((q 14), aI g 620 tg), ((q 15), aI g 620 tl), ((q 16), aI g 620 on), ((q 17), aI g 620 tw), ((q 27), aI g 160 fl), ((q 28), aI g 160 pl), ((q 29), aI g 160 na), ((q 30), aI g 160 ty), ((q 31), aI g 160 ca), ((q 32), aI g 160 sk), ((q 33), aI g 160 lo), ((q 34), aI g 160 bg), ((q 35), aI g 160 ln), ((q 36), aI g 160 xf), ((q 37), aI g 160 xt)]) (tw_runV (ws := [(h0, .inr (10, mob q rf n mm mb fa9 fp9 av ev wi mn tp tc sc nf fd me mp xn mt wh tq ag an ig)), ((q 2), aI g 600 bs), ((q 3), aI g 2 ru), ((q 4), aI g 12 rs), ((q 5), aI g 480 rt), ((q 14), aI g 620 tg), ((q 15), aI g 620 tl), ((q 16), aI g 620 on), ((q 17), aI g 620 tw), ((q 27), aI g 160 fl), ((q 28), aI g 160 pl), ((q 29), aI g 160 na), ((q 30), aI g 160 ty), ((q 31), aI g 160 ca), ((q 32), aI g 160 sk), ((q 33), aI g 160 lo), ((q 34), aI g 160 bg), ((q 35), aI g 160 ln), ((q 36), aI g 160 xf), ((q 37), aI g 160 xt)]) (wc := [(h0, .inr (10, mob q rf n mm mb fa9 fp9 av ev wi mn tp tc sc nf fd me mp xn mt wh tq ag an ig))]) (As := [.int 15, .int x29]) (rest := []) E hB hK hZ (g_Mod_fail l g H.size h0 q rf n mm mb av ev wi mn tp tc sc nf fd me mp xn mt wh tq ag an ig fa9 fp9 15 x29 (by decide)) mc_Mod_fail mi_Mod_fail me_Mod_fail wd_1478 hP hD hS hA [0] rfl (by decide) 0 rfl rfl rfl rfl rfl (by decide) rfl hl.1 rfl (Nat.le_of_ble_eq_true rfl) (by decide) d_Mod_judge_148) hP hD hS hA [0] [1, 2, 3, 4, 5, 6, 7, 8, 9, 10, 11, 12, 13, 14, 15, 16, 17, 18, 19] rfl rfl (by decide) (by decide) (fun u31 H locs hr30 hP hD hS => ?_)
                    try dsimp only at hr30
                    have hP : va_P g.1 classes [((q 2), aI g 600 bs), ((q 3), aI g 2 ru), ((q 4), aI g 12 rs), ((q 5), aI g 480 rt), ((q 14), aI g 620 tg), ((q 15), aI g 620 tl), ((q 16), aI g 620 on), ((q 17), aI g 620 tw), ((q 27), aI g 160 fl), ((q 28), aI g 160 pl), ((q 29), aI g 160 na), ((q 30), aI g 160 ty), ((q 31), aI g 160 ca), ((q 32), aI g 160 sk), ((q 33), aI g 160 lo), ((q 34), aI g 160 bg), ((q 35), aI g 160 ln), ((q 36), aI g 160 xf), ((q 37), aI g 160 xt), (h0, .inr (10, mob q rf n mm mb u31.1 u31.2 av ev wi mn tp tc sc nf fd me mp xn mt wh tq ag an ig))] H := hP
                    have hD : va_D A [((q 2), aI g 600 bs), ((q 3), aI g 2 ru), ((q 4), aI g 12 rs), ((q 5), aI g 480 rt), ((q 14), aI g 620 tg), ((q 15), aI g 620 tl), ((q 16), aI g 620 on), ((q 17), aI g 620 tw), ((q 27), aI g 160 fl), ((q 28), aI g 160 pl), ((q 29), aI g 160 na), ((q 30), aI g 160 ty), ((q 31), aI g 160 ca), ((q 32), aI g 160 sk), ((q 33), aI g 160 lo), ((q 34), aI g 160 bg), ((q 35), aI g 160 ln), ((q 36), aI g 160 xf), ((q 37), aI g 160 xt), (h0, .inr (10, mob q rf n mm mb u31.1 u31.2 av ev wi mn tp tc sc nf fd me mp xn mt wh tq ag an ig))] := hD
                    have hP : va_P g.1 classes [(h0, .inr (10, mob q rf n mm mb u31.1 u31.2 av ev wi mn tp tc sc nf fd me mp xn mt wh tq ag an ig)), ((q 2), aI g 600 bs), ((q 3), aI g 2 ru), ((q 4), aI g 12 rs), ((q 5), aI g 480 rt), ((q 14), aI g 620 tg), ((q 15), aI g 620 tl), ((q 16), aI g 620 on), ((q 17), aI g 620 tw), ((q 27), aI g 160 fl), ((q 28), aI g 160 pl), ((q 29), aI g 160 na), ((q 30), aI g 160 ty), ((q 31), aI g 160 ca), ((q 32), aI g 160 sk), ((q 33), aI g 160 lo), ((q 34), aI g 160 bg), ((q 35), aI g 160 ln), ((q 36), aI g 160 xf), ((q 37), aI g 160 xt)] H := hP.sub [19, 0, 1, 2, 3, 4, 5, 6, 7, 8, 9, 10, 11, 12, 13, 14, 15, 16, 17, 18] rfl
                    have hD : va_D A [(h0, .inr (10, mob q rf n mm mb u31.1 u31.2 av ev wi mn tp tc sc nf fd me mp xn mt wh tq ag an ig)), ((q 2), aI g 600 bs), ((q 3), aI g 2 ru), ((q 4), aI g 12 rs), ((q 5), aI g 480 rt), ((q 14), aI g 620 tg), ((q 15), aI g 620 tl), ((q 16), aI g 620 on), ((q 17), aI g 620 tw), ((q 27), aI g 160 fl), ((q 28), aI g 160 pl), ((q 29), aI g 160 na), ((q 30), aI g 160 ty), ((q 31), aI g 160 ca), ((q 32), aI g 160 sk), ((q 33), aI g 160 lo), ((q 34), aI g 160 bg), ((q 35), aI g 160 ln), ((q 36), aI g 160 xf), ((q 37), aI g 160 xt)] := hD.sub [19, 0, 1, 2, 3, 4, 5, 6, 7, 8, 9, 10, 11, 12, 13, 14, 15, 16, 17, 18] (by decide) rfl
                    have hp31_0 := hr30
                    refine lv_iinc (k := 0) (v := nI (k + 1)) hx hb d_Mod_judge_151 hl rfl ((nI_succ k).symm) (by decide) rfl (fun ls hl => ?_)
                    have hl : lv_has ls 2 [(1, .int (nI (k + 1))), (0, .ref h0)] := hl
                    refine lv_goto (tgt := 56) hx hb d_Mod_judge_154 (by decide) ?_
                    have hP : va_P g.1 classes [(h0, .inr (10, mob q rf n mm mb u31.1 u31.2 av ev wi mn tp tc sc nf fd me mp xn mt wh tq ag an ig)), ((q 2), aI g 600 bs), ((q 3), aI g 2 ru), ((q 4), aI g 12 rs), ((q 5), aI g 480 rt), ((q 14), aI g 620 tg), ((q 15), aI g 620 tl), ((q 16), aI g 620 on), ((q 17), aI g 620 tw), ((q 27), aI g 160 fl), ((q 28), aI g 160 pl), ((q 29), aI g 160 na), ((q 30), aI g 160 ty), ((q 31), aI g 160 ca), ((q 32), aI g 160 sk), ((q 33), aI g 160 lo), ((q 34), aI g 160 bg), ((q 35), aI g 160 ln), ((q 36), aI g 160 xf), ((q 37), aI g 160 xt)] H := hP.sub [0, 1, 2, 3, 4, 5, 6, 7, 8, 9, 10, 11, 12, 13, 14, 15, 16, 17, 18, 19] rfl
                    have hD : va_D A [(h0, .inr (10, mob q rf n mm mb u31.1 u31.2 av ev wi mn tp tc sc nf fd me mp xn mt wh tq ag an ig)), ((q 2), aI g 600 bs), ((q 3), aI g 2 ru), ((q 4), aI g 12 rs), ((q 5), aI g 480 rt), ((q 14), aI g 620 tg), ((q 15), aI g 620 tl), ((q 16), aI g 620 on), ((q 17), aI g 620 tw), ((q 27), aI g 160 fl), ((q 28), aI g 160 pl), ((q 29), aI g 160 na), ((q 30), aI g 160 ty), ((q 31), aI g 160 ca), ((q 32), aI g 160 sk), ((q 33), aI g 160 lo), ((q 34), aI g 160 bg), ((q 35), aI g 160 ln), ((q 36), aI g 160 xf), ((q 37), aI g 160 xt)] := hD.sub [0, 1, 2, 3, 4, 5, 6, 7, 8, 9, 10, 11, 12, 13, 14, 15, 16, 17, 18, 19] (by decide) rfl
                    exact ih _ (by omega) (k + 1) u31.1 u31.2 ls _ _ rfl (fun h => absurd h hp31_0) (by omega) (by omega) (lv_sub hl [0, 1] rfl) hP hD hS
              · refine lv_aload_n hx hb d_Mod_judge_82 rfl (lv_at hl 1 rfl) ?_
                refine va_get (D := g.1) (ci := 10) (v := .ref (q 14)) (C := R_Mod) (T := F_Mod) (N := 61) hx hb hts in_Mod hown hK hP 0 rfl rfl 14 (by decide) (hts _ wd_1264) (fun _ h9 => h9) rfl d_Mod_judge_83 ?_
                refine lv_iload_n hx hb d_Mod_judge_86 rfl (lv_at hl 0 rfl) ?_
                refine va_iald hx hb hK hP 5 0 rfl rfl (vp_in_nI (by omega) (by decide)) d_Mod_judge_87 ?_
                refine tw_ri (e2 := tg k) (by rw [nI_clamp (by omega)]) ?_
                refine lv_bipush (v := 10) hx hb d_Mod_judge_88 (by decide) ?_
                refine lv_icmp_ne (tgt := 151) hx hb d_Mod_judge_90 (by decide) (fun h90 => ?_) (fun h90 => ?_)
                · refine lv_iinc (k := 0) (v := nI (k + 1)) hx hb d_Mod_judge_151 hl rfl ((nI_succ k).symm) (by decide) rfl (fun ls hl => ?_)
                  have hl : lv_has ls 2 [(1, .int (nI (k + 1))), (0, .ref h0)] := hl
                  refine lv_goto (tgt := 56) hx hb d_Mod_judge_154 (by decide) ?_
                  have hP : va_P g.1 classes [(h0, .inr (10, mob q rf n mm mb fa9 fp9 av ev wi mn tp tc sc nf fd me mp xn mt wh tq ag an ig)), ((q 2), aI g 600 bs), ((q 3), aI g 2 ru), ((q 4), aI g 12 rs), ((q 5), aI g 480 rt), ((q 14), aI g 620 tg), ((q 15), aI g 620 tl), ((q 16), aI g 620 on), ((q 17), aI g 620 tw), ((q 27), aI g 160 fl), ((q 28), aI g 160 pl), ((q 29), aI g 160 na), ((q 30), aI g 160 ty), ((q 31), aI g 160 ca), ((q 32), aI g 160 sk), ((q 33), aI g 160 lo), ((q 34), aI g 160 bg), ((q 35), aI g 160 ln), ((q 36), aI g 160 xf), ((q 37), aI g 160 xt)] H := hP.sub [0, 1, 2, 3, 4, 5, 6, 7, 8, 9, 10, 11, 12, 13, 14, 15, 16, 17, 18, 19] rfl
                  have hD : va_D A [(h0, .inr (10, mob q rf n mm mb fa9 fp9 av ev wi mn tp tc sc nf fd me mp xn mt wh tq ag an ig)), ((q 2), aI g 600 bs), ((q 3), aI g 2 ru), ((q 4), aI g 12 rs), ((q 5), aI g 480 rt), ((q 14), aI g 620 tg), ((q 15), aI g 620 tl), ((q 16), aI g 620 on), ((q 17), aI g 620 tw), ((q 27), aI g 160 fl), ((q 28), aI g 160 pl), ((q 29), aI g 160 na), ((q 30), aI g 160 ty), ((q 31), aI g 160 ca), ((q 32), aI g 160 sk), ((q 33), aI g 160 lo), ((q 34), aI g 160 bg), ((q 35), aI g 160 ln), ((q 36), aI g 160 xf), ((q 37), aI g 160 xt)] := hD.sub [0, 1, 2, 3, 4, 5, 6, 7, 8, 9, 10, 11, 12, 13, 14, 15, 16, 17, 18, 19] (by decide) rfl
                  exact ih _ (by omega) (k + 1) fa9 fp9 ls _ _ rfl (fun _ => hz26) (by omega) (by omega) (lv_sub hl [0, 1] rfl) hP hD hS
                · obtain ⟨j7, jo, po, lo1, y1, y2, y3, y4, y5, y6, y7⟩ := lk_own hLCA hTX hmn (by omega) (by omega) (Or.inr h90)
                  refine lv_aload_n hx hb d_Mod_judge_93 rfl (lv_at hl 1 rfl) ?_
                  refine lv_aload_n hx hb d_Mod_judge_94 rfl (lv_at hl 1 rfl) ?_
                  refine va_get (D := g.1) (ci := 10) (v := .ref (q 16)) (C := R_Mod) (T := F_Mod) (N := 61) hx hb hts in_Mod hown hK hP 0 rfl rfl 16 (by decide) (hts _ wd_1266) (fun _ h9 => h9) rfl d_Mod_judge_95 ?_
                  refine lv_aload_n hx hb d_Mod_judge_98 rfl (lv_at hl 1 rfl) ?_
                  refine va_get (D := g.1) (ci := 10) (v := .ref (q 16)) (C := R_Mod) (T := F_Mod) (N := 61) hx hb hts in_Mod hown hK hP 0 rfl rfl 16 (by decide) (hts _ wd_1266) (fun _ h9 => h9) rfl d_Mod_judge_99 ?_
                  refine lv_iload_n hx hb d_Mod_judge_102 rfl (lv_at hl 0 rfl) ?_
                  refine va_iald hx hb hK hP 7 0 rfl rfl (vp_in_nI (by omega) (by decide)) d_Mod_judge_103 ?_
                  refine tw_ri (e2 := nI j7) (by rw [nI_clamp (by omega)]; exact y1) ?_
                  refine va_iald hx hb hK hP 7 0 rfl rfl (vp_in_nI (by omega) (by decide)) d_Mod_judge_104 ?_
                  refine tw_ri (e2 := nI jo) (by rw [nI_clamp (by omega)]; exact y3) ?_
                  refine lv_aload_n hx hb d_Mod_judge_105 rfl (lv_at hl 1 rfl) ?_
                  refine va_get (D := g.1) (ci := 10) (v := .ref (q 16)) (C := R_Mod) (T := F_Mod) (N := 61) hx hb hts in_Mod hown hK hP 0 rfl rfl 16 (by decide) (hts _ wd_1266) (fun _ h9 => h9) rfl d_Mod_judge_106 ?_
                  refine lv_aload_n hx hb d_Mod_judge_109 rfl (lv_at hl 1 rfl) ?_
                  refine va_get (D := g.1) (ci := 10) (v := .int tc) (C := R_Mod) (T := F_Mod) (N := 61) hx hb hts in_Mod hown hK hP 0 rfl rfl 19 (by decide) (hts _ wd_1269) (fun _ h9 => h9) rfl d_Mod_judge_110 ?_
                  refine va_iald hx hb hK hP 7 0 rfl rfl (by rw [x1c]; exact vp_in_nI (by omega) (by decide)) d_Mod_judge_113 ?_
                  refine tw_ri (e2 := nI jx) (by rw [x1c, nI_clamp (by omega)]; exact x3c) ?_
                  refine tw_si (tw_runV (ws := [(h0, .inr (10, mob q rf n mm mb fa9 fp9 av ev wi mn tp tc sc nf fd me mp xn mt wh tq ag an ig)), ((q 2), aI g 600 bs), ((q 3), aI g 2 ru), ((q 4), aI g 12 rs), ((q 5), aI g 480 rt), ((q 14), aI g 620 tg), ((q 15), aI g 620 tl), ((q 16), aI g 620 on), ((q 17), aI g 620 tw), ((q 27), aI g 160 fl), ((q 28), aI g 160 pl), ((q 29), aI g 160 na), ((q 30), aI g 160 ty), ((q 31), aI g 160 ca), ((q 32), aI g 160 sk), ((q 33), aI g 160 lo), ((q 34), aI g 160 bg), ((q 35), aI g 160 ln), ((q 36), aI g 160 xf), ((q 37), aI g 160 xt)]) (wc := [(h0, .inr (10, mob q rf n mm mb fa9 fp9 av ev wi mn tp tc sc nf fd me mp xn mt wh tq ag an ig)), ((q 2), aI g 600 bs), ((q 16), aI g 620 on), ((q 17), aI g 620 tw)]) (As := [.int (nI jo), .int (nI jx)]) (rest := []) E hB hK hZ (g_Mod_sameTexts l g H.size h0 q rf n mm mb fa9 fp9 av ev wi mn tp tc sc nf fd me mp xn mt wh tq ag an ig bs on tw jo jx po lo1 px lx (by omega) y5 y6 y7 (by omega) x5c x6c x7c) mc_Mod_sameTexts mi_Mod_sameTexts me_Mod_sameTexts wd_1579 hP hD hS hA [0, 1, 7, 8] rfl (by decide) 0 rfl rfl rfl rfl rfl (by decide) rfl hl.1 rfl (Nat.le_of_ble_eq_true rfl) (by decide) d_Mod_judge_114) (fun r32 hr32 => ?_)
                  have hB32 := hr32
                  refine lv_if_ne (tgt := 151) hx hb d_Mod_judge_117 (by decide) (fun h117 => ?_) (fun h117 => ?_)
                  · refine lv_iinc (k := 0) (v := nI (k + 1)) hx hb d_Mod_judge_151 hl rfl ((nI_succ k).symm) (by decide) rfl (fun ls hl => ?_)
                    have hl : lv_has ls 2 [(1, .int (nI (k + 1))), (0, .ref h0)] := hl
                    refine lv_goto (tgt := 56) hx hb d_Mod_judge_154 (by decide) ?_
                    have hP : va_P g.1 classes [(h0, .inr (10, mob q rf n mm mb fa9 fp9 av ev wi mn tp tc sc nf fd me mp xn mt wh tq ag an ig)), ((q 2), aI g 600 bs), ((q 3), aI g 2 ru), ((q 4), aI g 12 rs), ((q 5), aI g 480 rt), ((q 14), aI g 620 tg), ((q 15), aI g 620 tl), ((q 16), aI g 620 on), ((q 17), aI g 620 tw), ((q 27), aI g 160 fl), ((q 28), aI g 160 pl), ((q 29), aI g 160 na), ((q 30), aI g 160 ty), ((q 31), aI g 160 ca), ((q 32), aI g 160 sk), ((q 33), aI g 160 lo), ((q 34), aI g 160 bg), ((q 35), aI g 160 ln), ((q 36), aI g 160 xf), ((q 37), aI g 160 xt)] H := hP.sub [0, 1, 2, 3, 4, 5, 6, 7, 8, 9, 10, 11, 12, 13, 14, 15, 16, 17, 18, 19] rfl
                    have hD : va_D A [(h0, .inr (10, mob q rf n mm mb fa9 fp9 av ev wi mn tp tc sc nf fd me mp xn mt wh tq ag an ig)), ((q 2), aI g 600 bs), ((q 3), aI g 2 ru), ((q 4), aI g 12 rs), ((q 5), aI g 480 rt), ((q 14), aI g 620 tg), ((q 15), aI g 620 tl), ((q 16), aI g 620 on), ((q 17), aI g 620 tw), ((q 27), aI g 160 fl), ((q 28), aI g 160 pl), ((q 29), aI g 160 na), ((q 30), aI g 160 ty), ((q 31), aI g 160 ca), ((q 32), aI g 160 sk), ((q 33), aI g 160 lo), ((q 34), aI g 160 bg), ((q 35), aI g 160 ln), ((q 36), aI g 160 xf), ((q 37), aI g 160 xt)] := hD.sub [0, 1, 2, 3, 4, 5, 6, 7, 8, 9, 10, 11, 12, 13, 14, 15, 16, 17, 18, 19] (by decide) rfl
                    exact ih _ (by omega) (k + 1) fa9 fp9 ls _ _ rfl (fun _ => hz26) (by omega) (by omega) (lv_sub hl [0, 1] rfl) hP hD hS
                  · refine lv_aload_n hx hb d_Mod_judge_120 rfl (lv_at hl 1 rfl) ?_
                    refine lv_aload_n hx hb d_Mod_judge_121 rfl (lv_at hl 1 rfl) ?_
                    refine va_get (D := g.1) (ci := 10) (v := .ref (q 16)) (C := R_Mod) (T := F_Mod) (N := 61) hx hb hts in_Mod hown hK hP 0 rfl rfl 16 (by decide) (hts _ wd_1266) (fun _ h9 => h9) rfl d_Mod_judge_122 ?_
                    refine lv_aload_n hx hb d_Mod_judge_125 rfl (lv_at hl 1 rfl) ?_
                    refine va_get (D := g.1) (ci := 10) (v := .ref (q 16)) (C := R_Mod) (T := F_Mod) (N := 61) hx hb hts in_Mod hown hK hP 0 rfl rfl 16 (by decide) (hts _ wd_1266) (fun _ h9 => h9) rfl d_Mod_judge_126 ?_
                    refine lv_iload_n hx hb d_Mod_judge_129 rfl (lv_at hl 0 rfl) ?_
                    refine va_iald hx hb hK hP 7 0 rfl rfl (vp_in_nI (by omega) (by decide)) d_Mod_judge_130 ?_
                    refine tw_ri (e2 := nI j7) (by rw [nI_clamp (by omega)]; exact y1) ?_
                    refine va_iald hx hb hK hP 7 0 rfl rfl (vp_in_nI (by omega) (by decide)) d_Mod_judge_131 ?_
                    refine tw_ri (e2 := nI jo) (by rw [nI_clamp (by omega)]; exact y3) ?_
                    refine lv_iconst (v := 1) hx hb d_Mod_judge_132 (by decide) ?_
                    refine tw_si (tw_runV (ws := [(h0, .inr (10, mob q rf n mm mb fa9 fp9 av ev wi mn tp tc sc nf fd me mp xn mt wh tq ag an ig)), ((q 2), aI g 600 bs), ((q 3), aI g 2 ru), ((q 4), aI g 12 rs), ((q 5), aI g 480 rt), ((q 14), aI g 620 tg), ((q 15), aI g 620 tl), ((q 16), aI g 620 on), ((q 17), aI g 620 tw), ((q 27), aI g 160 fl), ((q 28), aI g 160 pl), ((q 29), aI g 160 na), ((q 30), aI g 160 ty), ((q 31), aI g 160 ca), ((q 32), aI g 160 sk), ((q 33), aI g 160 lo), ((q 34), aI g 160 bg), ((q 35), aI g 160 ln), ((q 36), aI g 160 xf), ((q 37), aI g 160 xt)]) (wc := [(h0, .inr (10, mob q rf n mm mb fa9 fp9 av ev wi mn tp tc sc nf fd me mp xn mt wh tq ag an ig)), ((q 2), aI g 600 bs), ((q 3), aI g 2 ru), ((q 4), aI g 12 rs), ((q 5), aI g 480 rt), ((q 16), aI g 620 on), ((q 17), aI g 620 tw)]) (As := [.int (nI jo), .int 1]) (rest := []) E hB hK hZ (g_Mod_begins l g H.size h0 q rf n mm mb fa9 fp9 av ev wi mn tp tc sc nf fd me mp xn mt wh tq ag an ig bs ru rs rt on tw jo 1 po lo1 (by omega) y5 y6 y7 hru hrs (by decide)) mc_Mod_begins mi_Mod_begins me_Mod_begins wd_1587 hP hD hS hA [0, 1, 2, 3, 4, 7, 8] rfl (by decide) 0 rfl rfl rfl rfl rfl (by decide) rfl hl.1 rfl (Nat.le_of_ble_eq_true rfl) (by decide) d_Mod_judge_133) (fun r33 hr33 => ?_)
                    have hB33 := hr33
                    refine lv_if_ne (tgt := 151) hx hb d_Mod_judge_136 (by decide) (fun h136 => ?_) (fun h136 => ?_)
                    · refine lv_iinc (k := 0) (v := nI (k + 1)) hx hb d_Mod_judge_151 hl rfl ((nI_succ k).symm) (by decide) rfl (fun ls hl => ?_)
                      have hl : lv_has ls 2 [(1, .int (nI (k + 1))), (0, .ref h0)] := hl
                      refine lv_goto (tgt := 56) hx hb d_Mod_judge_154 (by decide) ?_
                      have hP : va_P g.1 classes [(h0, .inr (10, mob q rf n mm mb fa9 fp9 av ev wi mn tp tc sc nf fd me mp xn mt wh tq ag an ig)), ((q 2), aI g 600 bs), ((q 3), aI g 2 ru), ((q 4), aI g 12 rs), ((q 5), aI g 480 rt), ((q 14), aI g 620 tg), ((q 15), aI g 620 tl), ((q 16), aI g 620 on), ((q 17), aI g 620 tw), ((q 27), aI g 160 fl), ((q 28), aI g 160 pl), ((q 29), aI g 160 na), ((q 30), aI g 160 ty), ((q 31), aI g 160 ca), ((q 32), aI g 160 sk), ((q 33), aI g 160 lo), ((q 34), aI g 160 bg), ((q 35), aI g 160 ln), ((q 36), aI g 160 xf), ((q 37), aI g 160 xt)] H := hP.sub [0, 1, 2, 3, 4, 5, 6, 7, 8, 9, 10, 11, 12, 13, 14, 15, 16, 17, 18, 19] rfl
                      have hD : va_D A [(h0, .inr (10, mob q rf n mm mb fa9 fp9 av ev wi mn tp tc sc nf fd me mp xn mt wh tq ag an ig)), ((q 2), aI g 600 bs), ((q 3), aI g 2 ru), ((q 4), aI g 12 rs), ((q 5), aI g 480 rt), ((q 14), aI g 620 tg), ((q 15), aI g 620 tl), ((q 16), aI g 620 on), ((q 17), aI g 620 tw), ((q 27), aI g 160 fl), ((q 28), aI g 160 pl), ((q 29), aI g 160 na), ((q 30), aI g 160 ty), ((q 31), aI g 160 ca), ((q 32), aI g 160 sk), ((q 33), aI g 160 lo), ((q 34), aI g 160 bg), ((q 35), aI g 160 ln), ((q 36), aI g 160 xf), ((q 37), aI g 160 xt)] := hD.sub [0, 1, 2, 3, 4, 5, 6, 7, 8, 9, 10, 11, 12, 13, 14, 15, 16, 17, 18, 19] (by decide) rfl
                      exact ih _ (by omega) (k + 1) fa9 fp9 ls _ _ rfl (fun _ => hz26) (by omega) (by omega) (lv_sub hl [0, 1] rfl) hP hD hS
                    · refine lv_aload_n hx hb d_Mod_judge_139 rfl (lv_at hl 1 rfl) ?_
                      refine lv_bipush (v := 15) hx hb d_Mod_judge_140 (by decide) ?_
                      refine lv_aload_n hx hb d_Mod_judge_142 rfl (lv_at hl 1 rfl) ?_
                      refine va_get (D := g.1) (ci := 10) (v := .ref (q 15)) (C := R_Mod) (T := F_Mod) (N := 61) hx hb hts in_Mod hown hK hP 0 rfl rfl 15 (by decide) (hts _ wd_1265) (fun _ h9 => h9) rfl d_Mod_judge_143 ?_
                      refine lv_iload_n hx hb d_Mod_judge_146 rfl (lv_at hl 0 rfl) ?_
                      refine va_iald hx hb hK hP 6 0 rfl rfl (vp_in_nI (by omega) (by decide)) d_Mod_judge_147 ?_
                      obtain ⟨x34, ex34⟩ : ∃ z : Int32, tl ((nI k).toNatClampNeg) = z := ⟨_, rfl⟩
                      refine tw_ri (e2 := x34) ex34 ?_
                      refine tw_wv (wr := [((q 2), aI g 600 bs), ((q 3), aI g 2 ru), ((q 4), aI g 12 rs), ((q 5), aI g 480 rt), ((q 14), aI g 620 tg), ((q 15), aI g 620 tl), ((q 16), aI g 620 on), ((q 17), aI g 620 tw), ((q 27), aI g 160 fl), ((q 28), aI g 160 pl), ((q 29), aI g 160 na), ((q 30), aI g 160 ty), ((q 31), aI g 160 ca), ((q 32), aI g 160 sk), ((q 33), aI g 160 lo), ((q 34), aI g 160 bg), ((q 35), aI g 160 ln), ((q 36), aI g 160 xf), ((q 37), aI g 160 xt)]) (tw_runV (ws := [(h0, .inr (10, mob q rf n mm mb fa9 fp9 av ev wi mn tp tc sc nf fd me mp xn mt wh tq ag an ig)), ((q 2), aI g 600 bs), ((q 3), aI g 2 ru), ((q 4), aI g 12 rs), ((q 5), aI g 480 rt), ((q 14), aI g 620 tg), ((q 15), aI g 620 tl), ((q 16), aI g 620 on), ((q 17), aI g 620 tw), ((q 27), aI g 160 fl), ((q 28), aI g 160 pl), ((q 29), aI g 160 na), ((q 30), aI g 160 ty), ((q 31), aI g 160 ca), ((q 32), aI g 160 sk), ((q 33), aI g 160 lo), ((q 34), aI g 160 bg), ((q 35), aI g 160 ln), ((q 36), aI g 160 xf), ((q 37), aI g 160 xt)]) (wc := [(h0, .inr (10, mob q rf n mm mb fa9 fp9 av ev wi mn tp tc sc nf fd me mp xn mt wh tq ag an ig))]) (As := [.int 15, .int x34]) (rest := []) E hB hK hZ (g_Mod_fail l g H.size h0 q rf n mm mb av ev wi mn tp tc sc nf fd me mp xn mt wh tq ag an ig fa9 fp9 15 x34 (by decide)) mc_Mod_fail mi_Mod_fail me_Mod_fail wd_1478 hP hD hS hA [0] rfl (by decide) 0 rfl rfl rfl rfl rfl (by decide) rfl hl.1 rfl (Nat.le_of_ble_eq_true rfl) (by decide) d_Mod_judge_148) hP hD hS hA [0] [1, 2, 3, 4, 5, 6, 7, 8, 9, 10, 11, 12, 13, 14, 15, 16, 17, 18, 19] rfl rfl (by decide) (by decide) (fun u36 H locs hr35 hP hD hS => ?_)
                      try dsimp only at hr35
                      have hP : va_P g.1 classes [((q 2), aI g 600 bs), ((q 3), aI g 2 ru), ((q 4), aI g 12 rs), ((q 5), aI g 480 rt), ((q 14), aI g 620 tg), ((q 15), aI g 620 tl), ((q 16), aI g 620 on), ((q 17), aI g 620 tw), ((q 27), aI g 160 fl), ((q 28), aI g 160 pl), ((q 29), aI g 160 na), ((q 30), aI g 160 ty), ((q 31), aI g 160 ca), ((q 32), aI g 160 sk), ((q 33), aI g 160 lo), ((q 34), aI g 160 bg), ((q 35), aI g 160 ln), ((q 36), aI g 160 xf), ((q 37), aI g 160 xt), (h0, .inr (10, mob q rf n mm mb u36.1 u36.2 av ev wi mn tp tc sc nf fd me mp xn mt wh tq ag an ig))] H := hP
                      have hD : va_D A [((q 2), aI g 600 bs), ((q 3), aI g 2 ru), ((q 4), aI g 12 rs), ((q 5), aI g 480 rt), ((q 14), aI g 620 tg), ((q 15), aI g 620 tl), ((q 16), aI g 620 on), ((q 17), aI g 620 tw), ((q 27), aI g 160 fl), ((q 28), aI g 160 pl), ((q 29), aI g 160 na), ((q 30), aI g 160 ty), ((q 31), aI g 160 ca), ((q 32), aI g 160 sk), ((q 33), aI g 160 lo), ((q 34), aI g 160 bg), ((q 35), aI g 160 ln), ((q 36), aI g 160 xf), ((q 37), aI g 160 xt), (h0, .inr (10, mob q rf n mm mb u36.1 u36.2 av ev wi mn tp tc sc nf fd me mp xn mt wh tq ag an ig))] := hD
                      have hP : va_P g.1 classes [(h0, .inr (10, mob q rf n mm mb u36.1 u36.2 av ev wi mn tp tc sc nf fd me mp xn mt wh tq ag an ig)), ((q 2), aI g 600 bs), ((q 3), aI g 2 ru), ((q 4), aI g 12 rs), ((q 5), aI g 480 rt), ((q 14), aI g 620 tg), ((q 15), aI g 620 tl), ((q 16), aI g 620 on), ((q 17), aI g 620 tw), ((q 27), aI g 160 fl), ((q 28), aI g 160 pl), ((q 29), aI g 160 na), ((q 30), aI g 160 ty), ((q 31), aI g 160 ca), ((q 32), aI g 160 sk), ((q 33), aI g 160 lo), ((q 34), aI g 160 bg), ((q 35), aI g 160 ln), ((q 36), aI g 160 xf), ((q 37), aI g 160 xt)] H := hP.sub [19, 0, 1, 2, 3, 4, 5, 6, 7, 8, 9, 10, 11, 12, 13, 14, 15, 16, 17, 18] rfl
                      have hD : va_D A [(h0, .inr (10, mob q rf n mm mb u36.1 u36.2 av ev wi mn tp tc sc nf fd me mp xn mt wh tq ag an ig)), ((q 2), aI g 600 bs), ((q 3), aI g 2 ru), ((q 4), aI g 12 rs), ((q 5), aI g 480 rt), ((q 14), aI g 620 tg), ((q 15), aI g 620 tl), ((q 16), aI g 620 on), ((q 17), aI g 620 tw), ((q 27), aI g 160 fl), ((q 28), aI g 160 pl), ((q 29), aI g 160 na), ((q 30), aI g 160 ty), ((q 31), aI g 160 ca), ((q 32), aI g 160 sk), ((q 33), aI g 160 lo), ((q 34), aI g 160 bg), ((q 35), aI g 160 ln), ((q 36), aI g 160 xf), ((q 37), aI g 160 xt)] := hD.sub [19, 0, 1, 2, 3, 4, 5, 6, 7, 8, 9, 10, 11, 12, 13, 14, 15, 16, 17, 18] (by decide) rfl
                      have hp36_0 := hr35
                      refine lv_iinc (k := 0) (v := nI (k + 1)) hx hb d_Mod_judge_151 hl rfl ((nI_succ k).symm) (by decide) rfl (fun ls hl => ?_)
                      have hl : lv_has ls 2 [(1, .int (nI (k + 1))), (0, .ref h0)] := hl
                      refine lv_goto (tgt := 56) hx hb d_Mod_judge_154 (by decide) ?_
                      have hP : va_P g.1 classes [(h0, .inr (10, mob q rf n mm mb u36.1 u36.2 av ev wi mn tp tc sc nf fd me mp xn mt wh tq ag an ig)), ((q 2), aI g 600 bs), ((q 3), aI g 2 ru), ((q 4), aI g 12 rs), ((q 5), aI g 480 rt), ((q 14), aI g 620 tg), ((q 15), aI g 620 tl), ((q 16), aI g 620 on), ((q 17), aI g 620 tw), ((q 27), aI g 160 fl), ((q 28), aI g 160 pl), ((q 29), aI g 160 na), ((q 30), aI g 160 ty), ((q 31), aI g 160 ca), ((q 32), aI g 160 sk), ((q 33), aI g 160 lo), ((q 34), aI g 160 bg), ((q 35), aI g 160 ln), ((q 36), aI g 160 xf), ((q 37), aI g 160 xt)] H := hP.sub [0, 1, 2, 3, 4, 5, 6, 7, 8, 9, 10, 11, 12, 13, 14, 15, 16, 17, 18, 19] rfl
                      have hD : va_D A [(h0, .inr (10, mob q rf n mm mb u36.1 u36.2 av ev wi mn tp tc sc nf fd me mp xn mt wh tq ag an ig)), ((q 2), aI g 600 bs), ((q 3), aI g 2 ru), ((q 4), aI g 12 rs), ((q 5), aI g 480 rt), ((q 14), aI g 620 tg), ((q 15), aI g 620 tl), ((q 16), aI g 620 on), ((q 17), aI g 620 tw), ((q 27), aI g 160 fl), ((q 28), aI g 160 pl), ((q 29), aI g 160 na), ((q 30), aI g 160 ty), ((q 31), aI g 160 ca), ((q 32), aI g 160 sk), ((q 33), aI g 160 lo), ((q 34), aI g 160 bg), ((q 35), aI g 160 ln), ((q 36), aI g 160 xf), ((q 37), aI g 160 xt)] := hD.sub [0, 1, 2, 3, 4, 5, 6, 7, 8, 9, 10, 11, 12, 13, 14, 15, 16, 17, 18, 19] (by decide) rfl
                      exact ih _ (by omega) (k + 1) u36.1 u36.2 ls _ _ rfl (fun h => absurd h hp36_0) (by omega) (by omega) (lv_sub hl [0, 1] rfl) hP hD hS
      exact loop56 _ 1 fa fp ls _ _ rfl (fun h => h) (by omega) (Nat.le_refl _) (hl) hP hD hS
    · refine lv_aload_n hx hb d_Mod_judge_44 rfl (lv_at hl 0 rfl) ?_
      refine lv_bipush (v := 14) hx hb d_Mod_judge_45 (by decide) ?_
      refine lv_aload_n hx hb d_Mod_judge_47 rfl (lv_at hl 0 rfl) ?_
      refine va_get (D := g.1) (ci := 10) (v := .int tp) (C := R_Mod) (T := F_Mod) (N := 61) hx hb hts in_Mod hown hK hP 0 rfl rfl 18 (by decide) (hts _ wd_1268) (fun _ h9 => h9) rfl d_Mod_judge_48 ?_
      refine tw_wv (wr := [((q 2), aI g 600 bs), ((q 3), aI g 2 ru), ((q 4), aI g 12 rs), ((q 5), aI g 480 rt), ((q 14), aI g 620 tg), ((q 15), aI g 620 tl), ((q 16), aI g 620 on), ((q 17), aI g 620 tw), ((q 27), aI g 160 fl), ((q 28), aI g 160 pl), ((q 29), aI g 160 na), ((q 30), aI g 160 ty), ((q 31), aI g 160 ca), ((q 32), aI g 160 sk), ((q 33), aI g 160 lo), ((q 34), aI g 160 bg), ((q 35), aI g 160 ln), ((q 36), aI g 160 xf), ((q 37), aI g 160 xt)]) (tw_runV (ws := [(h0, .inr (10, mob q rf n mm mb fa fp av ev wi mn tp tc sc nf fd me mp xn mt wh tq ag an ig)), ((q 2), aI g 600 bs), ((q 3), aI g 2 ru), ((q 4), aI g 12 rs), ((q 5), aI g 480 rt), ((q 14), aI g 620 tg), ((q 15), aI g 620 tl), ((q 16), aI g 620 on), ((q 17), aI g 620 tw), ((q 27), aI g 160 fl), ((q 28), aI g 160 pl), ((q 29), aI g 160 na), ((q 30), aI g 160 ty), ((q 31), aI g 160 ca), ((q 32), aI g 160 sk), ((q 33), aI g 160 lo), ((q 34), aI g 160 bg), ((q 35), aI g 160 ln), ((q 36), aI g 160 xf), ((q 37), aI g 160 xt)]) (wc := [(h0, .inr (10, mob q rf n mm mb fa fp av ev wi mn tp tc sc nf fd me mp xn mt wh tq ag an ig))]) (As := [.int 14, .int tp]) (rest := []) E hB hK hZ (g_Mod_fail l g H.size h0 q rf n mm mb av ev wi mn tp tc sc nf fd me mp xn mt wh tq ag an ig fa fp 14 tp (by decide)) mc_Mod_fail mi_Mod_fail me_Mod_fail wd_1478 hP hD hS hA [0] rfl (by decide) 0 rfl rfl rfl rfl rfl (by decide) rfl hl.1 rfl (Nat.le_of_ble_eq_true rfl) (by decide) d_Mod_judge_51) hP hD hS hA [0] [1, 2, 3, 4, 5, 6, 7, 8, 9, 10, 11, 12, 13, 14, 15, 16, 17, 18, 19] rfl rfl (by decide) (by decide) (fun u38 H locs hr37 hP hD hS => ?_)
      try dsimp only at hr37
      have hP : va_P g.1 classes [((q 2), aI g 600 bs), ((q 3), aI g 2 ru), ((q 4), aI g 12 rs), ((q 5), aI g 480 rt), ((q 14), aI g 620 tg), ((q 15), aI g 620 tl), ((q 16), aI g 620 on), ((q 17), aI g 620 tw), ((q 27), aI g 160 fl), ((q 28), aI g 160 pl), ((q 29), aI g 160 na), ((q 30), aI g 160 ty), ((q 31), aI g 160 ca), ((q 32), aI g 160 sk), ((q 33), aI g 160 lo), ((q 34), aI g 160 bg), ((q 35), aI g 160 ln), ((q 36), aI g 160 xf), ((q 37), aI g 160 xt), (h0, .inr (10, mob q rf n mm mb u38.1 u38.2 av ev wi mn tp tc sc nf fd me mp xn mt wh tq ag an ig))] H := hP
      have hD : va_D A [((q 2), aI g 600 bs), ((q 3), aI g 2 ru), ((q 4), aI g 12 rs), ((q 5), aI g 480 rt), ((q 14), aI g 620 tg), ((q 15), aI g 620 tl), ((q 16), aI g 620 on), ((q 17), aI g 620 tw), ((q 27), aI g 160 fl), ((q 28), aI g 160 pl), ((q 29), aI g 160 na), ((q 30), aI g 160 ty), ((q 31), aI g 160 ca), ((q 32), aI g 160 sk), ((q 33), aI g 160 lo), ((q 34), aI g 160 bg), ((q 35), aI g 160 ln), ((q 36), aI g 160 xf), ((q 37), aI g 160 xt), (h0, .inr (10, mob q rf n mm mb u38.1 u38.2 av ev wi mn tp tc sc nf fd me mp xn mt wh tq ag an ig))] := hD
      have hP : va_P g.1 classes [(h0, .inr (10, mob q rf n mm mb u38.1 u38.2 av ev wi mn tp tc sc nf fd me mp xn mt wh tq ag an ig)), ((q 2), aI g 600 bs), ((q 3), aI g 2 ru), ((q 4), aI g 12 rs), ((q 5), aI g 480 rt), ((q 14), aI g 620 tg), ((q 15), aI g 620 tl), ((q 16), aI g 620 on), ((q 17), aI g 620 tw), ((q 27), aI g 160 fl), ((q 28), aI g 160 pl), ((q 29), aI g 160 na), ((q 30), aI g 160 ty), ((q 31), aI g 160 ca), ((q 32), aI g 160 sk), ((q 33), aI g 160 lo), ((q 34), aI g 160 bg), ((q 35), aI g 160 ln), ((q 36), aI g 160 xf), ((q 37), aI g 160 xt)] H := hP.sub [19, 0, 1, 2, 3, 4, 5, 6, 7, 8, 9, 10, 11, 12, 13, 14, 15, 16, 17, 18] rfl
      have hD : va_D A [(h0, .inr (10, mob q rf n mm mb u38.1 u38.2 av ev wi mn tp tc sc nf fd me mp xn mt wh tq ag an ig)), ((q 2), aI g 600 bs), ((q 3), aI g 2 ru), ((q 4), aI g 12 rs), ((q 5), aI g 480 rt), ((q 14), aI g 620 tg), ((q 15), aI g 620 tl), ((q 16), aI g 620 on), ((q 17), aI g 620 tw), ((q 27), aI g 160 fl), ((q 28), aI g 160 pl), ((q 29), aI g 160 na), ((q 30), aI g 160 ty), ((q 31), aI g 160 ca), ((q 32), aI g 160 sk), ((q 33), aI g 160 lo), ((q 34), aI g 160 bg), ((q 35), aI g 160 ln), ((q 36), aI g 160 xf), ((q 37), aI g 160 xt)] := hD.sub [19, 0, 1, 2, 3, 4, 5, 6, 7, 8, 9, 10, 11, 12, 13, 14, 15, 16, 17, 18] (by decide) rfl
      have hp38_0 := hr37
      refine lv_iconst (v := 1) hx hb d_Mod_judge_54 (by decide) ?_
      refine lv_istore_n hx hb d_Mod_judge_55 rfl hl (by decide) rfl (fun ls hl => ?_)
      have hl : lv_has ls 2 [(1, .int 1), (0, .ref h0)] := hl
      have loop56 : ∀ (kq : Nat) (k : Nat) (fa9 : Int32) (fp9 : Int32) (ls : Array Slot) (H : Heap) (locs : List Loc) , mn - k = kq → (hc9 : fa9 = 0 → u38.1 = 0) → (huk : k ≤ 700) → (hk1 : 1 ≤ k) → lv_has ls 2 [(1, .int (nI k)), (0, .ref h0)] → va_P g.1 classes [(h0, .inr (10, mob q rf n mm mb fa9 fp9 av ev wi mn tp tc sc nf fd me mp xn mt wh tq ag an ig)), ((q 2), aI g 600 bs), ((q 3), aI g 2 ru), ((q 4), aI g 12 rs), ((q 5), aI g 480 rt), ((q 14), aI g 620 tg), ((q 15), aI g 620 tl), ((q 16), aI g 620 on), ((q 17), aI g 620 tw), ((q 27), aI g 160 fl), ((q 28), aI g 160 pl), ((q 29), aI g 160 na), ((q 30), aI g 160 ty), ((q 31), aI g 160 ca), ((q 32), aI g 160 sk), ((q 33), aI g 160 lo), ((q 34), aI g 160 bg), ((q 35), aI g 160 ln), ((q 36), aI g 160 xf), ((q 37), aI g 160 xt)] H → va_D A [(h0, .inr (10, mob q rf n mm mb fa9 fp9 av ev wi mn tp tc sc nf fd me mp xn mt wh tq ag an ig)), ((q 2), aI g 600 bs), ((q 3), aI g 2 ru), ((q 4), aI g 12 rs), ((q 5), aI g 480 rt), ((q 14), aI g 620 tg), ((q 15), aI g 620 tl), ((q 16), aI g 620 on), ((q 17), aI g 620 tw), ((q 27), aI g 160 fl), ((q 28), aI g 160 pl), ((q 29), aI g 160 na), ((q 30), aI g 160 ty), ((q 31), aI g 160 ca), ((q 32), aI g 160 sk), ((q 33), aI g 160 lo), ((q 34), aI g 160 bg), ((q 35), aI g 160 ln), ((q 36), aI g 160 xf), ((q 37), aI g 160 xt)] → va_S A s.heap H locs → W p l e ({ frames := 1, cells := 0, slots := 0, locals := 26 }) s m [.ref h0].toArray below meth c H locs 0 0 (MQ below (tw_Qv g (fun (u : Int32 × Int32) => (u.1 = 0 → fa = 0) ∧ (u.1 = 0 → ∀ j, fd ≤ j → j < me → ¬ ca j ≤ 0 → SL64 sk lo j)) (fun u : Int32 × Int32 => [(h0, .inr (10, mob q rf n mm mb u.1 u.2 av ev wi mn tp tc sc nf fd me mp xn mt wh tq ag an ig)), ((q 2), aI g 600 bs), ((q 3), aI g 2 ru), ((q 4), aI g 12 rs), ((q 5), aI g 480 rt), ((q 14), aI g 620 tg), ((q 15), aI g 620 tl), ((q 16), aI g 620 on), ((q 17), aI g 620 tw), ((q 27), aI g 160 fl), ((q 28), aI g 160 pl), ((q 29), aI g 160 na), ((q 30), aI g 160 ty), ((q 31), aI g 160 ca), ((q 32), aI g 160 sk), ((q 33), aI g 160 lo), ((q 34), aI g 160 bg), ((q 35), aI g 160 ln), ((q 36), aI g 160 xf), ((q 37), aI g 160 xt)]) A) [.ref h0].toArray s 0 0 A) (F0 m 56 ls []) := by
        intro kq
        induction kq using Nat.strongRecOn with
        | _ kq ih =>
          intro k fa9 fp9 ls H locs hk hc9 huk hk1 hl hP hD hS
          refine lv_iload_n hx hb d_Mod_judge_56 rfl (lv_at hl 0 rfl) ?_
          refine lv_aload_n hx hb d_Mod_judge_57 rfl (lv_at hl 1 rfl) ?_
          refine va_get (D := g.1) (ci := 10) (v := .int (nI mn)) (C := R_Mod) (T := F_Mod) (N := 61) hx hb hts in_Mod hown hK hP 0 rfl rfl 13 (by decide) (hts _ wd_1263) (fun _ h9 => h9) rfl d_Mod_judge_58 ?_
          refine lv_icmp_ge (tgt := 157) hx hb d_Mod_judge_61 (by decide) (fun h61 => ?_) (fun h61 => ?_)
          · have h61 := tn_le h61 (by omega) (by omega)
            refine lv_aload_n hx hb d_Mod_judge_157 rfl (lv_at hl 1 rfl) ?_
            refine va_get (D := g.1) (ci := 10) (v := .int (nI fd)) (C := R_Mod) (T := F_Mod) (N := 61) hx hb hts in_Mod hown hK hP 0 rfl rfl 24 (by decide) (hts _ wd_1274) (fun _ h9 => h9) rfl d_Mod_judge_158 ?_
            refine lv_istore_n hx hb d_Mod_judge_161 rfl hl (by decide) rfl (fun ls hl => ?_)
            have hl : lv_has ls 2 [(1, .int (nI fd)), (0, .ref h0)] := hl
            have loop162 : ∀ (kq : Nat) (i : Nat) (fa8 : Int32) (fp8 : Int32) (ls : Array Slot) (H : Heap) (locs : List Loc) , me - i = kq → (hc8 : fa8 = 0 → fa9 = 0) → (hui : i ≤ 700) → (hfi : fd ≤ i) → (hJGk : fa8 = 0 → ∀ j, fd ≤ j → j < i → ¬ ca j ≤ 0 → SL64 sk lo j) → lv_has ls 2 [(1, .int (nI i)), (0, .ref h0)] → va_P g.1 classes [(h0, .inr (10, mob q rf n mm mb fa8 fp8 av ev wi mn tp tc sc nf fd me mp xn mt wh tq ag an ig)), ((q 2), aI g 600 bs), ((q 3), aI g 2 ru), ((q 4), aI g 12 rs), ((q 5), aI g 480 rt), ((q 14), aI g 620 tg), ((q 15), aI g 620 tl), ((q 16), aI g 620 on), ((q 17), aI g 620 tw), ((q 27), aI g 160 fl), ((q 28), aI g 160 pl), ((q 29), aI g 160 na), ((q 30), aI g 160 ty), ((q 31), aI g 160 ca), ((q 32), aI g 160 sk), ((q 33), aI g 160 lo), ((q 34), aI g 160 bg), ((q 35), aI g 160 ln), ((q 36), aI g 160 xf), ((q 37), aI g 160 xt)] H → va_D A [(h0, .inr (10, mob q rf n mm mb fa8 fp8 av ev wi mn tp tc sc nf fd me mp xn mt wh tq ag an ig)), ((q 2), aI g 600 bs), ((q 3), aI g 2 ru), ((q 4), aI g 12 rs), ((q 5), aI g 480 rt), ((q 14), aI g 620 tg), ((q 15), aI g 620 tl), ((q 16), aI g 620 on), ((q 17), aI g 620 tw), ((q 27), aI g 160 fl), ((q 28), aI g 160 pl), ((q 29), aI g 160 na), ((q 30), aI g 160 ty), ((q 31), aI g 160 ca), ((q 32), aI g 160 sk), ((q 33), aI g 160 lo), ((q 34), aI g 160 bg), ((q 35), aI g 160 ln), ((q 36), aI g 160 xf), ((q 37), aI g 160 xt)] → va_S A s.heap H locs → W p l e ({ frames := 1, cells := 0, slots := 0, locals := 26 }) s m [.ref h0].toArray below meth c H locs 0 0 (MQ below (tw_Qv g (fun (u : Int32 × Int32) => (u.1 = 0 → fa = 0) ∧ (u.1 = 0 → ∀ j, fd ≤ j → j < me → ¬ ca j ≤ 0 → SL64 sk lo j)) (fun u : Int32 × Int32 => [(h0, .inr (10, mob q rf n mm mb u.1 u.2 av ev wi mn tp tc sc nf fd me mp xn mt wh tq ag an ig)), ((q 2), aI g 600 bs), ((q 3), aI g 2 ru), ((q 4), aI g 12 rs), ((q 5), aI g 480 rt), ((q 14), aI g 620 tg), ((q 15), aI g 620 tl), ((q 16), aI g 620 on), ((q 17), aI g 620 tw), ((q 27), aI g 160 fl), ((q 28), aI g 160 pl), ((q 29), aI g 160 na), ((q 30), aI g 160 ty), ((q 31), aI g 160 ca), ((q 32), aI g 160 sk), ((q 33), aI g 160 lo), ((q 34), aI g 160 bg), ((q 35), aI g 160 ln), ((q 36), aI g 160 xf), ((q 37), aI g 160 xt)]) A) [.ref h0].toArray s 0 0 A) (F0 m 162 ls []) := by
              intro kq
              induction kq using Nat.strongRecOn with
              | _ kq ih162 =>
                intro i fa8 fp8 ls H locs hk162 hc8 hui hfi hJGk hl hP hD hS
                refine lv_iload_n hx hb d_Mod_judge_162 rfl (lv_at hl 0 rfl) ?_
                refine lv_aload_n hx hb d_Mod_judge_163 rfl (lv_at hl 1 rfl) ?_
                refine va_get (D := g.1) (ci := 10) (v := .int (nI me)) (C := R_Mod) (T := F_Mod) (N := 61) hx hb hts in_Mod hown hK hP 0 rfl rfl 25 (by decide) (hts _ wd_1275) (fun _ h9 => h9) rfl d_Mod_judge_164 ?_
                refine lv_icmp_ge (tgt := 290) hx hb d_Mod_judge_167 (by decide) (fun h167 => ?_) (fun h167 => ?_)
                · have h167 := tn_le h167 (by omega) (by omega)
                  exact tw_vret E hS (fa8, fp8) (⟨(fun h => absurd h (fun h => (fun h => hp38_0 (hc9 h)) (hc8 h))), (fun h => absurd h (fun h => (fun h => hp38_0 (hc9 h)) (hc8 h)))⟩) hP hD d_Mod_judge_290
                · have h167 := tn_nle h167 (by omega) (by omega)
                  refine lv_aload_n hx hb d_Mod_judge_170 rfl (lv_at hl 1 rfl) ?_
                  refine va_get (D := g.1) (ci := 10) (v := .int fa8) (C := R_Mod) (T := F_Mod) (N := 61) hx hb hts in_Mod hown hK hP 0 rfl rfl 8 (by decide) (hts _ wd_1258) (fun _ h9 => h9) rfl d_Mod_judge_171 ?_
                  refine lv_if_ne (tgt := 290) hx hb d_Mod_judge_174 (by decide) (fun h174 => ?_) (fun h174 => ?_)
                  · exact tw_vret E hS (fa8, fp8) (⟨(fun h => absurd h h174), (fun h => absurd h h174)⟩) hP hD d_Mod_judge_290
                  · exact absurd h174 (fun h => (fun h => hp38_0 (hc9 h)) (hc8 h))
            exact loop162 _ fd fa9 fp9 ls _ _ rfl (fun h => h) (by omega) (Nat.le_refl _) (fun _ j h1 h2 => absurd h2 (by omega)) (hl) hP hD hS
          · have h61 := tn_nle h61 (by omega) (by omega)
            refine lv_aload_n hx hb d_Mod_judge_64 rfl (lv_at hl 1 rfl) ?_
            refine va_get (D := g.1) (ci := 10) (v := .int fa9) (C := R_Mod) (T := F_Mod) (N := 61) hx hb hts in_Mod hown hK hP 0 rfl rfl 8 (by decide) (hts _ wd_1258) (fun _ h9 => h9) rfl d_Mod_judge_65 ?_
            refine lv_if_ne (tgt := 157) hx hb d_Mod_judge_68 (by decide) (fun h68 => ?_) (fun h68 => ?_)
            · refine lv_aload_n hx hb d_Mod_judge_157 rfl (lv_at hl 1 rfl) ?_
              refine va_get (D := g.1) (ci := 10) (v := .int (nI fd)) (C := R_Mod) (T := F_Mod) (N := 61) hx hb hts in_Mod hown hK hP 0 rfl rfl 24 (by decide) (hts _ wd_1274) (fun _ h9 => h9) rfl d_Mod_judge_158 ?_
              refine lv_istore_n hx hb d_Mod_judge_161 rfl hl (by decide) rfl (fun ls hl => ?_)
              have hl : lv_has ls 2 [(1, .int (nI fd)), (0, .ref h0)] := hl
              have loop162 : ∀ (kq : Nat) (i : Nat) (fa8 : Int32) (fp8 : Int32) (ls : Array Slot) (H : Heap) (locs : List Loc) , me - i = kq → (hc8 : fa8 = 0 → fa9 = 0) → (hui : i ≤ 700) → (hfi : fd ≤ i) → (hJGk : fa8 = 0 → ∀ j, fd ≤ j → j < i → ¬ ca j ≤ 0 → SL64 sk lo j) → lv_has ls 2 [(1, .int (nI i)), (0, .ref h0)] → va_P g.1 classes [(h0, .inr (10, mob q rf n mm mb fa8 fp8 av ev wi mn tp tc sc nf fd me mp xn mt wh tq ag an ig)), ((q 2), aI g 600 bs), ((q 3), aI g 2 ru), ((q 4), aI g 12 rs), ((q 5), aI g 480 rt), ((q 14), aI g 620 tg), ((q 15), aI g 620 tl), ((q 16), aI g 620 on), ((q 17), aI g 620 tw), ((q 27), aI g 160 fl), ((q 28), aI g 160 pl), ((q 29), aI g 160 na), ((q 30), aI g 160 ty), ((q 31), aI g 160 ca), ((q 32), aI g 160 sk), ((q 33), aI g 160 lo), ((q 34), aI g 160 bg), ((q 35), aI g 160 ln), ((q 36), aI g 160 xf), ((q 37), aI g 160 xt)] H → va_D A [(h0, .inr (10, mob q rf n mm mb fa8 fp8 av ev wi mn tp tc sc nf fd me mp xn mt wh tq ag an ig)), ((q 2), aI g 600 bs), ((q 3), aI g 2 ru), ((q 4), aI g 12 rs), ((q 5), aI g 480 rt), ((q 14), aI g 620 tg), ((q 15), aI g 620 tl), ((q 16), aI g 620 on), ((q 17), aI g 620 tw), ((q 27), aI g 160 fl), ((q 28), aI g 160 pl), ((q 29), aI g 160 na), ((q 30), aI g 160 ty), ((q 31), aI g 160 ca), ((q 32), aI g 160 sk), ((q 33), aI g 160 lo), ((q 34), aI g 160 bg), ((q 35), aI g 160 ln), ((q 36), aI g 160 xf), ((q 37), aI g 160 xt)] → va_S A s.heap H locs → W p l e ({ frames := 1, cells := 0, slots := 0, locals := 26 }) s m [.ref h0].toArray below meth c H locs 0 0 (MQ below (tw_Qv g (fun (u : Int32 × Int32) => (u.1 = 0 → fa = 0) ∧ (u.1 = 0 → ∀ j, fd ≤ j → j < me → ¬ ca j ≤ 0 → SL64 sk lo j)) (fun u : Int32 × Int32 => [(h0, .inr (10, mob q rf n mm mb u.1 u.2 av ev wi mn tp tc sc nf fd me mp xn mt wh tq ag an ig)), ((q 2), aI g 600 bs), ((q 3), aI g 2 ru), ((q 4), aI g 12 rs), ((q 5), aI g 480 rt), ((q 14), aI g 620 tg), ((q 15), aI g 620 tl), ((q 16), aI g 620 on), ((q 17), aI g 620 tw), ((q 27), aI g 160 fl), ((q 28), aI g 160 pl), ((q 29), aI g 160 na), ((q 30), aI g 160 ty), ((q 31), aI g 160 ca), ((q 32), aI g 160 sk), ((q 33), aI g 160 lo), ((q 34), aI g 160 bg), ((q 35), aI g 160 ln), ((q 36), aI g 160 xf), ((q 37), aI g 160 xt)]) A) [.ref h0].toArray s 0 0 A) (F0 m 162 ls []) := by
                intro kq
                induction kq using Nat.strongRecOn with
                | _ kq ih162 =>
                  intro i fa8 fp8 ls H locs hk162 hc8 hui hfi hJGk hl hP hD hS
                  refine lv_iload_n hx hb d_Mod_judge_162 rfl (lv_at hl 0 rfl) ?_
                  refine lv_aload_n hx hb d_Mod_judge_163 rfl (lv_at hl 1 rfl) ?_
                  refine va_get (D := g.1) (ci := 10) (v := .int (nI me)) (C := R_Mod) (T := F_Mod) (N := 61) hx hb hts in_Mod hown hK hP 0 rfl rfl 25 (by decide) (hts _ wd_1275) (fun _ h9 => h9) rfl d_Mod_judge_164 ?_
                  refine lv_icmp_ge (tgt := 290) hx hb d_Mod_judge_167 (by decide) (fun h167 => ?_) (fun h167 => ?_)
                  · have h167 := tn_le h167 (by omega) (by omega)
                    exact tw_vret E hS (fa8, fp8) (⟨(fun h => absurd h (fun h => h68 (hc8 h))), (fun h => absurd h (fun h => h68 (hc8 h)))⟩) hP hD d_Mod_judge_290
                  · have h167 := tn_nle h167 (by omega) (by omega)
                    refine lv_aload_n hx hb d_Mod_judge_170 rfl (lv_at hl 1 rfl) ?_
                    refine va_get (D := g.1) (ci := 10) (v := .int fa8) (C := R_Mod) (T := F_Mod) (N := 61) hx hb hts in_Mod hown hK hP 0 rfl rfl 8 (by decide) (hts _ wd_1258) (fun _ h9 => h9) rfl d_Mod_judge_171 ?_
                    refine lv_if_ne (tgt := 290) hx hb d_Mod_judge_174 (by decide) (fun h174 => ?_) (fun h174 => ?_)
                    · exact tw_vret E hS (fa8, fp8) (⟨(fun h => absurd h h174), (fun h => absurd h h174)⟩) hP hD d_Mod_judge_290
                    · exact absurd h174 (fun h => h68 (hc8 h))
              exact loop162 _ fd fa9 fp9 ls _ _ rfl (fun h => h) (by omega) (Nat.le_refl _) (fun _ j h1 h2 => absurd h2 (by omega)) (hl) hP hD hS
            · exact absurd h68 (fun h => hp38_0 (hc9 h))
      exact loop56 _ 1 u38.1 u38.2 ls _ _ rfl (fun h => h) (by omega) (Nat.le_refl _) (hl) hP hD hS
  · refine lv_aload_n hx hb d_Mod_judge_16 rfl (lv_at hl 0 rfl) ?_
    refine lv_bipush (v := 13) hx hb d_Mod_judge_17 (by decide) ?_
    refine lv_aload_n hx hb d_Mod_judge_19 rfl (lv_at hl 0 rfl) ?_
    refine va_get (D := g.1) (ci := 10) (v := .int mp) (C := R_Mod) (T := F_Mod) (N := 61) hx hb hts in_Mod hown hK hP 0 rfl rfl 26 (by decide) (hts _ wd_1276) (fun _ h9 => h9) rfl d_Mod_judge_20 ?_
    refine tw_wv (wr := [((q 2), aI g 600 bs), ((q 3), aI g 2 ru), ((q 4), aI g 12 rs), ((q 5), aI g 480 rt), ((q 14), aI g 620 tg), ((q 15), aI g 620 tl), ((q 16), aI g 620 on), ((q 17), aI g 620 tw), ((q 27), aI g 160 fl), ((q 28), aI g 160 pl), ((q 29), aI g 160 na), ((q 30), aI g 160 ty), ((q 31), aI g 160 ca), ((q 32), aI g 160 sk), ((q 33), aI g 160 lo), ((q 34), aI g 160 bg), ((q 35), aI g 160 ln), ((q 36), aI g 160 xf), ((q 37), aI g 160 xt)]) (tw_runV (ws := [(h0, .inr (10, mob q rf n mm mb fa fp av ev wi mn tp tc sc nf fd me mp xn mt wh tq ag an ig)), ((q 2), aI g 600 bs), ((q 3), aI g 2 ru), ((q 4), aI g 12 rs), ((q 5), aI g 480 rt), ((q 14), aI g 620 tg), ((q 15), aI g 620 tl), ((q 16), aI g 620 on), ((q 17), aI g 620 tw), ((q 27), aI g 160 fl), ((q 28), aI g 160 pl), ((q 29), aI g 160 na), ((q 30), aI g 160 ty), ((q 31), aI g 160 ca), ((q 32), aI g 160 sk), ((q 33), aI g 160 lo), ((q 34), aI g 160 bg), ((q 35), aI g 160 ln), ((q 36), aI g 160 xf), ((q 37), aI g 160 xt)]) (wc := [(h0, .inr (10, mob q rf n mm mb fa fp av ev wi mn tp tc sc nf fd me mp xn mt wh tq ag an ig))]) (As := [.int 13, .int mp]) (rest := []) E hB hK hZ (g_Mod_fail l g H.size h0 q rf n mm mb av ev wi mn tp tc sc nf fd me mp xn mt wh tq ag an ig fa fp 13 mp (by decide)) mc_Mod_fail mi_Mod_fail me_Mod_fail wd_1478 hP hD hS hA [0] rfl (by decide) 0 rfl rfl rfl rfl rfl (by decide) rfl hl.1 rfl (Nat.le_of_ble_eq_true rfl) (by decide) d_Mod_judge_23) hP hD hS hA [0] [1, 2, 3, 4, 5, 6, 7, 8, 9, 10, 11, 12, 13, 14, 15, 16, 17, 18, 19] rfl rfl (by decide) (by decide) (fun u40 H locs hr39 hP hD hS => ?_)
    try dsimp only at hr39
    have hP : va_P g.1 classes [((q 2), aI g 600 bs), ((q 3), aI g 2 ru), ((q 4), aI g 12 rs), ((q 5), aI g 480 rt), ((q 14), aI g 620 tg), ((q 15), aI g 620 tl), ((q 16), aI g 620 on), ((q 17), aI g 620 tw), ((q 27), aI g 160 fl), ((q 28), aI g 160 pl), ((q 29), aI g 160 na), ((q 30), aI g 160 ty), ((q 31), aI g 160 ca), ((q 32), aI g 160 sk), ((q 33), aI g 160 lo), ((q 34), aI g 160 bg), ((q 35), aI g 160 ln), ((q 36), aI g 160 xf), ((q 37), aI g 160 xt), (h0, .inr (10, mob q rf n mm mb u40.1 u40.2 av ev wi mn tp tc sc nf fd me mp xn mt wh tq ag an ig))] H := hP
    have hD : va_D A [((q 2), aI g 600 bs), ((q 3), aI g 2 ru), ((q 4), aI g 12 rs), ((q 5), aI g 480 rt), ((q 14), aI g 620 tg), ((q 15), aI g 620 tl), ((q 16), aI g 620 on), ((q 17), aI g 620 tw), ((q 27), aI g 160 fl), ((q 28), aI g 160 pl), ((q 29), aI g 160 na), ((q 30), aI g 160 ty), ((q 31), aI g 160 ca), ((q 32), aI g 160 sk), ((q 33), aI g 160 lo), ((q 34), aI g 160 bg), ((q 35), aI g 160 ln), ((q 36), aI g 160 xf), ((q 37), aI g 160 xt), (h0, .inr (10, mob q rf n mm mb u40.1 u40.2 av ev wi mn tp tc sc nf fd me mp xn mt wh tq ag an ig))] := hD
    have hP : va_P g.1 classes [(h0, .inr (10, mob q rf n mm mb u40.1 u40.2 av ev wi mn tp tc sc nf fd me mp xn mt wh tq ag an ig)), ((q 2), aI g 600 bs), ((q 3), aI g 2 ru), ((q 4), aI g 12 rs), ((q 5), aI g 480 rt), ((q 14), aI g 620 tg), ((q 15), aI g 620 tl), ((q 16), aI g 620 on), ((q 17), aI g 620 tw), ((q 27), aI g 160 fl), ((q 28), aI g 160 pl), ((q 29), aI g 160 na), ((q 30), aI g 160 ty), ((q 31), aI g 160 ca), ((q 32), aI g 160 sk), ((q 33), aI g 160 lo), ((q 34), aI g 160 bg), ((q 35), aI g 160 ln), ((q 36), aI g 160 xf), ((q 37), aI g 160 xt)] H := hP.sub [19, 0, 1, 2, 3, 4, 5, 6, 7, 8, 9, 10, 11, 12, 13, 14, 15, 16, 17, 18] rfl
    have hD : va_D A [(h0, .inr (10, mob q rf n mm mb u40.1 u40.2 av ev wi mn tp tc sc nf fd me mp xn mt wh tq ag an ig)), ((q 2), aI g 600 bs), ((q 3), aI g 2 ru), ((q 4), aI g 12 rs), ((q 5), aI g 480 rt), ((q 14), aI g 620 tg), ((q 15), aI g 620 tl), ((q 16), aI g 620 on), ((q 17), aI g 620 tw), ((q 27), aI g 160 fl), ((q 28), aI g 160 pl), ((q 29), aI g 160 na), ((q 30), aI g 160 ty), ((q 31), aI g 160 ca), ((q 32), aI g 160 sk), ((q 33), aI g 160 lo), ((q 34), aI g 160 bg), ((q 35), aI g 160 ln), ((q 36), aI g 160 xf), ((q 37), aI g 160 xt)] := hD.sub [19, 0, 1, 2, 3, 4, 5, 6, 7, 8, 9, 10, 11, 12, 13, 14, 15, 16, 17, 18] (by decide) rfl
    have hp40_0 := hr39
    exact tw_vret E hS (u40.1, u40.2) (⟨(fun h => absurd h hp40_0), (fun h => absurd h hp40_0)⟩) hP hD d_Mod_judge_26
end
section
theorem d_Mod_follows_0 : decode b_Mod_follows 0 = .ok (.iload_n 0, 1) := by decide +kernel
theorem d_Mod_follows_1 : decode b_Mod_follows 1 = .ok (.bipush 10, 2) := by decide +kernel
theorem d_Mod_follows_3 : decode b_Mod_follows 3 = .ok (.if_icmp .le 47, 3) := by decide +kernel
theorem d_Mod_follows_6 : decode b_Mod_follows 6 = .ok (.iload_n 0, 1) := by decide +kernel
theorem d_Mod_follows_7 : decode b_Mod_follows 7 = .ok (.bipush 26, 2) := by decide +kernel
theorem d_Mod_follows_9 : decode b_Mod_follows 9 = .ok (.bipush 33, 2) := by decide +kernel
theorem d_Mod_follows_11 : decode b_Mod_follows 11 = .ok (.invokestatic 136, 3) := by decide +kernel
theorem d_Mod_follows_14 : decode b_Mod_follows 14 = .ok (.ifCond .ne 36, 3) := by decide +kernel
theorem d_Mod_follows_17 : decode b_Mod_follows 17 = .ok (.iload_n 0, 1) := by decide +kernel
theorem d_Mod_follows_18 : decode b_Mod_follows 18 = .ok (.bipush 42, 2) := by decide +kernel
theorem d_Mod_follows_20 : decode b_Mod_follows 20 = .ok (.bipush 45, 2) := by decide +kernel
theorem d_Mod_follows_22 : decode b_Mod_follows 22 = .ok (.invokestatic 136, 3) := by decide +kernel
theorem d_Mod_follows_25 : decode b_Mod_follows 25 = .ok (.ifCond .ne 25, 3) := by decide +kernel
theorem d_Mod_follows_28 : decode b_Mod_follows 28 = .ok (.iload_n 0, 1) := by decide +kernel
theorem d_Mod_follows_29 : decode b_Mod_follows 29 = .ok (.bipush 59, 2) := by decide +kernel
theorem d_Mod_follows_31 : decode b_Mod_follows 31 = .ok (.bipush 66, 2) := by decide +kernel
theorem d_Mod_follows_33 : decode b_Mod_follows 33 = .ok (.invokestatic 136, 3) := by decide +kernel
theorem d_Mod_follows_36 : decode b_Mod_follows 36 = .ok (.ifCond .ne 14, 3) := by decide +kernel
theorem d_Mod_follows_39 : decode b_Mod_follows 39 = .ok (.iload_n 0, 1) := by decide +kernel
theorem d_Mod_follows_40 : decode b_Mod_follows 40 = .ok (.bipush 75, 2) := by decide +kernel
theorem d_Mod_follows_42 : decode b_Mod_follows 42 = .ok (.bipush 78, 2) := by decide +kernel
theorem d_Mod_follows_44 : decode b_Mod_follows 44 = .ok (.invokestatic 136, 3) := by decide +kernel
theorem d_Mod_follows_47 : decode b_Mod_follows 47 = .ok (.ifCond .eq 5, 3) := by decide +kernel
theorem d_Mod_follows_50 : decode b_Mod_follows 50 = .ok (.iconst 0, 1) := by decide +kernel
theorem d_Mod_follows_51 : decode b_Mod_follows 51 = .ok (.ireturn, 1) := by decide +kernel
theorem d_Mod_follows_52 : decode b_Mod_follows 52 = .ok (.iload_n 0, 1) := by decide +kernel
theorem d_Mod_follows_53 : decode b_Mod_follows 53 = .ok (.bipush 16, 2) := by decide +kernel
theorem d_Mod_follows_55 : decode b_Mod_follows 55 = .ok (.if_icmp .eq 45, 3) := by decide +kernel
theorem d_Mod_follows_58 : decode b_Mod_follows 58 = .ok (.iload_n 0, 1) := by decide +kernel
theorem d_Mod_follows_59 : decode b_Mod_follows 59 = .ok (.bipush 18, 2) := by decide +kernel
theorem d_Mod_follows_61 : decode b_Mod_follows 61 = .ok (.if_icmp .eq 39, 3) := by decide +kernel
theorem d_Mod_follows_64 : decode b_Mod_follows 64 = .ok (.iload_n 0, 1) := by decide +kernel
theorem d_Mod_follows_65 : decode b_Mod_follows 65 = .ok (.bipush 21, 2) := by decide +kernel
theorem d_Mod_follows_67 : decode b_Mod_follows 67 = .ok (.if_icmp .eq 33, 3) := by decide +kernel
theorem d_Mod_follows_70 : decode b_Mod_follows 70 = .ok (.iload_n 0, 1) := by decide +kernel
theorem d_Mod_follows_71 : decode b_Mod_follows 71 = .ok (.bipush 22, 2) := by decide +kernel
theorem d_Mod_follows_73 : decode b_Mod_follows 73 = .ok (.if_icmp .eq 27, 3) := by decide +kernel
theorem d_Mod_follows_76 : decode b_Mod_follows 76 = .ok (.iload_n 0, 1) := by decide +kernel
theorem d_Mod_follows_77 : decode b_Mod_follows 77 = .ok (.bipush 25, 2) := by decide +kernel
theorem d_Mod_follows_79 : decode b_Mod_follows 79 = .ok (.if_icmp .eq 21, 3) := by decide +kernel
theorem d_Mod_follows_82 : decode b_Mod_follows 82 = .ok (.iload_n 0, 1) := by decide +kernel
theorem d_Mod_follows_83 : decode b_Mod_follows 83 = .ok (.bipush 54, 2) := by decide +kernel
theorem d_Mod_follows_85 : decode b_Mod_follows 85 = .ok (.if_icmp .eq 15, 3) := by decide +kernel
theorem d_Mod_follows_88 : decode b_Mod_follows 88 = .ok (.iload_n 0, 1) := by decide +kernel
theorem d_Mod_follows_89 : decode b_Mod_follows 89 = .ok (.bipush 55, 2) := by decide +kernel
theorem d_Mod_follows_91 : decode b_Mod_follows 91 = .ok (.if_icmp .eq 9, 3) := by decide +kernel
theorem d_Mod_follows_94 : decode b_Mod_follows 94 = .ok (.iload_n 0, 1) := by decide +kernel
theorem d_Mod_follows_95 : decode b_Mod_follows 95 = .ok (.bipush 58, 2) := by decide +kernel
theorem d_Mod_follows_97 : decode b_Mod_follows 97 = .ok (.if_icmp .ne 5, 3) := by decide +kernel
theorem d_Mod_follows_100 : decode b_Mod_follows 100 = .ok (.iconst 1, 1) := by decide +kernel
theorem d_Mod_follows_101 : decode b_Mod_follows 101 = .ok (.ireturn, 1) := by decide +kernel
theorem d_Mod_follows_102 : decode b_Mod_follows 102 = .ok (.iload_n 0, 1) := by decide +kernel
theorem d_Mod_follows_103 : decode b_Mod_follows 103 = .ok (.bipush 17, 2) := by decide +kernel
theorem d_Mod_follows_105 : decode b_Mod_follows 105 = .ok (.if_icmp .eq 77, 3) := by decide +kernel
theorem d_Mod_follows_108 : decode b_Mod_follows 108 = .ok (.iload_n 0, 1) := by decide +kernel
theorem d_Mod_follows_109 : decode b_Mod_follows 109 = .ok (.bipush 20, 2) := by decide +kernel
theorem d_Mod_follows_111 : decode b_Mod_follows 111 = .ok (.if_icmp .eq 71, 3) := by decide +kernel
theorem d_Mod_follows_114 : decode b_Mod_follows 114 = .ok (.iload_n 0, 1) := by decide +kernel
theorem d_Mod_follows_115 : decode b_Mod_follows 115 = .ok (.sipush 132, 3) := by decide +kernel
theorem d_Mod_follows_118 : decode b_Mod_follows 118 = .ok (.if_icmp .eq 64, 3) := by decide +kernel
theorem d_Mod_follows_121 : decode b_Mod_follows 121 = .ok (.iload_n 0, 1) := by decide +kernel
theorem d_Mod_follows_122 : decode b_Mod_follows 122 = .ok (.sipush 153, 3) := by decide +kernel
theorem d_Mod_follows_125 : decode b_Mod_follows 125 = .ok (.sipush 167, 3) := by decide +kernel
theorem d_Mod_follows_128 : decode b_Mod_follows 128 = .ok (.invokestatic 136, 3) := by decide +kernel
theorem d_Mod_follows_131 : decode b_Mod_follows 131 = .ok (.ifCond .ne 51, 3) := by decide +kernel
theorem d_Mod_follows_134 : decode b_Mod_follows 134 = .ok (.iload_n 0, 1) := by decide +kernel
theorem d_Mod_follows_135 : decode b_Mod_follows 135 = .ok (.sipush 198, 3) := by decide +kernel
theorem d_Mod_follows_138 : decode b_Mod_follows 138 = .ok (.if_icmp .eq 44, 3) := by decide +kernel
theorem d_Mod_follows_141 : decode b_Mod_follows 141 = .ok (.iload_n 0, 1) := by decide +kernel
theorem d_Mod_follows_142 : decode b_Mod_follows 142 = .ok (.sipush 199, 3) := by decide +kernel
theorem d_Mod_follows_145 : decode b_Mod_follows 145 = .ok (.if_icmp .eq 37, 3) := by decide +kernel
theorem d_Mod_follows_148 : decode b_Mod_follows 148 = .ok (.iload_n 0, 1) := by decide +kernel
theorem d_Mod_follows_149 : decode b_Mod_follows 149 = .ok (.sipush 178, 3) := by decide +kernel
theorem d_Mod_follows_152 : decode b_Mod_follows 152 = .ok (.sipush 184, 3) := by decide +kernel
theorem d_Mod_follows_155 : decode b_Mod_follows 155 = .ok (.invokestatic 136, 3) := by decide +kernel
theorem d_Mod_follows_158 : decode b_Mod_follows 158 = .ok (.ifCond .ne 24, 3) := by decide +kernel
theorem d_Mod_follows_161 : decode b_Mod_follows 161 = .ok (.iload_n 0, 1) := by decide +kernel
theorem d_Mod_follows_162 : decode b_Mod_follows 162 = .ok (.sipush 187, 3) := by decide +kernel
theorem d_Mod_follows_165 : decode b_Mod_follows 165 = .ok (.if_icmp .eq 17, 3) := by decide +kernel
theorem d_Mod_follows_168 : decode b_Mod_follows 168 = .ok (.iload_n 0, 1) := by decide +kernel
theorem d_Mod_follows_169 : decode b_Mod_follows 169 = .ok (.sipush 192, 3) := by decide +kernel
theorem d_Mod_follows_172 : decode b_Mod_follows 172 = .ok (.if_icmp .eq 10, 3) := by decide +kernel
theorem d_Mod_follows_175 : decode b_Mod_follows 175 = .ok (.iload_n 0, 1) := by decide +kernel
theorem d_Mod_follows_176 : decode b_Mod_follows 176 = .ok (.sipush 193, 3) := by decide +kernel
theorem d_Mod_follows_179 : decode b_Mod_follows 179 = .ok (.if_icmp .ne 5, 3) := by decide +kernel
theorem d_Mod_follows_182 : decode b_Mod_follows 182 = .ok (.iconst 2, 1) := by decide +kernel
theorem d_Mod_follows_183 : decode b_Mod_follows 183 = .ok (.ireturn, 1) := by decide +kernel
theorem d_Mod_follows_184 : decode b_Mod_follows 184 = .ok (.iload_n 0, 1) := by decide +kernel
theorem d_Mod_follows_185 : decode b_Mod_follows 185 = .ok (.bipush 87, 2) := by decide +kernel
theorem d_Mod_follows_187 : decode b_Mod_follows 187 = .ok (.if_icmp .eq 140, 3) := by decide +kernel
theorem d_Mod_follows_190 : decode b_Mod_follows 190 = .ok (.iload_n 0, 1) := by decide +kernel
theorem d_Mod_follows_191 : decode b_Mod_follows 191 = .ok (.bipush 88, 2) := by decide +kernel
theorem d_Mod_follows_193 : decode b_Mod_follows 193 = .ok (.if_icmp .eq 134, 3) := by decide +kernel
theorem d_Mod_follows_196 : decode b_Mod_follows 196 = .ok (.iload_n 0, 1) := by decide +kernel
theorem d_Mod_follows_197 : decode b_Mod_follows 197 = .ok (.bipush 89, 2) := by decide +kernel
theorem d_Mod_follows_199 : decode b_Mod_follows 199 = .ok (.if_icmp .eq 128, 3) := by decide +kernel
theorem d_Mod_follows_202 : decode b_Mod_follows 202 = .ok (.iload_n 0, 1) := by decide +kernel
theorem d_Mod_follows_203 : decode b_Mod_follows 203 = .ok (.bipush 92, 2) := by decide +kernel
theorem d_Mod_follows_205 : decode b_Mod_follows 205 = .ok (.if_icmp .eq 122, 3) := by decide +kernel
theorem d_Mod_follows_208 : decode b_Mod_follows 208 = .ok (.iload_n 0, 1) := by decide +kernel
theorem d_Mod_follows_209 : decode b_Mod_follows 209 = .ok (.bipush 95, 2) := by decide +kernel
theorem d_Mod_follows_211 : decode b_Mod_follows 211 = .ok (.if_icmp .eq 116, 3) := by decide +kernel
theorem d_Mod_follows_214 : decode b_Mod_follows 214 = .ok (.iload_n 0, 1) := by decide +kernel
theorem d_Mod_follows_215 : decode b_Mod_follows 215 = .ok (.invokestatic 285, 3) := by decide +kernel
theorem d_Mod_follows_218 : decode b_Mod_follows 218 = .ok (.ifCond .ne 109, 3) := by decide +kernel
theorem d_Mod_follows_221 : decode b_Mod_follows 221 = .ok (.iload_n 0, 1) := by decide +kernel
theorem d_Mod_follows_222 : decode b_Mod_follows 222 = .ok (.invokestatic 288, 3) := by decide +kernel
theorem d_Mod_follows_225 : decode b_Mod_follows 225 = .ok (.ifCond .ne 102, 3) := by decide +kernel
theorem d_Mod_follows_228 : decode b_Mod_follows 228 = .ok (.iload_n 0, 1) := by decide +kernel
theorem d_Mod_follows_229 : decode b_Mod_follows 229 = .ok (.bipush 121, 2) := by decide +kernel
theorem d_Mod_follows_231 : decode b_Mod_follows 231 = .ok (.if_icmp .eq 96, 3) := by decide +kernel
theorem d_Mod_follows_234 : decode b_Mod_follows 234 = .ok (.iload_n 0, 1) := by decide +kernel
theorem d_Mod_follows_235 : decode b_Mod_follows 235 = .ok (.bipush 123, 2) := by decide +kernel
theorem d_Mod_follows_237 : decode b_Mod_follows 237 = .ok (.if_icmp .eq 90, 3) := by decide +kernel
theorem d_Mod_follows_240 : decode b_Mod_follows 240 = .ok (.iload_n 0, 1) := by decide +kernel
theorem d_Mod_follows_241 : decode b_Mod_follows 241 = .ok (.bipush 125, 2) := by decide +kernel
theorem d_Mod_follows_243 : decode b_Mod_follows 243 = .ok (.if_icmp .eq 84, 3) := by decide +kernel
theorem d_Mod_follows_246 : decode b_Mod_follows 246 = .ok (.iload_n 0, 1) := by decide +kernel
theorem d_Mod_follows_247 : decode b_Mod_follows 247 = .ok (.bipush 116, 2) := by decide +kernel
theorem d_Mod_follows_249 : decode b_Mod_follows 249 = .ok (.if_icmp .eq 78, 3) := by decide +kernel
theorem d_Mod_follows_252 : decode b_Mod_follows 252 = .ok (.iload_n 0, 1) := by decide +kernel
theorem d_Mod_follows_253 : decode b_Mod_follows 253 = .ok (.bipush 117, 2) := by decide +kernel
theorem d_Mod_follows_255 : decode b_Mod_follows 255 = .ok (.if_icmp .eq 72, 3) := by decide +kernel
theorem d_Mod_follows_258 : decode b_Mod_follows 258 = .ok (.iload_n 0, 1) := by decide +kernel
theorem d_Mod_follows_259 : decode b_Mod_follows 259 = .ok (.sipush 133, 3) := by decide +kernel
theorem d_Mod_follows_262 : decode b_Mod_follows 262 = .ok (.if_icmp .eq 65, 3) := by decide +kernel
theorem d_Mod_follows_265 : decode b_Mod_follows 265 = .ok (.iload_n 0, 1) := by decide +kernel
theorem d_Mod_follows_266 : decode b_Mod_follows 266 = .ok (.sipush 136, 3) := by decide +kernel
theorem d_Mod_follows_269 : decode b_Mod_follows 269 = .ok (.if_icmp .eq 58, 3) := by decide +kernel
theorem d_Mod_follows_272 : decode b_Mod_follows 272 = .ok (.iload_n 0, 1) := by decide +kernel
theorem d_Mod_follows_273 : decode b_Mod_follows 273 = .ok (.sipush 145, 3) := by decide +kernel
theorem d_Mod_follows_276 : decode b_Mod_follows 276 = .ok (.sipush 148, 3) := by decide +kernel
theorem d_Mod_follows_279 : decode b_Mod_follows 279 = .ok (.invokestatic 136, 3) := by decide +kernel
theorem d_Mod_follows_282 : decode b_Mod_follows 282 = .ok (.ifCond .ne 45, 3) := by decide +kernel
theorem d_Mod_follows_285 : decode b_Mod_follows 285 = .ok (.iload_n 0, 1) := by decide +kernel
theorem d_Mod_follows_286 : decode b_Mod_follows 286 = .ok (.sipush 172, 3) := by decide +kernel
theorem d_Mod_follows_289 : decode b_Mod_follows 289 = .ok (.if_icmp .eq 38, 3) := by decide +kernel
theorem d_Mod_follows_292 : decode b_Mod_follows 292 = .ok (.iload_n 0, 1) := by decide +kernel
theorem d_Mod_follows_293 : decode b_Mod_follows 293 = .ok (.sipush 173, 3) := by decide +kernel
theorem d_Mod_follows_296 : decode b_Mod_follows 296 = .ok (.if_icmp .eq 31, 3) := by decide +kernel
theorem d_Mod_follows_299 : decode b_Mod_follows 299 = .ok (.iload_n 0, 1) := by decide +kernel
theorem d_Mod_follows_300 : decode b_Mod_follows 300 = .ok (.sipush 176, 3) := by decide +kernel
theorem d_Mod_follows_303 : decode b_Mod_follows 303 = .ok (.if_icmp .eq 24, 3) := by decide +kernel
theorem d_Mod_follows_306 : decode b_Mod_follows 306 = .ok (.iload_n 0, 1) := by decide +kernel
theorem d_Mod_follows_307 : decode b_Mod_follows 307 = .ok (.sipush 177, 3) := by decide +kernel
theorem d_Mod_follows_310 : decode b_Mod_follows 310 = .ok (.if_icmp .eq 17, 3) := by decide +kernel
theorem d_Mod_follows_313 : decode b_Mod_follows 313 = .ok (.iload_n 0, 1) := by decide +kernel
theorem d_Mod_follows_314 : decode b_Mod_follows 314 = .ok (.sipush 190, 3) := by decide +kernel
theorem d_Mod_follows_317 : decode b_Mod_follows 317 = .ok (.if_icmp .eq 10, 3) := by decide +kernel
theorem d_Mod_follows_320 : decode b_Mod_follows 320 = .ok (.iload_n 0, 1) := by decide +kernel
theorem d_Mod_follows_321 : decode b_Mod_follows 321 = .ok (.sipush 191, 3) := by decide +kernel
theorem d_Mod_follows_324 : decode b_Mod_follows 324 = .ok (.if_icmp .ne 7, 3) := by decide +kernel
theorem d_Mod_follows_327 : decode b_Mod_follows 327 = .ok (.iconst 1, 1) := by decide +kernel
theorem d_Mod_follows_328 : decode b_Mod_follows 328 = .ok (.goto 4, 3) := by decide +kernel
theorem d_Mod_follows_331 : decode b_Mod_follows 331 = .ok (.iconst 0, 1) := by decide +kernel
theorem d_Mod_follows_332 : decode b_Mod_follows 332 = .ok (.istore_n 1, 1) := by decide +kernel
theorem d_Mod_follows_333 : decode b_Mod_follows 333 = .ok (.iload_n 1, 1) := by decide +kernel
theorem d_Mod_follows_334 : decode b_Mod_follows 334 = .ok (.ifCond .eq 7, 3) := by decide +kernel
theorem d_Mod_follows_337 : decode b_Mod_follows 337 = .ok (.iconst 0, 1) := by decide +kernel
theorem d_Mod_follows_338 : decode b_Mod_follows 338 = .ok (.goto 4, 3) := by decide +kernel
theorem d_Mod_follows_341 : decode b_Mod_follows 341 = .ok (.iconst (-1), 1) := by decide +kernel
theorem d_Mod_follows_342 : decode b_Mod_follows 342 = .ok (.ireturn, 1) := by decide +kernel
theorem d_Mod_isIntegers_0 : decode b_Mod_isIntegers 0 = .ok (.iload_n 0, 1) := by decide +kernel
theorem d_Mod_isIntegers_1 : decode b_Mod_isIntegers 1 = .ok (.bipush 96, 2) := by decide +kernel
theorem d_Mod_isIntegers_3 : decode b_Mod_isIntegers 3 = .ok (.if_icmp .eq 65, 3) := by decide +kernel
theorem d_Mod_isIntegers_6 : decode b_Mod_isIntegers 6 = .ok (.iload_n 0, 1) := by decide +kernel
theorem d_Mod_isIntegers_7 : decode b_Mod_isIntegers 7 = .ok (.bipush 100, 2) := by decide +kernel
theorem d_Mod_isIntegers_9 : decode b_Mod_isIntegers 9 = .ok (.if_icmp .eq 59, 3) := by decide +kernel
theorem d_Mod_isIntegers_12 : decode b_Mod_isIntegers 12 = .ok (.iload_n 0, 1) := by decide +kernel
theorem d_Mod_isIntegers_13 : decode b_Mod_isIntegers 13 = .ok (.bipush 104, 2) := by decide +kernel
theorem d_Mod_isIntegers_15 : decode b_Mod_isIntegers 15 = .ok (.if_icmp .eq 53, 3) := by decide +kernel
theorem d_Mod_isIntegers_18 : decode b_Mod_isIntegers 18 = .ok (.iload_n 0, 1) := by decide +kernel
theorem d_Mod_isIntegers_19 : decode b_Mod_isIntegers 19 = .ok (.bipush 108, 2) := by decide +kernel
theorem d_Mod_isIntegers_21 : decode b_Mod_isIntegers 21 = .ok (.if_icmp .eq 47, 3) := by decide +kernel
theorem d_Mod_isIntegers_24 : decode b_Mod_isIntegers 24 = .ok (.iload_n 0, 1) := by decide +kernel
theorem d_Mod_isIntegers_25 : decode b_Mod_isIntegers 25 = .ok (.bipush 112, 2) := by decide +kernel
theorem d_Mod_isIntegers_27 : decode b_Mod_isIntegers 27 = .ok (.if_icmp .eq 41, 3) := by decide +kernel
theorem d_Mod_isIntegers_30 : decode b_Mod_isIntegers 30 = .ok (.iload_n 0, 1) := by decide +kernel
theorem d_Mod_isIntegers_31 : decode b_Mod_isIntegers 31 = .ok (.bipush 120, 2) := by decide +kernel
theorem d_Mod_isIntegers_33 : decode b_Mod_isIntegers 33 = .ok (.if_icmp .eq 35, 3) := by decide +kernel
theorem d_Mod_isIntegers_36 : decode b_Mod_isIntegers 36 = .ok (.iload_n 0, 1) := by decide +kernel
theorem d_Mod_isIntegers_37 : decode b_Mod_isIntegers 37 = .ok (.bipush 122, 2) := by decide +kernel
theorem d_Mod_isIntegers_39 : decode b_Mod_isIntegers 39 = .ok (.if_icmp .eq 29, 3) := by decide +kernel
theorem d_Mod_isIntegers_42 : decode b_Mod_isIntegers 42 = .ok (.iload_n 0, 1) := by decide +kernel
theorem d_Mod_isIntegers_43 : decode b_Mod_isIntegers 43 = .ok (.bipush 124, 2) := by decide +kernel
theorem d_Mod_isIntegers_45 : decode b_Mod_isIntegers 45 = .ok (.if_icmp .eq 23, 3) := by decide +kernel
theorem d_Mod_isIntegers_48 : decode b_Mod_isIntegers 48 = .ok (.iload_n 0, 1) := by decide +kernel
theorem d_Mod_isIntegers_49 : decode b_Mod_isIntegers 49 = .ok (.bipush 126, 2) := by decide +kernel
theorem d_Mod_isIntegers_51 : decode b_Mod_isIntegers 51 = .ok (.if_icmp .eq 17, 3) := by decide +kernel
theorem d_Mod_isIntegers_54 : decode b_Mod_isIntegers 54 = .ok (.iload_n 0, 1) := by decide +kernel
theorem d_Mod_isIntegers_55 : decode b_Mod_isIntegers 55 = .ok (.sipush 128, 3) := by decide +kernel
theorem d_Mod_isIntegers_58 : decode b_Mod_isIntegers 58 = .ok (.if_icmp .eq 10, 3) := by decide +kernel
theorem d_Mod_isIntegers_61 : decode b_Mod_isIntegers 61 = .ok (.iload_n 0, 1) := by decide +kernel
theorem d_Mod_isIntegers_62 : decode b_Mod_isIntegers 62 = .ok (.sipush 130, 3) := by decide +kernel
theorem d_Mod_isIntegers_65 : decode b_Mod_isIntegers 65 = .ok (.if_icmp .ne 7, 3) := by decide +kernel
theorem d_Mod_isIntegers_68 : decode b_Mod_isIntegers 68 = .ok (.iconst 1, 1) := by decide +kernel
theorem d_Mod_isIntegers_69 : decode b_Mod_isIntegers 69 = .ok (.goto 4, 3) := by decide +kernel
theorem d_Mod_isIntegers_72 : decode b_Mod_isIntegers 72 = .ok (.iconst 0, 1) := by decide +kernel
theorem d_Mod_isIntegers_73 : decode b_Mod_isIntegers 73 = .ok (.ireturn, 1) := by decide +kernel
theorem d_Mod_isLongs_0 : decode b_Mod_isLongs 0 = .ok (.iload_n 0, 1) := by decide +kernel
theorem d_Mod_isLongs_1 : decode b_Mod_isLongs 1 = .ok (.bipush 97, 2) := by decide +kernel
theorem d_Mod_isLongs_3 : decode b_Mod_isLongs 3 = .ok (.if_icmp .eq 47, 3) := by decide +kernel
theorem d_Mod_isLongs_6 : decode b_Mod_isLongs 6 = .ok (.iload_n 0, 1) := by decide +kernel
theorem d_Mod_isLongs_7 : decode b_Mod_isLongs 7 = .ok (.bipush 101, 2) := by decide +kernel
theorem d_Mod_isLongs_9 : decode b_Mod_isLongs 9 = .ok (.if_icmp .eq 41, 3) := by decide +kernel
theorem d_Mod_isLongs_12 : decode b_Mod_isLongs 12 = .ok (.iload_n 0, 1) := by decide +kernel
theorem d_Mod_isLongs_13 : decode b_Mod_isLongs 13 = .ok (.bipush 105, 2) := by decide +kernel
theorem d_Mod_isLongs_15 : decode b_Mod_isLongs 15 = .ok (.if_icmp .eq 35, 3) := by decide +kernel
theorem d_Mod_isLongs_18 : decode b_Mod_isLongs 18 = .ok (.iload_n 0, 1) := by decide +kernel
theorem d_Mod_isLongs_19 : decode b_Mod_isLongs 19 = .ok (.bipush 109, 2) := by decide +kernel
theorem d_Mod_isLongs_21 : decode b_Mod_isLongs 21 = .ok (.if_icmp .eq 29, 3) := by decide +kernel
theorem d_Mod_isLongs_24 : decode b_Mod_isLongs 24 = .ok (.iload_n 0, 1) := by decide +kernel
theorem d_Mod_isLongs_25 : decode b_Mod_isLongs 25 = .ok (.bipush 113, 2) := by decide +kernel
theorem d_Mod_isLongs_27 : decode b_Mod_isLongs 27 = .ok (.if_icmp .eq 23, 3) := by decide +kernel
theorem d_Mod_isLongs_30 : decode b_Mod_isLongs 30 = .ok (.iload_n 0, 1) := by decide +kernel
theorem d_Mod_isLongs_31 : decode b_Mod_isLongs 31 = .ok (.bipush 127, 2) := by decide +kernel
theorem d_Mod_isLongs_33 : decode b_Mod_isLongs 33 = .ok (.if_icmp .eq 17, 3) := by decide +kernel
theorem d_Mod_isLongs_36 : decode b_Mod_isLongs 36 = .ok (.iload_n 0, 1) := by decide +kernel
theorem d_Mod_isLongs_37 : decode b_Mod_isLongs 37 = .ok (.sipush 129, 3) := by decide +kernel
theorem d_Mod_isLongs_40 : decode b_Mod_isLongs 40 = .ok (.if_icmp .eq 10, 3) := by decide +kernel
theorem d_Mod_isLongs_43 : decode b_Mod_isLongs 43 = .ok (.iload_n 0, 1) := by decide +kernel
theorem d_Mod_isLongs_44 : decode b_Mod_isLongs 44 = .ok (.sipush 131, 3) := by decide +kernel
theorem d_Mod_isLongs_47 : decode b_Mod_isLongs 47 = .ok (.if_icmp .ne 7, 3) := by decide +kernel
theorem d_Mod_isLongs_50 : decode b_Mod_isLongs 50 = .ok (.iconst 1, 1) := by decide +kernel
theorem d_Mod_isLongs_51 : decode b_Mod_isLongs 51 = .ok (.goto 4, 3) := by decide +kernel
theorem d_Mod_isLongs_54 : decode b_Mod_isLongs 54 = .ok (.iconst 0, 1) := by decide +kernel
theorem d_Mod_isLongs_55 : decode b_Mod_isLongs 55 = .ok (.ireturn, 1) := by decide +kernel
end
section
def itg (x : Int32) : Int32 := if x = 96 then 1 else if x = 100 then 1 else if x = 104 then 1 else if x = 108 then 1 else if x = 112 then 1 else if x = 120 then 1 else if x = 122 then 1 else if x = 124 then 1 else if x = 126 then 1 else if x = 128 then 1 else if x = 130 then 1 else 0
def lgs (x : Int32) : Int32 := if x = 97 then 1 else if x = 101 then 1 else if x = 105 then 1 else if x = 109 then 1 else if x = 113 then 1 else if x = 127 then 1 else if x = 129 then 1 else if x = 131 then 1 else 0
def fof (x : Int32) : Int32 := if x ≤ 10 then 0 else if ¬ is_in x 26 33 = 0 then 0 else if ¬ is_in x 42 45 = 0 then 0 else if ¬ is_in x 59 66 = 0 then 0 else if ¬ is_in x 75 78 = 0 then 0 else if x = 16 then 1 else if x = 18 then 1 else if x = 21 then 1 else if x = 22 then 1 else if x = 25 then 1 else if x = 54 then 1 else if x = 55 then 1 else if x = 58 then 1 else if x = 17 then 2 else if x = 20 then 2 else if x = 132 then 2 else if ¬ is_in x 153 167 = 0 then 2 else if x = 198 then 2 else if x = 199 then 2 else if ¬ is_in x 178 184 = 0 then 2 else if x = 187 then 2 else if x = 192 then 2 else if x = 193 then 2 else if x = 87 then 0 else if x = 88 then 0 else if x = 89 then 0 else if x = 92 then 0 else if x = 95 then 0 else if ¬ itg x = 0 then 0 else if ¬ lgs x = 0 then 0 else if x = 121 then 0 else if x = 123 then 0 else if x = 125 then 0 else if x = 116 then 0 else if x = 117 then 0 else if x = 133 then 0 else if x = 136 then 0 else if ¬ is_in x 145 148 = 0 then 0 else if x = 172 then 0 else if x = 173 then 0 else if x = 176 then 0 else if x = 177 then 0 else if x = 190 then 0 else if x = 191 then 0 else -1
set_option maxHeartbeats 4000000 in
set_option maxRecDepth 100000 in
theorem g_Mod_isIntegers (l : Launch) (g : tw_G) (sz : Nat) (x : Int32) : Met l y_Mod_isIntegers [.code y_Mod_isIntegers b_Mod_isIntegers 1 (some .boolean)] ({ frames := 0, cells := 0, slots := 0, locals := 0 }) (tw_P g [.int x] [] sz) (vp_Si (fun (r : Int32) => (r = 0 ∨ r = 1) ∧ r = itg x)) 0 0 (fun _ => False) := by
  refine tw_met (l := l) (g := g) (y := y_Mod_isIntegers) (cc := b_Mod_isIntegers) (maxL := 1) (ret := (some .boolean)) (rm := { frames := 0, cells := 0, slots := 0, locals := 0 }) (mc := 0) (ms := 0) (av := [.int x]) (ws := []) (sz := sz) (Qc := fun _ => (vp_Si (fun (r : Int32) => (r = 0 ∨ r = 1) ∧ r = itg x))) (free := fun _ _ => False) (by decide) (Nat.le_of_ble_eq_true rfl) ?_
  intro p e s m below meth c ls A E hB hK hZ hP hD hS hA hl
  obtain ⟨hx, hb, hml, hr, hown, hts, hlocks, hin⟩ := id E
  have hl : lv_has ls 1 [(0, .int x)] := hl
  refine lv_iload_n hx hb d_Mod_isIntegers_0 rfl (lv_at hl 0 rfl) ?_
  refine lv_bipush (v := 96) hx hb d_Mod_isIntegers_1 (by decide) ?_
  refine lv_icmp_eq (tgt := 68) hx hb d_Mod_isIntegers_3 (by decide) (fun h3 => ?_) (fun h3 => ?_)
  · refine lv_iconst (v := 1) hx hb d_Mod_isIntegers_68 (by decide) ?_
    refine lv_goto (tgt := 73) hx hb d_Mod_isIntegers_69 (by decide) ?_
    exact tw_zsret E (by decide) (⟨(Or.inr rfl), (by unfold itg; rw [if_pos h3])⟩) d_Mod_isIntegers_73
  · refine lv_iload_n hx hb d_Mod_isIntegers_6 rfl (lv_at hl 0 rfl) ?_
    refine lv_bipush (v := 100) hx hb d_Mod_isIntegers_7 (by decide) ?_
    refine lv_icmp_eq (tgt := 68) hx hb d_Mod_isIntegers_9 (by decide) (fun h9 => ?_) (fun h9 => ?_)
    · refine lv_iconst (v := 1) hx hb d_Mod_isIntegers_68 (by decide) ?_
      refine lv_goto (tgt := 73) hx hb d_Mod_isIntegers_69 (by decide) ?_
      exact tw_zsret E (by decide) (⟨(Or.inr rfl), (by unfold itg; rw [if_neg h3, if_pos h9])⟩) d_Mod_isIntegers_73
    · refine lv_iload_n hx hb d_Mod_isIntegers_12 rfl (lv_at hl 0 rfl) ?_
      refine lv_bipush (v := 104) hx hb d_Mod_isIntegers_13 (by decide) ?_
      refine lv_icmp_eq (tgt := 68) hx hb d_Mod_isIntegers_15 (by decide) (fun h15 => ?_) (fun h15 => ?_)
      · refine lv_iconst (v := 1) hx hb d_Mod_isIntegers_68 (by decide) ?_
        refine lv_goto (tgt := 73) hx hb d_Mod_isIntegers_69 (by decide) ?_
        exact tw_zsret E (by decide) (⟨(Or.inr rfl), (by unfold itg; rw [if_neg h3, if_neg h9, if_pos h15])⟩) d_Mod_isIntegers_73
      · refine lv_iload_n hx hb d_Mod_isIntegers_18 rfl (lv_at hl 0 rfl) ?_
        refine lv_bipush (v := 108) hx hb d_Mod_isIntegers_19 (by decide) ?_
        refine lv_icmp_eq (tgt := 68) hx hb d_Mod_isIntegers_21 (by decide) (fun h21 => ?_) (fun h21 => ?_)
        · refine lv_iconst (v := 1) hx hb d_Mod_isIntegers_68 (by decide) ?_
          refine lv_goto (tgt := 73) hx hb d_Mod_isIntegers_69 (by decide) ?_
          exact tw_zsret E (by decide) (⟨(Or.inr rfl), (by unfold itg; rw [if_neg h3, if_neg h9, if_neg h15, if_pos h21])⟩) d_Mod_isIntegers_73
        · refine lv_iload_n hx hb d_Mod_isIntegers_24 rfl (lv_at hl 0 rfl) ?_
          refine lv_bipush (v := 112) hx hb d_Mod_isIntegers_25 (by decide) ?_
          refine lv_icmp_eq (tgt := 68) hx hb d_Mod_isIntegers_27 (by decide) (fun h27 => ?_) (fun h27 => ?_)
          · refine lv_iconst (v := 1) hx hb d_Mod_isIntegers_68 (by decide) ?_
            refine lv_goto (tgt := 73) hx hb d_Mod_isIntegers_69 (by decide) ?_
            exact tw_zsret E (by decide) (⟨(Or.inr rfl), (by unfold itg; rw [if_neg h3, if_neg h9, if_neg h15, if_neg h21, if_pos h27])⟩) d_Mod_isIntegers_73
          · refine lv_iload_n hx hb d_Mod_isIntegers_30 rfl (lv_at hl 0 rfl) ?_
            refine lv_bipush (v := 120) hx hb d_Mod_isIntegers_31 (by decide) ?_
            refine lv_icmp_eq (tgt := 68) hx hb d_Mod_isIntegers_33 (by decide) (fun h33 => ?_) (fun h33 => ?_)
            · refine lv_iconst (v := 1) hx hb d_Mod_isIntegers_68 (by decide) ?_
              refine lv_goto (tgt := 73) hx hb d_Mod_isIntegers_69 (by decide) ?_
              exact tw_zsret E (by decide) (⟨(Or.inr rfl), (by unfold itg; rw [if_neg h3, if_neg h9, if_neg h15, if_neg h21, if_neg h27, if_pos h33])⟩) d_Mod_isIntegers_73
            · refine lv_iload_n hx hb d_Mod_isIntegers_36 rfl (lv_at hl 0 rfl) ?_
              refine lv_bipush (v := 122) hx hb d_Mod_isIntegers_37 (by decide) ?_
              refine lv_icmp_eq (tgt := 68) hx hb d_Mod_isIntegers_39 (by decide) (fun h39 => ?_) (fun h39 => ?_)
              · refine lv_iconst (v := 1) hx hb d_Mod_isIntegers_68 (by decide) ?_
                refine lv_goto (tgt := 73) hx hb d_Mod_isIntegers_69 (by decide) ?_
                exact tw_zsret E (by decide) (⟨(Or.inr rfl), (by unfold itg; rw [if_neg h3, if_neg h9, if_neg h15, if_neg h21, if_neg h27, if_neg h33, if_pos h39])⟩) d_Mod_isIntegers_73
              · refine lv_iload_n hx hb d_Mod_isIntegers_42 rfl (lv_at hl 0 rfl) ?_
                refine lv_bipush (v := 124) hx hb d_Mod_isIntegers_43 (by decide) ?_
                refine lv_icmp_eq (tgt := 68) hx hb d_Mod_isIntegers_45 (by decide) (fun h45 => ?_) (fun h45 => ?_)
                · refine lv_iconst (v := 1) hx hb d_Mod_isIntegers_68 (by decide) ?_
                  refine lv_goto (tgt := 73) hx hb d_Mod_isIntegers_69 (by decide) ?_
                  exact tw_zsret E (by decide) (⟨(Or.inr rfl), (by unfold itg; rw [if_neg h3, if_neg h9, if_neg h15, if_neg h21, if_neg h27, if_neg h33, if_neg h39, if_pos h45])⟩) d_Mod_isIntegers_73
                · refine lv_iload_n hx hb d_Mod_isIntegers_48 rfl (lv_at hl 0 rfl) ?_
                  refine lv_bipush (v := 126) hx hb d_Mod_isIntegers_49 (by decide) ?_
                  refine lv_icmp_eq (tgt := 68) hx hb d_Mod_isIntegers_51 (by decide) (fun h51 => ?_) (fun h51 => ?_)
                  · refine lv_iconst (v := 1) hx hb d_Mod_isIntegers_68 (by decide) ?_
                    refine lv_goto (tgt := 73) hx hb d_Mod_isIntegers_69 (by decide) ?_
                    exact tw_zsret E (by decide) (⟨(Or.inr rfl), (by unfold itg; rw [if_neg h3, if_neg h9, if_neg h15, if_neg h21, if_neg h27, if_neg h33, if_neg h39, if_neg h45, if_pos h51])⟩) d_Mod_isIntegers_73
                  · refine lv_iload_n hx hb d_Mod_isIntegers_54 rfl (lv_at hl 0 rfl) ?_
                    refine lv_sipush (v := 128) hx hb d_Mod_isIntegers_55 (by decide) ?_
                    refine lv_icmp_eq (tgt := 68) hx hb d_Mod_isIntegers_58 (by decide) (fun h58 => ?_) (fun h58 => ?_)
                    · refine lv_iconst (v := 1) hx hb d_Mod_isIntegers_68 (by decide) ?_
                      refine lv_goto (tgt := 73) hx hb d_Mod_isIntegers_69 (by decide) ?_
                      exact tw_zsret E (by decide) (⟨(Or.inr rfl), (by unfold itg; rw [if_neg h3, if_neg h9, if_neg h15, if_neg h21, if_neg h27, if_neg h33, if_neg h39, if_neg h45, if_neg h51, if_pos h58])⟩) d_Mod_isIntegers_73
                    · refine lv_iload_n hx hb d_Mod_isIntegers_61 rfl (lv_at hl 0 rfl) ?_
                      refine lv_sipush (v := 130) hx hb d_Mod_isIntegers_62 (by decide) ?_
                      refine lv_icmp_ne (tgt := 72) hx hb d_Mod_isIntegers_65 (by decide) (fun h65 => ?_) (fun h65 => ?_)
                      · refine lv_iconst (v := 0) hx hb d_Mod_isIntegers_72 (by decide) ?_
                        exact tw_zsret E (by decide) (⟨(Or.inl rfl), (by unfold itg; rw [if_neg h3, if_neg h9, if_neg h15, if_neg h21, if_neg h27, if_neg h33, if_neg h39, if_neg h45, if_neg h51, if_neg h58, if_neg h65])⟩) d_Mod_isIntegers_73
                      · refine lv_iconst (v := 1) hx hb d_Mod_isIntegers_68 (by decide) ?_
                        refine lv_goto (tgt := 73) hx hb d_Mod_isIntegers_69 (by decide) ?_
                        exact tw_zsret E (by decide) (⟨(Or.inr rfl), (by unfold itg; rw [if_neg h3, if_neg h9, if_neg h15, if_neg h21, if_neg h27, if_neg h33, if_neg h39, if_neg h45, if_neg h51, if_neg h58, if_pos h65])⟩) d_Mod_isIntegers_73
set_option maxHeartbeats 4000000 in
set_option maxRecDepth 100000 in
theorem g_Mod_isLongs (l : Launch) (g : tw_G) (sz : Nat) (x : Int32) : Met l y_Mod_isLongs [.code y_Mod_isLongs b_Mod_isLongs 1 (some .boolean)] ({ frames := 0, cells := 0, slots := 0, locals := 0 }) (tw_P g [.int x] [] sz) (vp_Si (fun (r : Int32) => (r = 0 ∨ r = 1) ∧ r = lgs x)) 0 0 (fun _ => False) := by
  refine tw_met (l := l) (g := g) (y := y_Mod_isLongs) (cc := b_Mod_isLongs) (maxL := 1) (ret := (some .boolean)) (rm := { frames := 0, cells := 0, slots := 0, locals := 0 }) (mc := 0) (ms := 0) (av := [.int x]) (ws := []) (sz := sz) (Qc := fun _ => (vp_Si (fun (r : Int32) => (r = 0 ∨ r = 1) ∧ r = lgs x))) (free := fun _ _ => False) (by decide) (Nat.le_of_ble_eq_true rfl) ?_
  intro p e s m below meth c ls A E hB hK hZ hP hD hS hA hl
  obtain ⟨hx, hb, hml, hr, hown, hts, hlocks, hin⟩ := id E
  have hl : lv_has ls 1 [(0, .int x)] := hl
  refine lv_iload_n hx hb d_Mod_isLongs_0 rfl (lv_at hl 0 rfl) ?_
  refine lv_bipush (v := 97) hx hb d_Mod_isLongs_1 (by decide) ?_
  refine lv_icmp_eq (tgt := 50) hx hb d_Mod_isLongs_3 (by decide) (fun h3 => ?_) (fun h3 => ?_)
  · refine lv_iconst (v := 1) hx hb d_Mod_isLongs_50 (by decide) ?_
    refine lv_goto (tgt := 55) hx hb d_Mod_isLongs_51 (by decide) ?_
    exact tw_zsret E (by decide) (⟨(Or.inr rfl), (by unfold lgs; rw [if_pos h3])⟩) d_Mod_isLongs_55
  · refine lv_iload_n hx hb d_Mod_isLongs_6 rfl (lv_at hl 0 rfl) ?_
    refine lv_bipush (v := 101) hx hb d_Mod_isLongs_7 (by decide) ?_
    refine lv_icmp_eq (tgt := 50) hx hb d_Mod_isLongs_9 (by decide) (fun h9 => ?_) (fun h9 => ?_)
    · refine lv_iconst (v := 1) hx hb d_Mod_isLongs_50 (by decide) ?_
      refine lv_goto (tgt := 55) hx hb d_Mod_isLongs_51 (by decide) ?_
      exact tw_zsret E (by decide) (⟨(Or.inr rfl), (by unfold lgs; rw [if_neg h3, if_pos h9])⟩) d_Mod_isLongs_55
    · refine lv_iload_n hx hb d_Mod_isLongs_12 rfl (lv_at hl 0 rfl) ?_
      refine lv_bipush (v := 105) hx hb d_Mod_isLongs_13 (by decide) ?_
      refine lv_icmp_eq (tgt := 50) hx hb d_Mod_isLongs_15 (by decide) (fun h15 => ?_) (fun h15 => ?_)
      · refine lv_iconst (v := 1) hx hb d_Mod_isLongs_50 (by decide) ?_
        refine lv_goto (tgt := 55) hx hb d_Mod_isLongs_51 (by decide) ?_
        exact tw_zsret E (by decide) (⟨(Or.inr rfl), (by unfold lgs; rw [if_neg h3, if_neg h9, if_pos h15])⟩) d_Mod_isLongs_55
      · refine lv_iload_n hx hb d_Mod_isLongs_18 rfl (lv_at hl 0 rfl) ?_
        refine lv_bipush (v := 109) hx hb d_Mod_isLongs_19 (by decide) ?_
        refine lv_icmp_eq (tgt := 50) hx hb d_Mod_isLongs_21 (by decide) (fun h21 => ?_) (fun h21 => ?_)
        · refine lv_iconst (v := 1) hx hb d_Mod_isLongs_50 (by decide) ?_
          refine lv_goto (tgt := 55) hx hb d_Mod_isLongs_51 (by decide) ?_
          exact tw_zsret E (by decide) (⟨(Or.inr rfl), (by unfold lgs; rw [if_neg h3, if_neg h9, if_neg h15, if_pos h21])⟩) d_Mod_isLongs_55
        · refine lv_iload_n hx hb d_Mod_isLongs_24 rfl (lv_at hl 0 rfl) ?_
          refine lv_bipush (v := 113) hx hb d_Mod_isLongs_25 (by decide) ?_
          refine lv_icmp_eq (tgt := 50) hx hb d_Mod_isLongs_27 (by decide) (fun h27 => ?_) (fun h27 => ?_)
          · refine lv_iconst (v := 1) hx hb d_Mod_isLongs_50 (by decide) ?_
            refine lv_goto (tgt := 55) hx hb d_Mod_isLongs_51 (by decide) ?_
            exact tw_zsret E (by decide) (⟨(Or.inr rfl), (by unfold lgs; rw [if_neg h3, if_neg h9, if_neg h15, if_neg h21, if_pos h27])⟩) d_Mod_isLongs_55
          · refine lv_iload_n hx hb d_Mod_isLongs_30 rfl (lv_at hl 0 rfl) ?_
            refine lv_bipush (v := 127) hx hb d_Mod_isLongs_31 (by decide) ?_
            refine lv_icmp_eq (tgt := 50) hx hb d_Mod_isLongs_33 (by decide) (fun h33 => ?_) (fun h33 => ?_)
            · refine lv_iconst (v := 1) hx hb d_Mod_isLongs_50 (by decide) ?_
              refine lv_goto (tgt := 55) hx hb d_Mod_isLongs_51 (by decide) ?_
              exact tw_zsret E (by decide) (⟨(Or.inr rfl), (by unfold lgs; rw [if_neg h3, if_neg h9, if_neg h15, if_neg h21, if_neg h27, if_pos h33])⟩) d_Mod_isLongs_55
            · refine lv_iload_n hx hb d_Mod_isLongs_36 rfl (lv_at hl 0 rfl) ?_
              refine lv_sipush (v := 129) hx hb d_Mod_isLongs_37 (by decide) ?_
              refine lv_icmp_eq (tgt := 50) hx hb d_Mod_isLongs_40 (by decide) (fun h40 => ?_) (fun h40 => ?_)
              · refine lv_iconst (v := 1) hx hb d_Mod_isLongs_50 (by decide) ?_
                refine lv_goto (tgt := 55) hx hb d_Mod_isLongs_51 (by decide) ?_
                exact tw_zsret E (by decide) (⟨(Or.inr rfl), (by unfold lgs; rw [if_neg h3, if_neg h9, if_neg h15, if_neg h21, if_neg h27, if_neg h33, if_pos h40])⟩) d_Mod_isLongs_55
              · refine lv_iload_n hx hb d_Mod_isLongs_43 rfl (lv_at hl 0 rfl) ?_
                refine lv_sipush (v := 131) hx hb d_Mod_isLongs_44 (by decide) ?_
                refine lv_icmp_ne (tgt := 54) hx hb d_Mod_isLongs_47 (by decide) (fun h47 => ?_) (fun h47 => ?_)
                · refine lv_iconst (v := 0) hx hb d_Mod_isLongs_54 (by decide) ?_
                  exact tw_zsret E (by decide) (⟨(Or.inl rfl), (by unfold lgs; rw [if_neg h3, if_neg h9, if_neg h15, if_neg h21, if_neg h27, if_neg h33, if_neg h40, if_neg h47])⟩) d_Mod_isLongs_55
                · refine lv_iconst (v := 1) hx hb d_Mod_isLongs_50 (by decide) ?_
                  refine lv_goto (tgt := 55) hx hb d_Mod_isLongs_51 (by decide) ?_
                  exact tw_zsret E (by decide) (⟨(Or.inr rfl), (by unfold lgs; rw [if_neg h3, if_neg h9, if_neg h15, if_neg h21, if_neg h27, if_neg h33, if_neg h40, if_pos h47])⟩) d_Mod_isLongs_55
set_option maxHeartbeats 4000000 in
set_option maxRecDepth 100000 in
theorem g_Mod_follows (l : Launch) (g : tw_G) (sz : Nat) (x : Int32) : Met l y_Mod_follows [.code y_Mod_follows b_Mod_follows 2 (some .int)] ({ frames := 1, cells := 0, slots := 0, locals := 22 }) (tw_P g [.int x] [] sz) (vp_Si (fun (r : Int32) => (r = -1 ∨ r = 0 ∨ r = 1 ∨ r = 2) ∧ r = fof x)) 0 0 (fun _ => False) := by
  refine tw_met (l := l) (g := g) (y := y_Mod_follows) (cc := b_Mod_follows) (maxL := 2) (ret := (some .int)) (rm := { frames := 1, cells := 0, slots := 0, locals := 22 }) (mc := 0) (ms := 0) (av := [.int x]) (ws := []) (sz := sz) (Qc := fun _ => (vp_Si (fun (r : Int32) => (r = -1 ∨ r = 0 ∨ r = 1 ∨ r = 2) ∧ r = fof x))) (free := fun _ _ => False) (by decide) (Nat.le_of_ble_eq_true rfl) ?_
  intro p e s m below meth c ls A E hB hK hZ hP hD hS hA hl
  obtain ⟨hx, hb, hml, hr, hown, hts, hlocks, hin⟩ := id E
  have hl : lv_has ls 2 [(0, .int x)] := hl
  refine lv_iload_n hx hb d_Mod_follows_0 rfl (lv_at hl 0 rfl) ?_
  refine lv_bipush (v := 10) hx hb d_Mod_follows_1 (by decide) ?_
  refine lv_icmp_le (tgt := 50) hx hb d_Mod_follows_3 (by decide) (fun h3 => ?_) (fun h3 => ?_)
  · refine lv_iconst (v := 0) hx hb d_Mod_follows_50 (by decide) ?_
    exact tw_isret E (⟨Or.inr (Or.inl rfl), (by unfold fof; rw [if_pos h3])⟩) d_Mod_follows_51
  · refine lv_iload_n hx hb d_Mod_follows_6 rfl (lv_at hl 0 rfl) ?_
    refine lv_bipush (v := 26) hx hb d_Mod_follows_7 (by decide) ?_
    refine lv_bipush (v := 33) hx hb d_Mod_follows_9 (by decide) ?_
    refine tw_si (tw_runS (ws := []) (wc := []) (As := [.int x, .int 26, .int 33]) (rest := []) E hB hK hZ (c_Mod_isIn l g s.heap.size x 26 33) mc_Mod_isIn ms_Mod_isIn wd_1443 hP hD hS hA [] rfl (by decide) rfl rfl (by decide) rfl hl.1 rfl (Nat.le_of_ble_eq_true rfl) (by decide) d_Mod_follows_11) (fun r1 hr1 => ?_)
    obtain rfl : r1 = is_in x 26 33 := hr1
    refine lv_if_ne (tgt := 50) hx hb d_Mod_follows_14 (by decide) (fun h14 => ?_) (fun h14 => ?_)
    · refine lv_iconst (v := 0) hx hb d_Mod_follows_50 (by decide) ?_
      exact tw_isret E (⟨Or.inr (Or.inl rfl), (by unfold fof; rw [if_neg h3, if_pos h14])⟩) d_Mod_follows_51
    · refine lv_iload_n hx hb d_Mod_follows_17 rfl (lv_at hl 0 rfl) ?_
      refine lv_bipush (v := 42) hx hb d_Mod_follows_18 (by decide) ?_
      refine lv_bipush (v := 45) hx hb d_Mod_follows_20 (by decide) ?_
      refine tw_si (tw_runS (ws := []) (wc := []) (As := [.int x, .int 42, .int 45]) (rest := []) E hB hK hZ (c_Mod_isIn l g s.heap.size x 42 45) mc_Mod_isIn ms_Mod_isIn wd_1443 hP hD hS hA [] rfl (by decide) rfl rfl (by decide) rfl hl.1 rfl (Nat.le_of_ble_eq_true rfl) (by decide) d_Mod_follows_22) (fun r2 hr2 => ?_)
      obtain rfl : r2 = is_in x 42 45 := hr2
      refine lv_if_ne (tgt := 50) hx hb d_Mod_follows_25 (by decide) (fun h25 => ?_) (fun h25 => ?_)
      · refine lv_iconst (v := 0) hx hb d_Mod_follows_50 (by decide) ?_
        exact tw_isret E (⟨Or.inr (Or.inl rfl), (by unfold fof; rw [if_neg h3, if_neg (fun q => q h14), if_pos h25])⟩) d_Mod_follows_51
      · refine lv_iload_n hx hb d_Mod_follows_28 rfl (lv_at hl 0 rfl) ?_
        refine lv_bipush (v := 59) hx hb d_Mod_follows_29 (by decide) ?_
        refine lv_bipush (v := 66) hx hb d_Mod_follows_31 (by decide) ?_
        refine tw_si (tw_runS (ws := []) (wc := []) (As := [.int x, .int 59, .int 66]) (rest := []) E hB hK hZ (c_Mod_isIn l g s.heap.size x 59 66) mc_Mod_isIn ms_Mod_isIn wd_1443 hP hD hS hA [] rfl (by decide) rfl rfl (by decide) rfl hl.1 rfl (Nat.le_of_ble_eq_true rfl) (by decide) d_Mod_follows_33) (fun r3 hr3 => ?_)
        obtain rfl : r3 = is_in x 59 66 := hr3
        refine lv_if_ne (tgt := 50) hx hb d_Mod_follows_36 (by decide) (fun h36 => ?_) (fun h36 => ?_)
        · refine lv_iconst (v := 0) hx hb d_Mod_follows_50 (by decide) ?_
          exact tw_isret E (⟨Or.inr (Or.inl rfl), (by unfold fof; rw [if_neg h3, if_neg (fun q => q h14), if_neg (fun q => q h25), if_pos h36])⟩) d_Mod_follows_51
        · refine lv_iload_n hx hb d_Mod_follows_39 rfl (lv_at hl 0 rfl) ?_
          refine lv_bipush (v := 75) hx hb d_Mod_follows_40 (by decide) ?_
          refine lv_bipush (v := 78) hx hb d_Mod_follows_42 (by decide) ?_
          refine tw_si (tw_runS (ws := []) (wc := []) (As := [.int x, .int 75, .int 78]) (rest := []) E hB hK hZ (c_Mod_isIn l g s.heap.size x 75 78) mc_Mod_isIn ms_Mod_isIn wd_1443 hP hD hS hA [] rfl (by decide) rfl rfl (by decide) rfl hl.1 rfl (Nat.le_of_ble_eq_true rfl) (by decide) d_Mod_follows_44) (fun r4 hr4 => ?_)
          obtain rfl : r4 = is_in x 75 78 := hr4
          refine lv_if_eq (tgt := 52) hx hb d_Mod_follows_47 (by decide) (fun h47 => ?_) (fun h47 => ?_)
          · refine lv_iload_n hx hb d_Mod_follows_52 rfl (lv_at hl 0 rfl) ?_
            refine lv_bipush (v := 16) hx hb d_Mod_follows_53 (by decide) ?_
            refine lv_icmp_eq (tgt := 100) hx hb d_Mod_follows_55 (by decide) (fun h55 => ?_) (fun h55 => ?_)
            · refine lv_iconst (v := 1) hx hb d_Mod_follows_100 (by decide) ?_
              exact tw_isret E (⟨Or.inr (Or.inr (Or.inl rfl)), (by unfold fof; rw [if_neg h3, if_neg (fun q => q h14), if_neg (fun q => q h25), if_neg (fun q => q h36), if_neg (fun q => q h47), if_pos h55])⟩) d_Mod_follows_101
            · refine lv_iload_n hx hb d_Mod_follows_58 rfl (lv_at hl 0 rfl) ?_
              refine lv_bipush (v := 18) hx hb d_Mod_follows_59 (by decide) ?_
              refine lv_icmp_eq (tgt := 100) hx hb d_Mod_follows_61 (by decide) (fun h61 => ?_) (fun h61 => ?_)
              · refine lv_iconst (v := 1) hx hb d_Mod_follows_100 (by decide) ?_
                exact tw_isret E (⟨Or.inr (Or.inr (Or.inl rfl)), (by unfold fof; rw [if_neg h3, if_neg (fun q => q h14), if_neg (fun q => q h25), if_neg (fun q => q h36), if_neg (fun q => q h47), if_neg h55, if_pos h61])⟩) d_Mod_follows_101
              · refine lv_iload_n hx hb d_Mod_follows_64 rfl (lv_at hl 0 rfl) ?_
                refine lv_bipush (v := 21) hx hb d_Mod_follows_65 (by decide) ?_
                refine lv_icmp_eq (tgt := 100) hx hb d_Mod_follows_67 (by decide) (fun h67 => ?_) (fun h67 => ?_)
                · refine lv_iconst (v := 1) hx hb d_Mod_follows_100 (by decide) ?_
                  exact tw_isret E (⟨Or.inr (Or.inr (Or.inl rfl)), (by unfold fof; rw [if_neg h3, if_neg (fun q => q h14), if_neg (fun q => q h25), if_neg (fun q => q h36), if_neg (fun q => q h47), if_neg h55, if_neg h61, if_pos h67])⟩) d_Mod_follows_101
                · refine lv_iload_n hx hb d_Mod_follows_70 rfl (lv_at hl 0 rfl) ?_
                  refine lv_bipush (v := 22) hx hb d_Mod_follows_71 (by decide) ?_
                  refine lv_icmp_eq (tgt := 100) hx hb d_Mod_follows_73 (by decide) (fun h73 => ?_) (fun h73 => ?_)
                  · refine lv_iconst (v := 1) hx hb d_Mod_follows_100 (by decide) ?_
                    exact tw_isret E (⟨Or.inr (Or.inr (Or.inl rfl)), (by unfold fof; rw [if_neg h3, if_neg (fun q => q h14), if_neg (fun q => q h25), if_neg (fun q => q h36), if_neg (fun q => q h47), if_neg h55, if_neg h61, if_neg h67, if_pos h73])⟩) d_Mod_follows_101
                  · refine lv_iload_n hx hb d_Mod_follows_76 rfl (lv_at hl 0 rfl) ?_
                    refine lv_bipush (v := 25) hx hb d_Mod_follows_77 (by decide) ?_
                    refine lv_icmp_eq (tgt := 100) hx hb d_Mod_follows_79 (by decide) (fun h79 => ?_) (fun h79 => ?_)
                    · refine lv_iconst (v := 1) hx hb d_Mod_follows_100 (by decide) ?_
                      exact tw_isret E (⟨Or.inr (Or.inr (Or.inl rfl)), (by unfold fof; rw [if_neg h3, if_neg (fun q => q h14), if_neg (fun q => q h25), if_neg (fun q => q h36), if_neg (fun q => q h47), if_neg h55, if_neg h61, if_neg h67, if_neg h73, if_pos h79])⟩) d_Mod_follows_101
                    · refine lv_iload_n hx hb d_Mod_follows_82 rfl (lv_at hl 0 rfl) ?_
                      refine lv_bipush (v := 54) hx hb d_Mod_follows_83 (by decide) ?_
                      refine lv_icmp_eq (tgt := 100) hx hb d_Mod_follows_85 (by decide) (fun h85 => ?_) (fun h85 => ?_)
                      · refine lv_iconst (v := 1) hx hb d_Mod_follows_100 (by decide) ?_
                        exact tw_isret E (⟨Or.inr (Or.inr (Or.inl rfl)), (by unfold fof; rw [if_neg h3, if_neg (fun q => q h14), if_neg (fun q => q h25), if_neg (fun q => q h36), if_neg (fun q => q h47), if_neg h55, if_neg h61, if_neg h67, if_neg h73, if_neg h79, if_pos h85])⟩) d_Mod_follows_101
                      · refine lv_iload_n hx hb d_Mod_follows_88 rfl (lv_at hl 0 rfl) ?_
                        refine lv_bipush (v := 55) hx hb d_Mod_follows_89 (by decide) ?_
                        refine lv_icmp_eq (tgt := 100) hx hb d_Mod_follows_91 (by decide) (fun h91 => ?_) (fun h91 => ?_)
                        · refine lv_iconst (v := 1) hx hb d_Mod_follows_100 (by decide) ?_
                          exact tw_isret E (⟨Or.inr (Or.inr (Or.inl rfl)), (by unfold fof; rw [if_neg h3, if_neg (fun q => q h14), if_neg (fun q => q h25), if_neg (fun q => q h36), if_neg (fun q => q h47), if_neg h55, if_neg h61, if_neg h67, if_neg h73, if_neg h79, if_neg h85, if_pos h91])⟩) d_Mod_follows_101
                        · refine lv_iload_n hx hb d_Mod_follows_94 rfl (lv_at hl 0 rfl) ?_
                          refine lv_bipush (v := 58) hx hb d_Mod_follows_95 (by decide) ?_
                          refine lv_icmp_ne (tgt := 102) hx hb d_Mod_follows_97 (by decide) (fun h97 => ?_) (fun h97 => ?_)
                          · refine lv_iload_n hx hb d_Mod_follows_102 rfl (lv_at hl 0 rfl) ?_
                            refine lv_bipush (v := 17) hx hb d_Mod_follows_103 (by decide) ?_
                            refine lv_icmp_eq (tgt := 182) hx hb d_Mod_follows_105 (by decide) (fun h105 => ?_) (fun h105 => ?_)
                            · refine lv_iconst (v := 2) hx hb d_Mod_follows_182 (by decide) ?_
                              exact tw_isret E (⟨Or.inr (Or.inr (Or.inr rfl)), (by unfold fof; rw [if_neg h3, if_neg (fun q => q h14), if_neg (fun q => q h25), if_neg (fun q => q h36), if_neg (fun q => q h47), if_neg h55, if_neg h61, if_neg h67, if_neg h73, if_neg h79, if_neg h85, if_neg h91, if_neg h97, if_pos h105])⟩) d_Mod_follows_183
                            · refine lv_iload_n hx hb d_Mod_follows_108 rfl (lv_at hl 0 rfl) ?_
                              refine lv_bipush (v := 20) hx hb d_Mod_follows_109 (by decide) ?_
                              refine lv_icmp_eq (tgt := 182) hx hb d_Mod_follows_111 (by decide) (fun h111 => ?_) (fun h111 => ?_)
                              · refine lv_iconst (v := 2) hx hb d_Mod_follows_182 (by decide) ?_
                                exact tw_isret E (⟨Or.inr (Or.inr (Or.inr rfl)), (by unfold fof; rw [if_neg h3, if_neg (fun q => q h14), if_neg (fun q => q h25), if_neg (fun q => q h36), if_neg (fun q => q h47), if_neg h55, if_neg h61, if_neg h67, if_neg h73, if_neg h79, if_neg h85, if_neg h91, if_neg h97, if_neg h105, if_pos h111])⟩) d_Mod_follows_183
                              · refine lv_iload_n hx hb d_Mod_follows_114 rfl (lv_at hl 0 rfl) ?_
                                refine lv_sipush (v := 132) hx hb d_Mod_follows_115 (by decide) ?_
                                refine lv_icmp_eq (tgt := 182) hx hb d_Mod_follows_118 (by decide) (fun h118 => ?_) (fun h118 => ?_)
                                · refine lv_iconst (v := 2) hx hb d_Mod_follows_182 (by decide) ?_
                                  exact tw_isret E (⟨Or.inr (Or.inr (Or.inr rfl)), (by unfold fof; rw [if_neg h3, if_neg (fun q => q h14), if_neg (fun q => q h25), if_neg (fun q => q h36), if_neg (fun q => q h47), if_neg h55, if_neg h61, if_neg h67, if_neg h73, if_neg h79, if_neg h85, if_neg h91, if_neg h97, if_neg h105, if_neg h111, if_pos h118])⟩) d_Mod_follows_183
                                · refine lv_iload_n hx hb d_Mod_follows_121 rfl (lv_at hl 0 rfl) ?_
                                  refine lv_sipush (v := 153) hx hb d_Mod_follows_122 (by decide) ?_
                                  refine lv_sipush (v := 167) hx hb d_Mod_follows_125 (by decide) ?_
                                  refine tw_si (tw_runS (ws := []) (wc := []) (As := [.int x, .int 153, .int 167]) (rest := []) E hB hK hZ (c_Mod_isIn l g s.heap.size x 153 167) mc_Mod_isIn ms_Mod_isIn wd_1443 hP hD hS hA [] rfl (by decide) rfl rfl (by decide) rfl hl.1 rfl (Nat.le_of_ble_eq_true rfl) (by decide) d_Mod_follows_128) (fun r5 hr5 => ?_)
                                  obtain rfl : r5 = is_in x 153 167 := hr5
                                  refine lv_if_ne (tgt := 182) hx hb d_Mod_follows_131 (by decide) (fun h131 => ?_) (fun h131 => ?_)
                                  · refine lv_iconst (v := 2) hx hb d_Mod_follows_182 (by decide) ?_
                                    exact tw_isret E (⟨Or.inr (Or.inr (Or.inr rfl)), (by unfold fof; rw [if_neg h3, if_neg (fun q => q h14), if_neg (fun q => q h25), if_neg (fun q => q h36), if_neg (fun q => q h47), if_neg h55, if_neg h61, if_neg h67, if_neg h73, if_neg h79, if_neg h85, if_neg h91, if_neg h97, if_neg h105, if_neg h111, if_neg h118, if_pos h131])⟩) d_Mod_follows_183
                                  · refine lv_iload_n hx hb d_Mod_follows_134 rfl (lv_at hl 0 rfl) ?_
                                    refine lv_sipush (v := 198) hx hb d_Mod_follows_135 (by decide) ?_
                                    refine lv_icmp_eq (tgt := 182) hx hb d_Mod_follows_138 (by decide) (fun h138 => ?_) (fun h138 => ?_)
                                    · refine lv_iconst (v := 2) hx hb d_Mod_follows_182 (by decide) ?_
                                      exact tw_isret E (⟨Or.inr (Or.inr (Or.inr rfl)), (by unfold fof; rw [if_neg h3, if_neg (fun q => q h14), if_neg (fun q => q h25), if_neg (fun q => q h36), if_neg (fun q => q h47), if_neg h55, if_neg h61, if_neg h67, if_neg h73, if_neg h79, if_neg h85, if_neg h91, if_neg h97, if_neg h105, if_neg h111, if_neg h118, if_neg (fun q => q h131), if_pos h138])⟩) d_Mod_follows_183
                                    · refine lv_iload_n hx hb d_Mod_follows_141 rfl (lv_at hl 0 rfl) ?_
                                      refine lv_sipush (v := 199) hx hb d_Mod_follows_142 (by decide) ?_
                                      refine lv_icmp_eq (tgt := 182) hx hb d_Mod_follows_145 (by decide) (fun h145 => ?_) (fun h145 => ?_)
                                      · refine lv_iconst (v := 2) hx hb d_Mod_follows_182 (by decide) ?_
                                        exact tw_isret E (⟨Or.inr (Or.inr (Or.inr rfl)), (by unfold fof; rw [if_neg h3, if_neg (fun q => q h14), if_neg (fun q => q h25), if_neg (fun q => q h36), if_neg (fun q => q h47), if_neg h55, if_neg h61, if_neg h67, if_neg h73, if_neg h79, if_neg h85, if_neg h91, if_neg h97, if_neg h105, if_neg h111, if_neg h118, if_neg (fun q => q h131), if_neg h138, if_pos h145])⟩) d_Mod_follows_183
                                      · refine lv_iload_n hx hb d_Mod_follows_148 rfl (lv_at hl 0 rfl) ?_
                                        refine lv_sipush (v := 178) hx hb d_Mod_follows_149 (by decide) ?_
                                        refine lv_sipush (v := 184) hx hb d_Mod_follows_152 (by decide) ?_
                                        refine tw_si (tw_runS (ws := []) (wc := []) (As := [.int x, .int 178, .int 184]) (rest := []) E hB hK hZ (c_Mod_isIn l g s.heap.size x 178 184) mc_Mod_isIn ms_Mod_isIn wd_1443 hP hD hS hA [] rfl (by decide) rfl rfl (by decide) rfl hl.1 rfl (Nat.le_of_ble_eq_true rfl) (by decide) d_Mod_follows_155) (fun r6 hr6 => ?_)
                                        obtain rfl : r6 = is_in x 178 184 := hr6
                                        refine lv_if_ne (tgt := 182) hx hb d_Mod_follows_158 (by decide) (fun h158 => ?_) (fun h158 => ?_)
                                        · refine lv_iconst (v := 2) hx hb d_Mod_follows_182 (by decide) ?_
                                          exact tw_isret E (⟨Or.inr (Or.inr (Or.inr rfl)), (by unfold fof; rw [if_neg h3, if_neg (fun q => q h14), if_neg (fun q => q h25), if_neg (fun q => q h36), if_neg (fun q => q h47), if_neg h55, if_neg h61, if_neg h67, if_neg h73, if_neg h79, if_neg h85, if_neg h91, if_neg h97, if_neg h105, if_neg h111, if_neg h118, if_neg (fun q => q h131), if_neg h138, if_neg h145, if_pos h158])⟩) d_Mod_follows_183
                                        · refine lv_iload_n hx hb d_Mod_follows_161 rfl (lv_at hl 0 rfl) ?_
                                          refine lv_sipush (v := 187) hx hb d_Mod_follows_162 (by decide) ?_
                                          refine lv_icmp_eq (tgt := 182) hx hb d_Mod_follows_165 (by decide) (fun h165 => ?_) (fun h165 => ?_)
                                          · refine lv_iconst (v := 2) hx hb d_Mod_follows_182 (by decide) ?_
                                            exact tw_isret E (⟨Or.inr (Or.inr (Or.inr rfl)), (by unfold fof; rw [if_neg h3, if_neg (fun q => q h14), if_neg (fun q => q h25), if_neg (fun q => q h36), if_neg (fun q => q h47), if_neg h55, if_neg h61, if_neg h67, if_neg h73, if_neg h79, if_neg h85, if_neg h91, if_neg h97, if_neg h105, if_neg h111, if_neg h118, if_neg (fun q => q h131), if_neg h138, if_neg h145, if_neg (fun q => q h158), if_pos h165])⟩) d_Mod_follows_183
                                          · refine lv_iload_n hx hb d_Mod_follows_168 rfl (lv_at hl 0 rfl) ?_
                                            refine lv_sipush (v := 192) hx hb d_Mod_follows_169 (by decide) ?_
                                            refine lv_icmp_eq (tgt := 182) hx hb d_Mod_follows_172 (by decide) (fun h172 => ?_) (fun h172 => ?_)
                                            · refine lv_iconst (v := 2) hx hb d_Mod_follows_182 (by decide) ?_
                                              exact tw_isret E (⟨Or.inr (Or.inr (Or.inr rfl)), (by unfold fof; rw [if_neg h3, if_neg (fun q => q h14), if_neg (fun q => q h25), if_neg (fun q => q h36), if_neg (fun q => q h47), if_neg h55, if_neg h61, if_neg h67, if_neg h73, if_neg h79, if_neg h85, if_neg h91, if_neg h97, if_neg h105, if_neg h111, if_neg h118, if_neg (fun q => q h131), if_neg h138, if_neg h145, if_neg (fun q => q h158), if_neg h165, if_pos h172])⟩) d_Mod_follows_183
                                            · refine lv_iload_n hx hb d_Mod_follows_175 rfl (lv_at hl 0 rfl) ?_
                                              refine lv_sipush (v := 193) hx hb d_Mod_follows_176 (by decide) ?_
                                              refine lv_icmp_ne (tgt := 184) hx hb d_Mod_follows_179 (by decide) (fun h179 => ?_) (fun h179 => ?_)
                                              · refine lv_iload_n hx hb d_Mod_follows_184 rfl (lv_at hl 0 rfl) ?_
                                                refine lv_bipush (v := 87) hx hb d_Mod_follows_185 (by decide) ?_
                                                refine lv_icmp_eq (tgt := 327) hx hb d_Mod_follows_187 (by decide) (fun h187 => ?_) (fun h187 => ?_)
                                                · refine lv_iconst (v := 1) hx hb d_Mod_follows_327 (by decide) ?_
                                                  refine lv_goto (tgt := 332) hx hb d_Mod_follows_328 (by decide) ?_
                                                  refine lv_istore_n hx hb d_Mod_follows_332 rfl hl (by decide) rfl (fun ls hl => ?_)
                                                  have hl : lv_has ls 2 [(1, .int 1), (0, .int x)] := hl
                                                  refine lv_iload_n hx hb d_Mod_follows_333 rfl (lv_at hl 0 rfl) ?_
                                                  refine lv_if_eq (tgt := 341) hx hb d_Mod_follows_334 (by decide) (fun h334 => ?_) (fun h334 => ?_)
                                                  · first | exact absurd h334 (by decide) | exact absurd (by decide) h334
                                                  · refine lv_iconst (v := 0) hx hb d_Mod_follows_337 (by decide) ?_
                                                    refine lv_goto (tgt := 342) hx hb d_Mod_follows_338 (by decide) ?_
                                                    exact tw_isret E (⟨Or.inr (Or.inl rfl), (by unfold fof; rw [if_neg h3, if_neg (fun q => q h14), if_neg (fun q => q h25), if_neg (fun q => q h36), if_neg (fun q => q h47), if_neg h55, if_neg h61, if_neg h67, if_neg h73, if_neg h79, if_neg h85, if_neg h91, if_neg h97, if_neg h105, if_neg h111, if_neg h118, if_neg (fun q => q h131), if_neg h138, if_neg h145, if_neg (fun q => q h158), if_neg h165, if_neg h172, if_neg h179, if_pos h187])⟩) d_Mod_follows_342
                                                · refine lv_iload_n hx hb d_Mod_follows_190 rfl (lv_at hl 0 rfl) ?_
                                                  refine lv_bipush (v := 88) hx hb d_Mod_follows_191 (by decide) ?_
                                                  refine lv_icmp_eq (tgt := 327) hx hb d_Mod_follows_193 (by decide) (fun h193 => ?_) (fun h193 => ?_)
                                                  · refine lv_iconst (v := 1) hx hb d_Mod_follows_327 (by decide) ?_
                                                    refine lv_goto (tgt := 332) hx hb d_Mod_follows_328 (by decide) ?_
                                                    refine lv_istore_n hx hb d_Mod_follows_332 rfl hl (by decide) rfl (fun ls hl => ?_)
                                                    have hl : lv_has ls 2 [(1, .int 1), (0, .int x)] := hl
                                                    refine lv_iload_n hx hb d_Mod_follows_333 rfl (lv_at hl 0 rfl) ?_
                                                    refine lv_if_eq (tgt := 341) hx hb d_Mod_follows_334 (by decide) (fun h334 => ?_) (fun h334 => ?_)
                                                    · first | exact absurd h334 (by decide) | exact absurd (by decide) h334
                                                    · refine lv_iconst (v := 0) hx hb d_Mod_follows_337 (by decide) ?_
                                                      refine lv_goto (tgt := 342) hx hb d_Mod_follows_338 (by decide) ?_
                                                      exact tw_isret E (⟨Or.inr (Or.inl rfl), (by unfold fof; rw [if_neg h3, if_neg (fun q => q h14), if_neg (fun q => q h25), if_neg (fun q => q h36), if_neg (fun q => q h47), if_neg h55, if_neg h61, if_neg h67, if_neg h73, if_neg h79, if_neg h85, if_neg h91, if_neg h97, if_neg h105, if_neg h111, if_neg h118, if_neg (fun q => q h131), if_neg h138, if_neg h145, if_neg (fun q => q h158), if_neg h165, if_neg h172, if_neg h179, if_neg h187, if_pos h193])⟩) d_Mod_follows_342
                                                  · refine lv_iload_n hx hb d_Mod_follows_196 rfl (lv_at hl 0 rfl) ?_
                                                    refine lv_bipush (v := 89) hx hb d_Mod_follows_197 (by decide) ?_
                                                    refine lv_icmp_eq (tgt := 327) hx hb d_Mod_follows_199 (by decide) (fun h199 => ?_) (fun h199 => ?_)
                                                    · refine lv_iconst (v := 1) hx hb d_Mod_follows_327 (by decide) ?_
                                                      refine lv_goto (tgt := 332) hx hb d_Mod_follows_328 (by decide) ?_
                                                      refine lv_istore_n hx hb d_Mod_follows_332 rfl hl (by decide) rfl (fun ls hl => ?_)
                                                      have hl : lv_has ls 2 [(1, .int 1), (0, .int x)] := hl
                                                      refine lv_iload_n hx hb d_Mod_follows_333 rfl (lv_at hl 0 rfl) ?_
                                                      refine lv_if_eq (tgt := 341) hx hb d_Mod_follows_334 (by decide) (fun h334 => ?_) (fun h334 => ?_)
                                                      · first | exact absurd h334 (by decide) | exact absurd (by decide) h334
                                                      · refine lv_iconst (v := 0) hx hb d_Mod_follows_337 (by decide) ?_
                                                        refine lv_goto (tgt := 342) hx hb d_Mod_follows_338 (by decide) ?_
                                                        exact tw_isret E (⟨Or.inr (Or.inl rfl), (by unfold fof; rw [if_neg h3, if_neg (fun q => q h14), if_neg (fun q => q h25), if_neg (fun q => q h36), if_neg (fun q => q h47), if_neg h55, if_neg h61, if_neg h67, if_neg h73, if_neg h79, if_neg h85, if_neg h91, if_neg h97, if_neg h105, if_neg h111, if_neg h118, if_neg (fun q => q h131), if_neg h138, if_neg h145, if_neg (fun q => q h158), if_neg h165, if_neg h172, if_neg h179, if_neg h187, if_neg h193, if_pos h199])⟩) d_Mod_follows_342
                                                    · refine lv_iload_n hx hb d_Mod_follows_202 rfl (lv_at hl 0 rfl) ?_
                                                      refine lv_bipush (v := 92) hx hb d_Mod_follows_203 (by decide) ?_
                                                      refine lv_icmp_eq (tgt := 327) hx hb d_Mod_follows_205 (by decide) (fun h205 => ?_) (fun h205 => ?_)
                                                      · refine lv_iconst (v := 1) hx hb d_Mod_follows_327 (by decide) ?_
                                                        refine lv_goto (tgt := 332) hx hb d_Mod_follows_328 (by decide) ?_
                                                        refine lv_istore_n hx hb d_Mod_follows_332 rfl hl (by decide) rfl (fun ls hl => ?_)
                                                        have hl : lv_has ls 2 [(1, .int 1), (0, .int x)] := hl
                                                        refine lv_iload_n hx hb d_Mod_follows_333 rfl (lv_at hl 0 rfl) ?_
                                                        refine lv_if_eq (tgt := 341) hx hb d_Mod_follows_334 (by decide) (fun h334 => ?_) (fun h334 => ?_)
                                                        · first | exact absurd h334 (by decide) | exact absurd (by decide) h334
                                                        · refine lv_iconst (v := 0) hx hb d_Mod_follows_337 (by decide) ?_
                                                          refine lv_goto (tgt := 342) hx hb d_Mod_follows_338 (by decide) ?_
                                                          exact tw_isret E (⟨Or.inr (Or.inl rfl), (by unfold fof; rw [if_neg h3, if_neg (fun q => q h14), if_neg (fun q => q h25), if_neg (fun q => q h36), if_neg (fun q => q h47), if_neg h55, if_neg h61, if_neg h67, if_neg h73, if_neg h79, if_neg h85, if_neg h91, if_neg h97, if_neg h105, if_neg h111, if_neg h118, if_neg (fun q => q h131), if_neg h138, if_neg h145, if_neg (fun q => q h158), if_neg h165, if_neg h172, if_neg h179, if_neg h187, if_neg h193, if_neg h199, if_pos h205])⟩) d_Mod_follows_342
                                                      · refine lv_iload_n hx hb d_Mod_follows_208 rfl (lv_at hl 0 rfl) ?_
                                                        refine lv_bipush (v := 95) hx hb d_Mod_follows_209 (by decide) ?_
                                                        refine lv_icmp_eq (tgt := 327) hx hb d_Mod_follows_211 (by decide) (fun h211 => ?_) (fun h211 => ?_)
                                                        · refine lv_iconst (v := 1) hx hb d_Mod_follows_327 (by decide) ?_
                                                          refine lv_goto (tgt := 332) hx hb d_Mod_follows_328 (by decide) ?_
                                                          refine lv_istore_n hx hb d_Mod_follows_332 rfl hl (by decide) rfl (fun ls hl => ?_)
                                                          have hl : lv_has ls 2 [(1, .int 1), (0, .int x)] := hl
                                                          refine lv_iload_n hx hb d_Mod_follows_333 rfl (lv_at hl 0 rfl) ?_
                                                          refine lv_if_eq (tgt := 341) hx hb d_Mod_follows_334 (by decide) (fun h334 => ?_) (fun h334 => ?_)
                                                          · first | exact absurd h334 (by decide) | exact absurd (by decide) h334
                                                          · refine lv_iconst (v := 0) hx hb d_Mod_follows_337 (by decide) ?_
                                                            refine lv_goto (tgt := 342) hx hb d_Mod_follows_338 (by decide) ?_
                                                            exact tw_isret E (⟨Or.inr (Or.inl rfl), (by unfold fof; rw [if_neg h3, if_neg (fun q => q h14), if_neg (fun q => q h25), if_neg (fun q => q h36), if_neg (fun q => q h47), if_neg h55, if_neg h61, if_neg h67, if_neg h73, if_neg h79, if_neg h85, if_neg h91, if_neg h97, if_neg h105, if_neg h111, if_neg h118, if_neg (fun q => q h131), if_neg h138, if_neg h145, if_neg (fun q => q h158), if_neg h165, if_neg h172, if_neg h179, if_neg h187, if_neg h193, if_neg h199, if_neg h205, if_pos h211])⟩) d_Mod_follows_342
                                                        · refine lv_iload_n hx hb d_Mod_follows_214 rfl (lv_at hl 0 rfl) ?_
                                                          refine tw_si (tw_runS (ws := []) (wc := []) (As := [.int x]) (rest := []) E hB hK hZ (g_Mod_isIntegers l g s.heap.size x) mc_Mod_isIntegers ms_Mod_isIntegers wd_1606 hP hD hS hA [] rfl (by decide) rfl rfl (by decide) rfl hl.1 rfl (Nat.le_of_ble_eq_true rfl) (by decide) d_Mod_follows_215) (fun r7 hr7 => ?_)
                                                          have hB7 := hr7
                                                          refine lv_if_ne (tgt := 327) hx hb d_Mod_follows_218 (by decide) (fun h218 => ?_) (fun h218 => ?_)
                                                          · refine lv_iconst (v := 1) hx hb d_Mod_follows_327 (by decide) ?_
                                                            refine lv_goto (tgt := 332) hx hb d_Mod_follows_328 (by decide) ?_
                                                            refine lv_istore_n hx hb d_Mod_follows_332 rfl hl (by decide) rfl (fun ls hl => ?_)
                                                            have hl : lv_has ls 2 [(1, .int 1), (0, .int x)] := hl
                                                            refine lv_iload_n hx hb d_Mod_follows_333 rfl (lv_at hl 0 rfl) ?_
                                                            refine lv_if_eq (tgt := 341) hx hb d_Mod_follows_334 (by decide) (fun h334 => ?_) (fun h334 => ?_)
                                                            · first | exact absurd h334 (by decide) | exact absurd (by decide) h334
                                                            · refine lv_iconst (v := 0) hx hb d_Mod_follows_337 (by decide) ?_
                                                              refine lv_goto (tgt := 342) hx hb d_Mod_follows_338 (by decide) ?_
                                                              exact tw_isret E (⟨Or.inr (Or.inl rfl), (by unfold fof; rw [if_neg h3, if_neg (fun q => q h14), if_neg (fun q => q h25), if_neg (fun q => q h36), if_neg (fun q => q h47), if_neg h55, if_neg h61, if_neg h67, if_neg h73, if_neg h79, if_neg h85, if_neg h91, if_neg h97, if_neg h105, if_neg h111, if_neg h118, if_neg (fun q => q h131), if_neg h138, if_neg h145, if_neg (fun q => q h158), if_neg h165, if_neg h172, if_neg h179, if_neg h187, if_neg h193, if_neg h199, if_neg h205, if_neg h211, if_pos (hB7.2 ▸ h218)])⟩) d_Mod_follows_342
                                                          · refine lv_iload_n hx hb d_Mod_follows_221 rfl (lv_at hl 0 rfl) ?_
                                                            refine tw_si (tw_runS (ws := []) (wc := []) (As := [.int x]) (rest := []) E hB hK hZ (g_Mod_isLongs l g s.heap.size x) mc_Mod_isLongs ms_Mod_isLongs wd_1609 hP hD hS hA [] rfl (by decide) rfl rfl (by decide) rfl hl.1 rfl (Nat.le_of_ble_eq_true rfl) (by decide) d_Mod_follows_222) (fun r8 hr8 => ?_)
                                                            have hB8 := hr8
                                                            refine lv_if_ne (tgt := 327) hx hb d_Mod_follows_225 (by decide) (fun h225 => ?_) (fun h225 => ?_)
                                                            · refine lv_iconst (v := 1) hx hb d_Mod_follows_327 (by decide) ?_
                                                              refine lv_goto (tgt := 332) hx hb d_Mod_follows_328 (by decide) ?_
                                                              refine lv_istore_n hx hb d_Mod_follows_332 rfl hl (by decide) rfl (fun ls hl => ?_)
                                                              have hl : lv_has ls 2 [(1, .int 1), (0, .int x)] := hl
                                                              refine lv_iload_n hx hb d_Mod_follows_333 rfl (lv_at hl 0 rfl) ?_
                                                              refine lv_if_eq (tgt := 341) hx hb d_Mod_follows_334 (by decide) (fun h334 => ?_) (fun h334 => ?_)
                                                              · first | exact absurd h334 (by decide) | exact absurd (by decide) h334
                                                              · refine lv_iconst (v := 0) hx hb d_Mod_follows_337 (by decide) ?_
                                                                refine lv_goto (tgt := 342) hx hb d_Mod_follows_338 (by decide) ?_
                                                                exact tw_isret E (⟨Or.inr (Or.inl rfl), (by unfold fof; rw [if_neg h3, if_neg (fun q => q h14), if_neg (fun q => q h25), if_neg (fun q => q h36), if_neg (fun q => q h47), if_neg h55, if_neg h61, if_neg h67, if_neg h73, if_neg h79, if_neg h85, if_neg h91, if_neg h97, if_neg h105, if_neg h111, if_neg h118, if_neg (fun q => q h131), if_neg h138, if_neg h145, if_neg (fun q => q h158), if_neg h165, if_neg h172, if_neg h179, if_neg h187, if_neg h193, if_neg h199, if_neg h205, if_neg h211, if_neg (fun q => q (hB7.2 ▸ h218)), if_pos (hB8.2 ▸ h225)])⟩) d_Mod_follows_342
                                                            · refine lv_iload_n hx hb d_Mod_follows_228 rfl (lv_at hl 0 rfl) ?_
                                                              refine lv_bipush (v := 121) hx hb d_Mod_follows_229 (by decide) ?_
                                                              refine lv_icmp_eq (tgt := 327) hx hb d_Mod_follows_231 (by decide) (fun h231 => ?_) (fun h231 => ?_)
                                                              · refine lv_iconst (v := 1) hx hb d_Mod_follows_327 (by decide) ?_
                                                                refine lv_goto (tgt := 332) hx hb d_Mod_follows_328 (by decide) ?_
                                                                refine lv_istore_n hx hb d_Mod_follows_332 rfl hl (by decide) rfl (fun ls hl => ?_)
                                                                have hl : lv_has ls 2 [(1, .int 1), (0, .int x)] := hl
                                                                refine lv_iload_n hx hb d_Mod_follows_333 rfl (lv_at hl 0 rfl) ?_
                                                                refine lv_if_eq (tgt := 341) hx hb d_Mod_follows_334 (by decide) (fun h334 => ?_) (fun h334 => ?_)
                                                                · first | exact absurd h334 (by decide) | exact absurd (by decide) h334
                                                                · refine lv_iconst (v := 0) hx hb d_Mod_follows_337 (by decide) ?_
                                                                  refine lv_goto (tgt := 342) hx hb d_Mod_follows_338 (by decide) ?_
                                                                  exact tw_isret E (⟨Or.inr (Or.inl rfl), (by unfold fof; rw [if_neg h3, if_neg (fun q => q h14), if_neg (fun q => q h25), if_neg (fun q => q h36), if_neg (fun q => q h47), if_neg h55, if_neg h61, if_neg h67, if_neg h73, if_neg h79, if_neg h85, if_neg h91, if_neg h97, if_neg h105, if_neg h111, if_neg h118, if_neg (fun q => q h131), if_neg h138, if_neg h145, if_neg (fun q => q h158), if_neg h165, if_neg h172, if_neg h179, if_neg h187, if_neg h193, if_neg h199, if_neg h205, if_neg h211, if_neg (fun q => q (hB7.2 ▸ h218)), if_neg (fun q => q (hB8.2 ▸ h225)), if_pos h231])⟩) d_Mod_follows_342
                                                              · refine lv_iload_n hx hb d_Mod_follows_234 rfl (lv_at hl 0 rfl) ?_
                                                                refine lv_bipush (v := 123) hx hb d_Mod_follows_235 (by decide) ?_
                                                                refine lv_icmp_eq (tgt := 327) hx hb d_Mod_follows_237 (by decide) (fun h237 => ?_) (fun h237 => ?_)
                                                                · refine lv_iconst (v := 1) hx hb d_Mod_follows_327 (by decide) ?_
                                                                  refine lv_goto (tgt := 332) hx hb d_Mod_follows_328 (by decide) ?_
                                                                  refine lv_istore_n hx hb d_Mod_follows_332 rfl hl (by decide) rfl (fun ls hl => ?_)
                                                                  have hl : lv_has ls 2 [(1, .int 1), (0, .int x)] := hl
                                                                  refine lv_iload_n hx hb d_Mod_follows_333 rfl (lv_at hl 0 rfl) ?_
                                                                  refine lv_if_eq (tgt := 341) hx hb d_Mod_follows_334 (by decide) (fun h334 => ?_) (fun h334 => ?_)
                                                                  · first | exact absurd h334 (by decide) | exact absurd (by decide) h334
                                                                  · refine lv_iconst (v := 0) hx hb d_Mod_follows_337 (by decide) ?_
                                                                    refine lv_goto (tgt := 342) hx hb d_Mod_follows_338 (by decide) ?_
                                                                    exact tw_isret E (⟨Or.inr (Or.inl rfl), (by unfold fof; rw [if_neg h3, if_neg (fun q => q h14), if_neg (fun q => q h25), if_neg (fun q => q h36), if_neg (fun q => q h47), if_neg h55, if_neg h61, if_neg h67, if_neg h73, if_neg h79, if_neg h85, if_neg h91, if_neg h97, if_neg h105, if_neg h111, if_neg h118, if_neg (fun q => q h131), if_neg h138, if_neg h145, if_neg (fun q => q h158), if_neg h165, if_neg h172, if_neg h179, if_neg h187, if_neg h193, if_neg h199, if_neg h205, if_neg h211, if_neg (fun q => q (hB7.2 ▸ h218)), if_neg (fun q => q (hB8.2 ▸ h225)), if_neg h231, if_pos h237])⟩) d_Mod_follows_342
                                                                · refine lv_iload_n hx hb d_Mod_follows_240 rfl (lv_at hl 0 rfl) ?_
                                                                  refine lv_bipush (v := 125) hx hb d_Mod_follows_241 (by decide) ?_
                                                                  refine lv_icmp_eq (tgt := 327) hx hb d_Mod_follows_243 (by decide) (fun h243 => ?_) (fun h243 => ?_)
                                                                  · refine lv_iconst (v := 1) hx hb d_Mod_follows_327 (by decide) ?_
                                                                    refine lv_goto (tgt := 332) hx hb d_Mod_follows_328 (by decide) ?_
                                                                    refine lv_istore_n hx hb d_Mod_follows_332 rfl hl (by decide) rfl (fun ls hl => ?_)
                                                                    have hl : lv_has ls 2 [(1, .int 1), (0, .int x)] := hl
                                                                    refine lv_iload_n hx hb d_Mod_follows_333 rfl (lv_at hl 0 rfl) ?_
                                                                    refine lv_if_eq (tgt := 341) hx hb d_Mod_follows_334 (by decide) (fun h334 => ?_) (fun h334 => ?_)
                                                                    · first | exact absurd h334 (by decide) | exact absurd (by decide) h334
                                                                    · refine lv_iconst (v := 0) hx hb d_Mod_follows_337 (by decide) ?_
                                                                      refine lv_goto (tgt := 342) hx hb d_Mod_follows_338 (by decide) ?_
                                                                      exact tw_isret E (⟨Or.inr (Or.inl rfl), (by unfold fof; rw [if_neg h3, if_neg (fun q => q h14), if_neg (fun q => q h25), if_neg (fun q => q h36), if_neg (fun q => q h47), if_neg h55, if_neg h61, if_neg h67, if_neg h73, if_neg h79, if_neg h85, if_neg h91, if_neg h97, if_neg h105, if_neg h111, if_neg h118, if_neg (fun q => q h131), if_neg h138, if_neg h145, if_neg (fun q => q h158), if_neg h165, if_neg h172, if_neg h179, if_neg h187, if_neg h193, if_neg h199, if_neg h205, if_neg h211, if_neg (fun q => q (hB7.2 ▸ h218)), if_neg (fun q => q (hB8.2 ▸ h225)), if_neg h231, if_neg h237, if_pos h243])⟩) d_Mod_follows_342
                                                                  · refine lv_iload_n hx hb d_Mod_follows_246 rfl (lv_at hl 0 rfl) ?_
                                                                    refine lv_bipush (v := 116) hx hb d_Mod_follows_247 (by decide) ?_
                                                                    refine lv_icmp_eq (tgt := 327) hx hb d_Mod_follows_249 (by decide) (fun h249 => ?_) (fun h249 => ?_)
                                                                    · refine lv_iconst (v := 1) hx hb d_Mod_follows_327 (by decide) ?_
                                                                      refine lv_goto (tgt := 332) hx hb d_Mod_follows_328 (by decide) ?_
                                                                      refine lv_istore_n hx hb d_Mod_follows_332 rfl hl (by decide) rfl (fun ls hl => ?_)
                                                                      have hl : lv_has ls 2 [(1, .int 1), (0, .int x)] := hl
                                                                      refine lv_iload_n hx hb d_Mod_follows_333 rfl (lv_at hl 0 rfl) ?_
                                                                      refine lv_if_eq (tgt := 341) hx hb d_Mod_follows_334 (by decide) (fun h334 => ?_) (fun h334 => ?_)
                                                                      · first | exact absurd h334 (by decide) | exact absurd (by decide) h334
                                                                      · refine lv_iconst (v := 0) hx hb d_Mod_follows_337 (by decide) ?_
                                                                        refine lv_goto (tgt := 342) hx hb d_Mod_follows_338 (by decide) ?_
                                                                        exact tw_isret E (⟨Or.inr (Or.inl rfl), (by unfold fof; rw [if_neg h3, if_neg (fun q => q h14), if_neg (fun q => q h25), if_neg (fun q => q h36), if_neg (fun q => q h47), if_neg h55, if_neg h61, if_neg h67, if_neg h73, if_neg h79, if_neg h85, if_neg h91, if_neg h97, if_neg h105, if_neg h111, if_neg h118, if_neg (fun q => q h131), if_neg h138, if_neg h145, if_neg (fun q => q h158), if_neg h165, if_neg h172, if_neg h179, if_neg h187, if_neg h193, if_neg h199, if_neg h205, if_neg h211, if_neg (fun q => q (hB7.2 ▸ h218)), if_neg (fun q => q (hB8.2 ▸ h225)), if_neg h231, if_neg h237, if_neg h243, if_pos h249])⟩) d_Mod_follows_342
                                                                    · refine lv_iload_n hx hb d_Mod_follows_252 rfl (lv_at hl 0 rfl) ?_
                                                                      refine lv_bipush (v := 117) hx hb d_Mod_follows_253 (by decide) ?_
                                                                      refine lv_icmp_eq (tgt := 327) hx hb d_Mod_follows_255 (by decide) (fun h255 => ?_) (fun h255 => ?_)
                                                                      · refine lv_iconst (v := 1) hx hb d_Mod_follows_327 (by decide) ?_
                                                                        refine lv_goto (tgt := 332) hx hb d_Mod_follows_328 (by decide) ?_
                                                                        refine lv_istore_n hx hb d_Mod_follows_332 rfl hl (by decide) rfl (fun ls hl => ?_)
                                                                        have hl : lv_has ls 2 [(1, .int 1), (0, .int x)] := hl
                                                                        refine lv_iload_n hx hb d_Mod_follows_333 rfl (lv_at hl 0 rfl) ?_
                                                                        refine lv_if_eq (tgt := 341) hx hb d_Mod_follows_334 (by decide) (fun h334 => ?_) (fun h334 => ?_)
                                                                        · first | exact absurd h334 (by decide) | exact absurd (by decide) h334
                                                                        · refine lv_iconst (v := 0) hx hb d_Mod_follows_337 (by decide) ?_
                                                                          refine lv_goto (tgt := 342) hx hb d_Mod_follows_338 (by decide) ?_
                                                                          exact tw_isret E (⟨Or.inr (Or.inl rfl), (by unfold fof; rw [if_neg h3, if_neg (fun q => q h14), if_neg (fun q => q h25), if_neg (fun q => q h36), if_neg (fun q => q h47), if_neg h55, if_neg h61, if_neg h67, if_neg h73, if_neg h79, if_neg h85, if_neg h91, if_neg h97, if_neg h105, if_neg h111, if_neg h118, if_neg (fun q => q h131), if_neg h138, if_neg h145, if_neg (fun q => q h158), if_neg h165, if_neg h172, if_neg h179, if_neg h187, if_neg h193, if_neg h199, if_neg h205, if_neg h211, if_neg (fun q => q (hB7.2 ▸ h218)), if_neg (fun q => q (hB8.2 ▸ h225)), if_neg h231, if_neg h237, if_neg h243, if_neg h249, if_pos h255])⟩) d_Mod_follows_342
                                                                      · refine lv_iload_n hx hb d_Mod_follows_258 rfl (lv_at hl 0 rfl) ?_
                                                                        refine lv_sipush (v := 133) hx hb d_Mod_follows_259 (by decide) ?_
                                                                        refine lv_icmp_eq (tgt := 327) hx hb d_Mod_follows_262 (by decide) (fun h262 => ?_) (fun h262 => ?_)
                                                                        · refine lv_iconst (v := 1) hx hb d_Mod_follows_327 (by decide) ?_
                                                                          refine lv_goto (tgt := 332) hx hb d_Mod_follows_328 (by decide) ?_
                                                                          refine lv_istore_n hx hb d_Mod_follows_332 rfl hl (by decide) rfl (fun ls hl => ?_)
                                                                          have hl : lv_has ls 2 [(1, .int 1), (0, .int x)] := hl
                                                                          refine lv_iload_n hx hb d_Mod_follows_333 rfl (lv_at hl 0 rfl) ?_
                                                                          refine lv_if_eq (tgt := 341) hx hb d_Mod_follows_334 (by decide) (fun h334 => ?_) (fun h334 => ?_)
                                                                          · first | exact absurd h334 (by decide) | exact absurd (by decide) h334
                                                                          · refine lv_iconst (v := 0) hx hb d_Mod_follows_337 (by decide) ?_
                                                                            refine lv_goto (tgt := 342) hx hb d_Mod_follows_338 (by decide) ?_
                                                                            exact tw_isret E (⟨Or.inr (Or.inl rfl), (by unfold fof; rw [if_neg h3, if_neg (fun q => q h14), if_neg (fun q => q h25), if_neg (fun q => q h36), if_neg (fun q => q h47), if_neg h55, if_neg h61, if_neg h67, if_neg h73, if_neg h79, if_neg h85, if_neg h91, if_neg h97, if_neg h105, if_neg h111, if_neg h118, if_neg (fun q => q h131), if_neg h138, if_neg h145, if_neg (fun q => q h158), if_neg h165, if_neg h172, if_neg h179, if_neg h187, if_neg h193, if_neg h199, if_neg h205, if_neg h211, if_neg (fun q => q (hB7.2 ▸ h218)), if_neg (fun q => q (hB8.2 ▸ h225)), if_neg h231, if_neg h237, if_neg h243, if_neg h249, if_neg h255, if_pos h262])⟩) d_Mod_follows_342
                                                                        · refine lv_iload_n hx hb d_Mod_follows_265 rfl (lv_at hl 0 rfl) ?_
                                                                          refine lv_sipush (v := 136) hx hb d_Mod_follows_266 (by decide) ?_
                                                                          refine lv_icmp_eq (tgt := 327) hx hb d_Mod_follows_269 (by decide) (fun h269 => ?_) (fun h269 => ?_)
                                                                          · refine lv_iconst (v := 1) hx hb d_Mod_follows_327 (by decide) ?_
                                                                            refine lv_goto (tgt := 332) hx hb d_Mod_follows_328 (by decide) ?_
                                                                            refine lv_istore_n hx hb d_Mod_follows_332 rfl hl (by decide) rfl (fun ls hl => ?_)
                                                                            have hl : lv_has ls 2 [(1, .int 1), (0, .int x)] := hl
                                                                            refine lv_iload_n hx hb d_Mod_follows_333 rfl (lv_at hl 0 rfl) ?_
                                                                            refine lv_if_eq (tgt := 341) hx hb d_Mod_follows_334 (by decide) (fun h334 => ?_) (fun h334 => ?_)
                                                                            · first | exact absurd h334 (by decide) | exact absurd (by decide) h334
                                                                            · refine lv_iconst (v := 0) hx hb d_Mod_follows_337 (by decide) ?_
                                                                              refine lv_goto (tgt := 342) hx hb d_Mod_follows_338 (by decide) ?_
                                                                              exact tw_isret E (⟨Or.inr (Or.inl rfl), (by unfold fof; rw [if_neg h3, if_neg (fun q => q h14), if_neg (fun q => q h25), if_neg (fun q => q h36), if_neg (fun q => q h47), if_neg h55, if_neg h61, if_neg h67, if_neg h73, if_neg h79, if_neg h85, if_neg h91, if_neg h97, if_neg h105, if_neg h111, if_neg h118, if_neg (fun q => q h131), if_neg h138, if_neg h145, if_neg (fun q => q h158), if_neg h165, if_neg h172, if_neg h179, if_neg h187, if_neg h193, if_neg h199, if_neg h205, if_neg h211, if_neg (fun q => q (hB7.2 ▸ h218)), if_neg (fun q => q (hB8.2 ▸ h225)), if_neg h231, if_neg h237, if_neg h243, if_neg h249, if_neg h255, if_neg h262, if_pos h269])⟩) d_Mod_follows_342
                                                                          · refine lv_iload_n hx hb d_Mod_follows_272 rfl (lv_at hl 0 rfl) ?_
                                                                            refine lv_sipush (v := 145) hx hb d_Mod_follows_273 (by decide) ?_
                                                                            refine lv_sipush (v := 148) hx hb d_Mod_follows_276 (by decide) ?_
                                                                            refine tw_si (tw_runS (ws := []) (wc := []) (As := [.int x, .int 145, .int 148]) (rest := []) E hB hK hZ (c_Mod_isIn l g s.heap.size x 145 148) mc_Mod_isIn ms_Mod_isIn wd_1443 hP hD hS hA [] rfl (by decide) rfl rfl (by decide) rfl hl.1 rfl (Nat.le_of_ble_eq_true rfl) (by decide) d_Mod_follows_279) (fun r9 hr9 => ?_)
                                                                            obtain rfl : r9 = is_in x 145 148 := hr9
                                                                            refine lv_if_ne (tgt := 327) hx hb d_Mod_follows_282 (by decide) (fun h282 => ?_) (fun h282 => ?_)
                                                                            · refine lv_iconst (v := 1) hx hb d_Mod_follows_327 (by decide) ?_
                                                                              refine lv_goto (tgt := 332) hx hb d_Mod_follows_328 (by decide) ?_
                                                                              refine lv_istore_n hx hb d_Mod_follows_332 rfl hl (by decide) rfl (fun ls hl => ?_)
                                                                              have hl : lv_has ls 2 [(1, .int 1), (0, .int x)] := hl
                                                                              refine lv_iload_n hx hb d_Mod_follows_333 rfl (lv_at hl 0 rfl) ?_
                                                                              refine lv_if_eq (tgt := 341) hx hb d_Mod_follows_334 (by decide) (fun h334 => ?_) (fun h334 => ?_)
                                                                              · first | exact absurd h334 (by decide) | exact absurd (by decide) h334
                                                                              · refine lv_iconst (v := 0) hx hb d_Mod_follows_337 (by decide) ?_
                                                                                refine lv_goto (tgt := 342) hx hb d_Mod_follows_338 (by decide) ?_
                                                                                exact tw_isret E (⟨Or.inr (Or.inl rfl), (by unfold fof; rw [if_neg h3, if_neg (fun q => q h14), if_neg (fun q => q h25), if_neg (fun q => q h36), if_neg (fun q => q h47), if_neg h55, if_neg h61, if_neg h67, if_neg h73, if_neg h79, if_neg h85, if_neg h91, if_neg h97, if_neg h105, if_neg h111, if_neg h118, if_neg (fun q => q h131), if_neg h138, if_neg h145, if_neg (fun q => q h158), if_neg h165, if_neg h172, if_neg h179, if_neg h187, if_neg h193, if_neg h199, if_neg h205, if_neg h211, if_neg (fun q => q (hB7.2 ▸ h218)), if_neg (fun q => q (hB8.2 ▸ h225)), if_neg h231, if_neg h237, if_neg h243, if_neg h249, if_neg h255, if_neg h262, if_neg h269, if_pos h282])⟩) d_Mod_follows_342
                                                                            · refine lv_iload_n hx hb d_Mod_follows_285 rfl (lv_at hl 0 rfl) ?_
                                                                              refine lv_sipush (v := 172) hx hb d_Mod_follows_286 (by decide) ?_
                                                                              refine lv_icmp_eq (tgt := 327) hx hb d_Mod_follows_289 (by decide) (fun h289 => ?_) (fun h289 => ?_)
                                                                              · refine lv_iconst (v := 1) hx hb d_Mod_follows_327 (by decide) ?_
                                                                                refine lv_goto (tgt := 332) hx hb d_Mod_follows_328 (by decide) ?_
                                                                                refine lv_istore_n hx hb d_Mod_follows_332 rfl hl (by decide) rfl (fun ls hl => ?_)
                                                                                have hl : lv_has ls 2 [(1, .int 1), (0, .int x)] := hl
                                                                                refine lv_iload_n hx hb d_Mod_follows_333 rfl (lv_at hl 0 rfl) ?_
                                                                                refine lv_if_eq (tgt := 341) hx hb d_Mod_follows_334 (by decide) (fun h334 => ?_) (fun h334 => ?_)
                                                                                · first | exact absurd h334 (by decide) | exact absurd (by decide) h334
                                                                                · refine lv_iconst (v := 0) hx hb d_Mod_follows_337 (by decide) ?_
                                                                                  refine lv_goto (tgt := 342) hx hb d_Mod_follows_338 (by decide) ?_
                                                                                  exact tw_isret E (⟨Or.inr (Or.inl rfl), (by unfold fof; rw [if_neg h3, if_neg (fun q => q h14), if_neg (fun q => q h25), if_neg (fun q => q h36), if_neg (fun q => q h47), if_neg h55, if_neg h61, if_neg h67, if_neg h73, if_neg h79, if_neg h85, if_neg h91, if_neg h97, if_neg h105, if_neg h111, if_neg h118, if_neg (fun q => q h131), if_neg h138, if_neg h145, if_neg (fun q => q h158), if_neg h165, if_neg h172, if_neg h179, if_neg h187, if_neg h193, if_neg h199, if_neg h205, if_neg h211, if_neg (fun q => q (hB7.2 ▸ h218)), if_neg (fun q => q (hB8.2 ▸ h225)), if_neg h231, if_neg h237, if_neg h243, if_neg h249, if_neg h255, if_neg h262, if_neg h269, if_neg (fun q => q h282), if_pos h289])⟩) d_Mod_follows_342
                                                                              · refine lv_iload_n hx hb d_Mod_follows_292 rfl (lv_at hl 0 rfl) ?_
                                                                                refine lv_sipush (v := 173) hx hb d_Mod_follows_293 (by decide) ?_
                                                                                refine lv_icmp_eq (tgt := 327) hx hb d_Mod_follows_296 (by decide) (fun h296 => ?_) (fun h296 => ?_)
                                                                                · refine lv_iconst (v := 1) hx hb d_Mod_follows_327 (by decide) ?_
                                                                                  refine lv_goto (tgt := 332) hx hb d_Mod_follows_328 (by decide) ?_
                                                                                  refine lv_istore_n hx hb d_Mod_follows_332 rfl hl (by decide) rfl (fun ls hl => ?_)
                                                                                  have hl : lv_has ls 2 [(1, .int 1), (0, .int x)] := hl
                                                                                  refine lv_iload_n hx hb d_Mod_follows_333 rfl (lv_at hl 0 rfl) ?_
                                                                                  refine lv_if_eq (tgt := 341) hx hb d_Mod_follows_334 (by decide) (fun h334 => ?_) (fun h334 => ?_)
                                                                                  · first | exact absurd h334 (by decide) | exact absurd (by decide) h334
                                                                                  · refine lv_iconst (v := 0) hx hb d_Mod_follows_337 (by decide) ?_
                                                                                    refine lv_goto (tgt := 342) hx hb d_Mod_follows_338 (by decide) ?_
                                                                                    exact tw_isret E (⟨Or.inr (Or.inl rfl), (by unfold fof; rw [if_neg h3, if_neg (fun q => q h14), if_neg (fun q => q h25), if_neg (fun q => q h36), if_neg (fun q => q h47), if_neg h55, if_neg h61, if_neg h67, if_neg h73, if_neg h79, if_neg h85, if_neg h91, if_neg h97, if_neg h105, if_neg h111, if_neg h118, if_neg (fun q => q h131), if_neg h138, if_neg h145, if_neg (fun q => q h158), if_neg h165, if_neg h172, if_neg h179, if_neg h187, if_neg h193, if_neg h199, if_neg h205, if_neg h211, if_neg (fun q => q (hB7.2 ▸ h218)), if_neg (fun q => q (hB8.2 ▸ h225)), if_neg h231, if_neg h237, if_neg h243, if_neg h249, if_neg h255, if_neg h262, if_neg h269, if_neg (fun q => q h282), if_neg h289, if_pos h296])⟩) d_Mod_follows_342
                                                                                · refine lv_iload_n hx hb d_Mod_follows_299 rfl (lv_at hl 0 rfl) ?_
                                                                                  refine lv_sipush (v := 176) hx hb d_Mod_follows_300 (by decide) ?_
                                                                                  refine lv_icmp_eq (tgt := 327) hx hb d_Mod_follows_303 (by decide) (fun h303 => ?_) (fun h303 => ?_)
                                                                                  · refine lv_iconst (v := 1) hx hb d_Mod_follows_327 (by decide) ?_
                                                                                    refine lv_goto (tgt := 332) hx hb d_Mod_follows_328 (by decide) ?_
                                                                                    refine lv_istore_n hx hb d_Mod_follows_332 rfl hl (by decide) rfl (fun ls hl => ?_)
                                                                                    have hl : lv_has ls 2 [(1, .int 1), (0, .int x)] := hl
                                                                                    refine lv_iload_n hx hb d_Mod_follows_333 rfl (lv_at hl 0 rfl) ?_
                                                                                    refine lv_if_eq (tgt := 341) hx hb d_Mod_follows_334 (by decide) (fun h334 => ?_) (fun h334 => ?_)
                                                                                    · first | exact absurd h334 (by decide) | exact absurd (by decide) h334
                                                                                    · refine lv_iconst (v := 0) hx hb d_Mod_follows_337 (by decide) ?_
                                                                                      refine lv_goto (tgt := 342) hx hb d_Mod_follows_338 (by decide) ?_
                                                                                      exact tw_isret E (⟨Or.inr (Or.inl rfl), (by unfold fof; rw [if_neg h3, if_neg (fun q => q h14), if_neg (fun q => q h25), if_neg (fun q => q h36), if_neg (fun q => q h47), if_neg h55, if_neg h61, if_neg h67, if_neg h73, if_neg h79, if_neg h85, if_neg h91, if_neg h97, if_neg h105, if_neg h111, if_neg h118, if_neg (fun q => q h131), if_neg h138, if_neg h145, if_neg (fun q => q h158), if_neg h165, if_neg h172, if_neg h179, if_neg h187, if_neg h193, if_neg h199, if_neg h205, if_neg h211, if_neg (fun q => q (hB7.2 ▸ h218)), if_neg (fun q => q (hB8.2 ▸ h225)), if_neg h231, if_neg h237, if_neg h243, if_neg h249, if_neg h255, if_neg h262, if_neg h269, if_neg (fun q => q h282), if_neg h289, if_neg h296, if_pos h303])⟩) d_Mod_follows_342
                                                                                  · refine lv_iload_n hx hb d_Mod_follows_306 rfl (lv_at hl 0 rfl) ?_
                                                                                    refine lv_sipush (v := 177) hx hb d_Mod_follows_307 (by decide) ?_
                                                                                    refine lv_icmp_eq (tgt := 327) hx hb d_Mod_follows_310 (by decide) (fun h310 => ?_) (fun h310 => ?_)
                                                                                    · refine lv_iconst (v := 1) hx hb d_Mod_follows_327 (by decide) ?_
                                                                                      refine lv_goto (tgt := 332) hx hb d_Mod_follows_328 (by decide) ?_
                                                                                      refine lv_istore_n hx hb d_Mod_follows_332 rfl hl (by decide) rfl (fun ls hl => ?_)
                                                                                      have hl : lv_has ls 2 [(1, .int 1), (0, .int x)] := hl
                                                                                      refine lv_iload_n hx hb d_Mod_follows_333 rfl (lv_at hl 0 rfl) ?_
                                                                                      refine lv_if_eq (tgt := 341) hx hb d_Mod_follows_334 (by decide) (fun h334 => ?_) (fun h334 => ?_)
                                                                                      · first | exact absurd h334 (by decide) | exact absurd (by decide) h334
                                                                                      · refine lv_iconst (v := 0) hx hb d_Mod_follows_337 (by decide) ?_
                                                                                        refine lv_goto (tgt := 342) hx hb d_Mod_follows_338 (by decide) ?_
                                                                                        exact tw_isret E (⟨Or.inr (Or.inl rfl), (by unfold fof; rw [if_neg h3, if_neg (fun q => q h14), if_neg (fun q => q h25), if_neg (fun q => q h36), if_neg (fun q => q h47), if_neg h55, if_neg h61, if_neg h67, if_neg h73, if_neg h79, if_neg h85, if_neg h91, if_neg h97, if_neg h105, if_neg h111, if_neg h118, if_neg (fun q => q h131), if_neg h138, if_neg h145, if_neg (fun q => q h158), if_neg h165, if_neg h172, if_neg h179, if_neg h187, if_neg h193, if_neg h199, if_neg h205, if_neg h211, if_neg (fun q => q (hB7.2 ▸ h218)), if_neg (fun q => q (hB8.2 ▸ h225)), if_neg h231, if_neg h237, if_neg h243, if_neg h249, if_neg h255, if_neg h262, if_neg h269, if_neg (fun q => q h282), if_neg h289, if_neg h296, if_neg h303, if_pos h310])⟩) d_Mod_follows_342
                                                                                    · refine lv_iload_n hx hb d_Mod_follows_313 rfl (lv_at hl 0 rfl) ?_
                                                                                      refine lv_sipush (v := 190) hx hb d_Mod_follows_314 (by decide) ?_
                                                                                      refine lv_icmp_eq (tgt := 327) hx hb d_Mod_follows_317 (by decide) (fun h317 => ?_) (fun h317 => ?_)
                                                                                      · refine lv_iconst (v := 1) hx hb d_Mod_follows_327 (by decide) ?_
                                                                                        refine lv_goto (tgt := 332) hx hb d_Mod_follows_328 (by decide) ?_
                                                                                        refine lv_istore_n hx hb d_Mod_follows_332 rfl hl (by decide) rfl (fun ls hl => ?_)
                                                                                        have hl : lv_has ls 2 [(1, .int 1), (0, .int x)] := hl
                                                                                        refine lv_iload_n hx hb d_Mod_follows_333 rfl (lv_at hl 0 rfl) ?_
                                                                                        refine lv_if_eq (tgt := 341) hx hb d_Mod_follows_334 (by decide) (fun h334 => ?_) (fun h334 => ?_)
                                                                                        · first | exact absurd h334 (by decide) | exact absurd (by decide) h334
                                                                                        · refine lv_iconst (v := 0) hx hb d_Mod_follows_337 (by decide) ?_
                                                                                          refine lv_goto (tgt := 342) hx hb d_Mod_follows_338 (by decide) ?_
                                                                                          exact tw_isret E (⟨Or.inr (Or.inl rfl), (by unfold fof; rw [if_neg h3, if_neg (fun q => q h14), if_neg (fun q => q h25), if_neg (fun q => q h36), if_neg (fun q => q h47), if_neg h55, if_neg h61, if_neg h67, if_neg h73, if_neg h79, if_neg h85, if_neg h91, if_neg h97, if_neg h105, if_neg h111, if_neg h118, if_neg (fun q => q h131), if_neg h138, if_neg h145, if_neg (fun q => q h158), if_neg h165, if_neg h172, if_neg h179, if_neg h187, if_neg h193, if_neg h199, if_neg h205, if_neg h211, if_neg (fun q => q (hB7.2 ▸ h218)), if_neg (fun q => q (hB8.2 ▸ h225)), if_neg h231, if_neg h237, if_neg h243, if_neg h249, if_neg h255, if_neg h262, if_neg h269, if_neg (fun q => q h282), if_neg h289, if_neg h296, if_neg h303, if_neg h310, if_pos h317])⟩) d_Mod_follows_342
                                                                                      · refine lv_iload_n hx hb d_Mod_follows_320 rfl (lv_at hl 0 rfl) ?_
                                                                                        refine lv_sipush (v := 191) hx hb d_Mod_follows_321 (by decide) ?_
                                                                                        refine lv_icmp_ne (tgt := 331) hx hb d_Mod_follows_324 (by decide) (fun h324 => ?_) (fun h324 => ?_)
                                                                                        · refine lv_iconst (v := 0) hx hb d_Mod_follows_331 (by decide) ?_
                                                                                          refine lv_istore_n hx hb d_Mod_follows_332 rfl hl (by decide) rfl (fun ls hl => ?_)
                                                                                          have hl : lv_has ls 2 [(1, .int 0), (0, .int x)] := hl
                                                                                          refine lv_iload_n hx hb d_Mod_follows_333 rfl (lv_at hl 0 rfl) ?_
                                                                                          refine lv_if_eq (tgt := 341) hx hb d_Mod_follows_334 (by decide) (fun h334 => ?_) (fun h334 => ?_)
                                                                                          · refine lv_iconst (v := (-1)) hx hb d_Mod_follows_341 (by decide) ?_
                                                                                            exact tw_isret E (⟨Or.inl rfl, (by unfold fof; rw [if_neg h3, if_neg (fun q => q h14), if_neg (fun q => q h25), if_neg (fun q => q h36), if_neg (fun q => q h47), if_neg h55, if_neg h61, if_neg h67, if_neg h73, if_neg h79, if_neg h85, if_neg h91, if_neg h97, if_neg h105, if_neg h111, if_neg h118, if_neg (fun q => q h131), if_neg h138, if_neg h145, if_neg (fun q => q h158), if_neg h165, if_neg h172, if_neg h179, if_neg h187, if_neg h193, if_neg h199, if_neg h205, if_neg h211, if_neg (fun q => q (hB7.2 ▸ h218)), if_neg (fun q => q (hB8.2 ▸ h225)), if_neg h231, if_neg h237, if_neg h243, if_neg h249, if_neg h255, if_neg h262, if_neg h269, if_neg (fun q => q h282), if_neg h289, if_neg h296, if_neg h303, if_neg h310, if_neg h317, if_neg h324])⟩) d_Mod_follows_342
                                                                                          · first | exact absurd h334 (by decide) | exact absurd (by decide) h334
                                                                                        · refine lv_iconst (v := 1) hx hb d_Mod_follows_327 (by decide) ?_
                                                                                          refine lv_goto (tgt := 332) hx hb d_Mod_follows_328 (by decide) ?_
                                                                                          refine lv_istore_n hx hb d_Mod_follows_332 rfl hl (by decide) rfl (fun ls hl => ?_)
                                                                                          have hl : lv_has ls 2 [(1, .int 1), (0, .int x)] := hl
                                                                                          refine lv_iload_n hx hb d_Mod_follows_333 rfl (lv_at hl 0 rfl) ?_
                                                                                          refine lv_if_eq (tgt := 341) hx hb d_Mod_follows_334 (by decide) (fun h334 => ?_) (fun h334 => ?_)
                                                                                          · first | exact absurd h334 (by decide) | exact absurd (by decide) h334
                                                                                          · refine lv_iconst (v := 0) hx hb d_Mod_follows_337 (by decide) ?_
                                                                                            refine lv_goto (tgt := 342) hx hb d_Mod_follows_338 (by decide) ?_
                                                                                            exact tw_isret E (⟨Or.inr (Or.inl rfl), (by unfold fof; rw [if_neg h3, if_neg (fun q => q h14), if_neg (fun q => q h25), if_neg (fun q => q h36), if_neg (fun q => q h47), if_neg h55, if_neg h61, if_neg h67, if_neg h73, if_neg h79, if_neg h85, if_neg h91, if_neg h97, if_neg h105, if_neg h111, if_neg h118, if_neg (fun q => q h131), if_neg h138, if_neg h145, if_neg (fun q => q h158), if_neg h165, if_neg h172, if_neg h179, if_neg h187, if_neg h193, if_neg h199, if_neg h205, if_neg h211, if_neg (fun q => q (hB7.2 ▸ h218)), if_neg (fun q => q (hB8.2 ▸ h225)), if_neg h231, if_neg h237, if_neg h243, if_neg h249, if_neg h255, if_neg h262, if_neg h269, if_neg (fun q => q h282), if_neg h289, if_neg h296, if_neg h303, if_neg h310, if_neg h317, if_pos h324])⟩) d_Mod_follows_342
                                              · refine lv_iconst (v := 2) hx hb d_Mod_follows_182 (by decide) ?_
                                                exact tw_isret E (⟨Or.inr (Or.inr (Or.inr rfl)), (by unfold fof; rw [if_neg h3, if_neg (fun q => q h14), if_neg (fun q => q h25), if_neg (fun q => q h36), if_neg (fun q => q h47), if_neg h55, if_neg h61, if_neg h67, if_neg h73, if_neg h79, if_neg h85, if_neg h91, if_neg h97, if_neg h105, if_neg h111, if_neg h118, if_neg (fun q => q h131), if_neg h138, if_neg h145, if_neg (fun q => q h158), if_neg h165, if_neg h172, if_pos h179])⟩) d_Mod_follows_183
                          · refine lv_iconst (v := 1) hx hb d_Mod_follows_100 (by decide) ?_
                            exact tw_isret E (⟨Or.inr (Or.inr (Or.inl rfl)), (by unfold fof; rw [if_neg h3, if_neg (fun q => q h14), if_neg (fun q => q h25), if_neg (fun q => q h36), if_neg (fun q => q h47), if_neg h55, if_neg h61, if_neg h67, if_neg h73, if_neg h79, if_neg h85, if_neg h91, if_pos h97])⟩) d_Mod_follows_101
          · refine lv_iconst (v := 0) hx hb d_Mod_follows_50 (by decide) ?_
            exact tw_isret E (⟨Or.inr (Or.inl rfl), (by unfold fof; rw [if_neg h3, if_neg (fun q => q h14), if_neg (fun q => q h25), if_neg (fun q => q h36), if_pos h47])⟩) d_Mod_follows_51
end
section
/-! Numbers of two bytes, kinds, what is marked. -/
def bt (bs : Nat → Int32) (i : Nat) : Nat := (bs i).toNatClampNeg
theorem bt_eq {bs : Nat → Int32} {i : Nat} (h : BYT bs) (hi : i < 600) : bs i = nI (bt bs i) := by
  obtain ⟨b, hb, e⟩ := h i hi
  unfold bt
  rw [e, nI_clamp (by omega)]
theorem bt_lt {bs : Nat → Int32} {i : Nat} (h : BYT bs) (hi : i < 600) : bt bs i < 256 := by
  obtain ⟨b, hb, e⟩ := h i hi
  unfold bt
  rw [e, nI_clamp (by omega)]
  exact hb
def t2 (bs : Nat → Int32) (i : Nat) : Nat := 256 * bt bs i + bt bs (i + 1)
theorem t2_lt {bs : Nat → Int32} {i : Nat} (h : BYT bs) (hi : i + 1 < 600) : t2 bs i < 65536 := by
  have h1 := bt_lt (i := i) h (by omega)
  have h2 := bt_lt (i := i + 1) h (by omega)
  unfold t2
  omega
def KND (r : Int32) : Prop := r = 0 ∨ r = 1 ∨ r = 2 ∨ r = 4 ∨ r = 9 ∨ r = 10
def FRG (dp iw kd : Nat → Int32) : Prop := (∀ p, p < 600 → dp p = -1 ∨ ∃ d, d ≤ 64 ∧ dp p = nI d) ∧ (∀ p, p < 600 → ¬ iw p = 0 → ¬ dp p = -1) ∧ (∀ p, p < 600 → ¬ kd (128 * p) = 3 ∧ ¬ kd (128 * p + 64) = 3)
theorem FRG.mark {dp iw kd : Nat → Int32} {k : Nat} (h : FRG dp iw kd) (hk : k < 600) : FRG (upd dp k (-1)) (upd iw k 0) kd := by
  refine ⟨?_, ?_, h.2.2⟩
  · intro p hp
    by_cases e : p = k
    · exact Or.inl (if_pos e)
    · have := h.1 p hp
      simp only [upd, if_neg e]
      exact this
  · intro p hp hw
    by_cases e : p = k
    · exact absurd (if_pos e) hw
    · simp only [upd, if_neg e] at hw ⊢
      exact h.2.1 p hp hw
theorem mk_z {is_ : Nat → Int32} {b k : Nat} (h : ∀ j, b ≤ j → j < k → is_ j = 0) : ∀ j, b ≤ j → j < k + 1 → upd is_ k 0 j = 0 := by
  intro j h1 h2
  by_cases e : j = k
  · exact if_pos e
  · exact (if_neg e).trans (h j h1 (by omega))
theorem fo_n {r : Int32} (h : r = -1 ∨ r = 0 ∨ r = 1 ∨ r = 2) (h2 : 0 ≤ r) : ∃ n, n ≤ 2 ∧ r = nI n := by
  rcases h with rfl | rfl | rfl | rfl
  · exact absurd h2 (by decide)
  · exact ⟨0, by decide, rfl⟩
  · exact ⟨1, by decide, rfl⟩
  · exact ⟨2, by decide, rfl⟩
theorem fo_m {r : Int32} (h : r = -1 ∨ r = 0 ∨ r = 1 ∨ r = 2) (h2 : ¬ 0 ≤ r) : r = -1 := by
  rcases h with rfl | rfl | rfl | rfl
  · rfl
  · exact absurd (by decide) h2
  · exact absurd (by decide) h2
  · exact absurd (by decide) h2
theorem nI_p1m1 (k : Nat) : nI (k + 1) + -1 = nI k := by
  have e := pk_sub (a := k + 1) (b := 1) (by omega)
  rw [Nat.add_sub_cancel] at e
  rw [← e, Int32.sub_eq_add_neg]
  rfl
def STP (bs : Nat → Int32) (b l p : Nat) : Prop := ∃ n, n ≤ 2 ∧ fof (bs p) = nI n ∧ p + n < b + l
theorem mk_st {bs is_ : Nat → Int32} {b l k : Nat} {x : Int32} (h : ∀ j, b ≤ j → j < b + l → ¬ is_ j = 0 → STP bs b l j) (hk : STP bs b l k) : ∀ j, b ≤ j → j < b + l → ¬ upd is_ k x j = 0 → STP bs b l j := by
  intro j h1 h2 h3
  by_cases e : j = k
  · rw [e]; exact hk
  · exact h j h1 h2 (fun q => h3 ((if_neg e).trans q))
def HN1 (bs xp : Nat → Int32) (l j : Nat) : Prop := ∃ p, xp j = nI p ∧ p + 8 ≤ 600 ∧ t2 bs (p + 4) < l
theorem mtc_lt {bs : Nat → Int32} {y f k : Nat} (h : MTC bs y f k) : k < y := by
  cases f with
  | zero => exact h.1
  | succ f => rcases h with h | h <;> exact h.1
theorem mtc_end {bs : Nat → Int32} {y f k : Nat} (h : MTC bs y f k) (h2 : bs k = 41) : k + 1 < y := by
  cases f with
  | zero => exact h.2.2
  | succ f =>
    rcases h with h | h
    · exact h.2.2
    · exact absurd h2 h.2.1
theorem mtc_next {bs : Nat → Int32} {y f k : Nat} (h : MTC bs y f k) (h2 : ¬ bs k = 41) : ∃ r, tef bs k y = nI r ∧ k < r ∧ r ≤ y ∧ MTX bs y r := by
  cases f with
  | zero => exact absurd h.2.1 h2
  | succ f =>
    rcases h with h | ⟨_, _, r, h3, h4, h5, h6⟩
    · exact absurd h.2.1 h2
    · exact ⟨r, h3, h4, h5, f, h6⟩
theorem kn_put {ak : Nat → Int32} {n : Nat} {x : Int32} (h : ∀ j, j < n → KND (ak j)) (hx : KND x) : ∀ j, j < n + 1 → KND (upd ak n x j) := by
  intro j hj
  by_cases e : j = n
  · simp only [upd, if_pos e]; exact hx
  · simp only [upd, if_neg e]; exact h j (by omega)
end
section
theorem d_Mod_isInstruction_0 : decode b_Mod_isInstruction 0 = .ok (.iload_n 2, 1) := by decide +kernel
theorem d_Mod_isInstruction_1 : decode b_Mod_isInstruction 1 = .ok (.ifCond .lt 33, 3) := by decide +kernel
theorem d_Mod_isInstruction_4 : decode b_Mod_isInstruction 4 = .ok (.iload_n 2, 1) := by decide +kernel
theorem d_Mod_isInstruction_5 : decode b_Mod_isInstruction 5 = .ok (.aload_n 0, 1) := by decide +kernel
theorem d_Mod_isInstruction_6 : decode b_Mod_isInstruction 6 = .ok (.getfield 74, 3) := by decide +kernel
theorem d_Mod_isInstruction_9 : decode b_Mod_isInstruction 9 = .ok (.iload_n 1, 1) := by decide +kernel
theorem d_Mod_isInstruction_10 : decode b_Mod_isInstruction 10 = .ok (.iaload, 1) := by decide +kernel
theorem d_Mod_isInstruction_11 : decode b_Mod_isInstruction 11 = .ok (.if_icmp .ge 23, 3) := by decide +kernel
theorem d_Mod_isInstruction_14 : decode b_Mod_isInstruction 14 = .ok (.aload_n 0, 1) := by decide +kernel
theorem d_Mod_isInstruction_15 : decode b_Mod_isInstruction 15 = .ok (.getfield 86, 3) := by decide +kernel
theorem d_Mod_isInstruction_18 : decode b_Mod_isInstruction 18 = .ok (.aload_n 0, 1) := by decide +kernel
theorem d_Mod_isInstruction_19 : decode b_Mod_isInstruction 19 = .ok (.getfield 71, 3) := by decide +kernel
theorem d_Mod_isInstruction_22 : decode b_Mod_isInstruction 22 = .ok (.iload_n 1, 1) := by decide +kernel
theorem d_Mod_isInstruction_23 : decode b_Mod_isInstruction 23 = .ok (.iaload, 1) := by decide +kernel
theorem d_Mod_isInstruction_24 : decode b_Mod_isInstruction 24 = .ok (.iload_n 2, 1) := by decide +kernel
theorem d_Mod_isInstruction_25 : decode b_Mod_isInstruction 25 = .ok (.iadd, 1) := by decide +kernel
theorem d_Mod_isInstruction_26 : decode b_Mod_isInstruction 26 = .ok (.baload, 1) := by decide +kernel
theorem d_Mod_isInstruction_27 : decode b_Mod_isInstruction 27 = .ok (.ifCond .eq 7, 3) := by decide +kernel
theorem d_Mod_isInstruction_30 : decode b_Mod_isInstruction 30 = .ok (.iconst 1, 1) := by decide +kernel
theorem d_Mod_isInstruction_31 : decode b_Mod_isInstruction 31 = .ok (.goto 4, 3) := by decide +kernel
theorem d_Mod_isInstruction_34 : decode b_Mod_isInstruction 34 = .ok (.iconst 0, 1) := by decide +kernel
theorem d_Mod_isInstruction_35 : decode b_Mod_isInstruction 35 = .ok (.ireturn, 1) := by decide +kernel
theorem d_Mod_kindAt_0 : decode b_Mod_kindAt 0 = .ok (.aload_n 0, 1) := by decide +kernel
theorem d_Mod_kindAt_1 : decode b_Mod_kindAt 1 = .ok (.getfield 7, 3) := by decide +kernel
theorem d_Mod_kindAt_4 : decode b_Mod_kindAt 4 = .ok (.iload_n 1, 1) := by decide +kernel
theorem d_Mod_kindAt_5 : decode b_Mod_kindAt 5 = .ok (.iaload, 1) := by decide +kernel
theorem d_Mod_kindAt_6 : decode b_Mod_kindAt 6 = .ok (.istore_n 2, 1) := by decide +kernel
theorem d_Mod_kindAt_7 : decode b_Mod_kindAt 7 = .ok (.iload_n 2, 1) := by decide +kernel
theorem d_Mod_kindAt_8 : decode b_Mod_kindAt 8 = .ok (.bipush 74, 2) := by decide +kernel
theorem d_Mod_kindAt_10 : decode b_Mod_kindAt 10 = .ok (.if_icmp .ne 7, 3) := by decide +kernel
theorem d_Mod_kindAt_13 : decode b_Mod_kindAt 13 = .ok (.iconst 2, 1) := by decide +kernel
theorem d_Mod_kindAt_14 : decode b_Mod_kindAt 14 = .ok (.goto 52, 3) := by decide +kernel
theorem d_Mod_kindAt_17 : decode b_Mod_kindAt 17 = .ok (.iload_n 2, 1) := by decide +kernel
theorem d_Mod_kindAt_18 : decode b_Mod_kindAt 18 = .ok (.bipush 76, 2) := by decide +kernel
theorem d_Mod_kindAt_20 : decode b_Mod_kindAt 20 = .ok (.if_icmp .eq 9, 3) := by decide +kernel
theorem d_Mod_kindAt_23 : decode b_Mod_kindAt 23 = .ok (.iload_n 2, 1) := by decide +kernel
theorem d_Mod_kindAt_24 : decode b_Mod_kindAt 24 = .ok (.bipush 91, 2) := by decide +kernel
theorem d_Mod_kindAt_26 : decode b_Mod_kindAt 26 = .ok (.if_icmp .ne 7, 3) := by decide +kernel
theorem d_Mod_kindAt_29 : decode b_Mod_kindAt 29 = .ok (.iconst 4, 1) := by decide +kernel
theorem d_Mod_kindAt_30 : decode b_Mod_kindAt 30 = .ok (.goto 36, 3) := by decide +kernel
theorem d_Mod_kindAt_33 : decode b_Mod_kindAt 33 = .ok (.iload_n 2, 1) := by decide +kernel
theorem d_Mod_kindAt_34 : decode b_Mod_kindAt 34 = .ok (.bipush 70, 2) := by decide +kernel
theorem d_Mod_kindAt_36 : decode b_Mod_kindAt 36 = .ok (.if_icmp .ne 8, 3) := by decide +kernel
theorem d_Mod_kindAt_39 : decode b_Mod_kindAt 39 = .ok (.bipush 9, 2) := by decide +kernel
theorem d_Mod_kindAt_41 : decode b_Mod_kindAt 41 = .ok (.goto 25, 3) := by decide +kernel
theorem d_Mod_kindAt_44 : decode b_Mod_kindAt 44 = .ok (.iload_n 2, 1) := by decide +kernel
theorem d_Mod_kindAt_45 : decode b_Mod_kindAt 45 = .ok (.bipush 68, 2) := by decide +kernel
theorem d_Mod_kindAt_47 : decode b_Mod_kindAt 47 = .ok (.if_icmp .ne 8, 3) := by decide +kernel
theorem d_Mod_kindAt_50 : decode b_Mod_kindAt 50 = .ok (.bipush 10, 2) := by decide +kernel
theorem d_Mod_kindAt_52 : decode b_Mod_kindAt 52 = .ok (.goto 14, 3) := by decide +kernel
theorem d_Mod_kindAt_55 : decode b_Mod_kindAt 55 = .ok (.iload_n 2, 1) := by decide +kernel
theorem d_Mod_kindAt_56 : decode b_Mod_kindAt 56 = .ok (.bipush 86, 2) := by decide +kernel
theorem d_Mod_kindAt_58 : decode b_Mod_kindAt 58 = .ok (.if_icmp .ne 7, 3) := by decide +kernel
theorem d_Mod_kindAt_61 : decode b_Mod_kindAt 61 = .ok (.iconst 0, 1) := by decide +kernel
theorem d_Mod_kindAt_62 : decode b_Mod_kindAt 62 = .ok (.goto 4, 3) := by decide +kernel
theorem d_Mod_kindAt_65 : decode b_Mod_kindAt 65 = .ok (.iconst 1, 1) := by decide +kernel
theorem d_Mod_kindAt_66 : decode b_Mod_kindAt 66 = .ok (.ireturn, 1) := by decide +kernel
theorem d_Mod_markInstructions_0 : decode b_Mod_markInstructions 0 = .ok (.aload_n 0, 1) := by decide +kernel
theorem d_Mod_markInstructions_1 : decode b_Mod_markInstructions 1 = .ok (.getfield 71, 3) := by decide +kernel
theorem d_Mod_markInstructions_4 : decode b_Mod_markInstructions 4 = .ok (.iload_n 1, 1) := by decide +kernel
theorem d_Mod_markInstructions_5 : decode b_Mod_markInstructions 5 = .ok (.iaload, 1) := by decide +kernel
theorem d_Mod_markInstructions_6 : decode b_Mod_markInstructions 6 = .ok (.aload_n 0, 1) := by decide +kernel
theorem d_Mod_markInstructions_7 : decode b_Mod_markInstructions 7 = .ok (.getfield 74, 3) := by decide +kernel
theorem d_Mod_markInstructions_10 : decode b_Mod_markInstructions 10 = .ok (.iload_n 1, 1) := by decide +kernel
theorem d_Mod_markInstructions_11 : decode b_Mod_markInstructions 11 = .ok (.iaload, 1) := by decide +kernel
theorem d_Mod_markInstructions_12 : decode b_Mod_markInstructions 12 = .ok (.iadd, 1) := by decide +kernel
theorem d_Mod_markInstructions_13 : decode b_Mod_markInstructions 13 = .ok (.istore_n 2, 1) := by decide +kernel
theorem d_Mod_markInstructions_14 : decode b_Mod_markInstructions 14 = .ok (.aload_n 0, 1) := by decide +kernel
theorem d_Mod_markInstructions_15 : decode b_Mod_markInstructions 15 = .ok (.getfield 71, 3) := by decide +kernel
theorem d_Mod_markInstructions_18 : decode b_Mod_markInstructions 18 = .ok (.iload_n 1, 1) := by decide +kernel
theorem d_Mod_markInstructions_19 : decode b_Mod_markInstructions 19 = .ok (.iaload, 1) := by decide +kernel
theorem d_Mod_markInstructions_20 : decode b_Mod_markInstructions 20 = .ok (.istore_n 3, 1) := by decide +kernel
theorem d_Mod_markInstructions_21 : decode b_Mod_markInstructions 21 = .ok (.iload_n 3, 1) := by decide +kernel
theorem d_Mod_markInstructions_22 : decode b_Mod_markInstructions 22 = .ok (.iload_n 2, 1) := by decide +kernel
theorem d_Mod_markInstructions_23 : decode b_Mod_markInstructions 23 = .ok (.if_icmp .ge 30, 3) := by decide +kernel
theorem d_Mod_markInstructions_26 : decode b_Mod_markInstructions 26 = .ok (.aload_n 0, 1) := by decide +kernel
theorem d_Mod_markInstructions_27 : decode b_Mod_markInstructions 27 = .ok (.getfield 86, 3) := by decide +kernel
theorem d_Mod_markInstructions_30 : decode b_Mod_markInstructions 30 = .ok (.iload_n 3, 1) := by decide +kernel
theorem d_Mod_markInstructions_31 : decode b_Mod_markInstructions 31 = .ok (.iconst 0, 1) := by decide +kernel
theorem d_Mod_markInstructions_32 : decode b_Mod_markInstructions 32 = .ok (.bastore, 1) := by decide +kernel
theorem d_Mod_markInstructions_33 : decode b_Mod_markInstructions 33 = .ok (.aload_n 0, 1) := by decide +kernel
theorem d_Mod_markInstructions_34 : decode b_Mod_markInstructions 34 = .ok (.getfield 93, 3) := by decide +kernel
theorem d_Mod_markInstructions_37 : decode b_Mod_markInstructions 37 = .ok (.iload_n 3, 1) := by decide +kernel
theorem d_Mod_markInstructions_38 : decode b_Mod_markInstructions 38 = .ok (.iconst 0, 1) := by decide +kernel
theorem d_Mod_markInstructions_39 : decode b_Mod_markInstructions 39 = .ok (.bastore, 1) := by decide +kernel
theorem d_Mod_markInstructions_40 : decode b_Mod_markInstructions 40 = .ok (.aload_n 0, 1) := by decide +kernel
theorem d_Mod_markInstructions_41 : decode b_Mod_markInstructions 41 = .ok (.getfield 90, 3) := by decide +kernel
theorem d_Mod_markInstructions_44 : decode b_Mod_markInstructions 44 = .ok (.iload_n 3, 1) := by decide +kernel
theorem d_Mod_markInstructions_45 : decode b_Mod_markInstructions 45 = .ok (.iconst (-1), 1) := by decide +kernel
theorem d_Mod_markInstructions_46 : decode b_Mod_markInstructions 46 = .ok (.iastore, 1) := by decide +kernel
theorem d_Mod_markInstructions_47 : decode b_Mod_markInstructions 47 = .ok (.iinc 3 1, 3) := by decide +kernel
theorem d_Mod_markInstructions_50 : decode b_Mod_markInstructions 50 = .ok (.goto (-29), 3) := by decide +kernel
theorem d_Mod_markInstructions_53 : decode b_Mod_markInstructions 53 = .ok (.aload_n 0, 1) := by decide +kernel
theorem d_Mod_markInstructions_54 : decode b_Mod_markInstructions 54 = .ok (.getfield 71, 3) := by decide +kernel
theorem d_Mod_markInstructions_57 : decode b_Mod_markInstructions 57 = .ok (.iload_n 1, 1) := by decide +kernel
theorem d_Mod_markInstructions_58 : decode b_Mod_markInstructions 58 = .ok (.iaload, 1) := by decide +kernel
theorem d_Mod_markInstructions_59 : decode b_Mod_markInstructions 59 = .ok (.istore_n 3, 1) := by decide +kernel
theorem d_Mod_markInstructions_60 : decode b_Mod_markInstructions 60 = .ok (.iload_n 3, 1) := by decide +kernel
theorem d_Mod_markInstructions_61 : decode b_Mod_markInstructions 61 = .ok (.iload_n 2, 1) := by decide +kernel
theorem d_Mod_markInstructions_62 : decode b_Mod_markInstructions 62 = .ok (.if_icmp .ge 68, 3) := by decide +kernel
theorem d_Mod_markInstructions_65 : decode b_Mod_markInstructions 65 = .ok (.aload_n 0, 1) := by decide +kernel
theorem d_Mod_markInstructions_66 : decode b_Mod_markInstructions 66 = .ok (.getfield 147, 3) := by decide +kernel
theorem d_Mod_markInstructions_69 : decode b_Mod_markInstructions 69 = .ok (.ifCond .ne 61, 3) := by decide +kernel
theorem d_Mod_markInstructions_72 : decode b_Mod_markInstructions 72 = .ok (.aload_n 0, 1) := by decide +kernel
theorem d_Mod_markInstructions_73 : decode b_Mod_markInstructions 73 = .ok (.getfield 7, 3) := by decide +kernel
theorem d_Mod_markInstructions_76 : decode b_Mod_markInstructions 76 = .ok (.iload_n 3, 1) := by decide +kernel
theorem d_Mod_markInstructions_77 : decode b_Mod_markInstructions 77 = .ok (.iaload, 1) := by decide +kernel
theorem d_Mod_markInstructions_78 : decode b_Mod_markInstructions 78 = .ok (.invokestatic 291, 3) := by decide +kernel
theorem d_Mod_markInstructions_81 : decode b_Mod_markInstructions 81 = .ok (.istore 4, 2) := by decide +kernel
theorem d_Mod_markInstructions_83 : decode b_Mod_markInstructions 83 = .ok (.aload_n 0, 1) := by decide +kernel
theorem d_Mod_markInstructions_84 : decode b_Mod_markInstructions 84 = .ok (.getfield 86, 3) := by decide +kernel
theorem d_Mod_markInstructions_87 : decode b_Mod_markInstructions 87 = .ok (.iload_n 3, 1) := by decide +kernel
theorem d_Mod_markInstructions_88 : decode b_Mod_markInstructions 88 = .ok (.iconst 1, 1) := by decide +kernel
theorem d_Mod_markInstructions_89 : decode b_Mod_markInstructions 89 = .ok (.bastore, 1) := by decide +kernel
theorem d_Mod_markInstructions_90 : decode b_Mod_markInstructions 90 = .ok (.iload 4, 2) := by decide +kernel
theorem d_Mod_markInstructions_92 : decode b_Mod_markInstructions 92 = .ok (.ifCond .ge 13, 3) := by decide +kernel
theorem d_Mod_markInstructions_95 : decode b_Mod_markInstructions 95 = .ok (.aload_n 0, 1) := by decide +kernel
theorem d_Mod_markInstructions_96 : decode b_Mod_markInstructions 96 = .ok (.bipush 18, 2) := by decide +kernel
theorem d_Mod_markInstructions_98 : decode b_Mod_markInstructions 98 = .ok (.iload_n 3, 1) := by decide +kernel
theorem d_Mod_markInstructions_99 : decode b_Mod_markInstructions 99 = .ok (.invokevirtual 159, 3) := by decide +kernel
theorem d_Mod_markInstructions_102 : decode b_Mod_markInstructions 102 = .ok (.goto 18, 3) := by decide +kernel
theorem d_Mod_markInstructions_105 : decode b_Mod_markInstructions 105 = .ok (.iload_n 3, 1) := by decide +kernel
theorem d_Mod_markInstructions_106 : decode b_Mod_markInstructions 106 = .ok (.iload 4, 2) := by decide +kernel
theorem d_Mod_markInstructions_108 : decode b_Mod_markInstructions 108 = .ok (.iadd, 1) := by decide +kernel
theorem d_Mod_markInstructions_109 : decode b_Mod_markInstructions 109 = .ok (.iload_n 2, 1) := by decide +kernel
theorem d_Mod_markInstructions_110 : decode b_Mod_markInstructions 110 = .ok (.if_icmp .lt 10, 3) := by decide +kernel
theorem d_Mod_markInstructions_113 : decode b_Mod_markInstructions 113 = .ok (.aload_n 0, 1) := by decide +kernel
theorem d_Mod_markInstructions_114 : decode b_Mod_markInstructions 114 = .ok (.bipush 19, 2) := by decide +kernel
theorem d_Mod_markInstructions_116 : decode b_Mod_markInstructions 116 = .ok (.iload_n 3, 1) := by decide +kernel
theorem d_Mod_markInstructions_117 : decode b_Mod_markInstructions 117 = .ok (.invokevirtual 159, 3) := by decide +kernel
theorem d_Mod_markInstructions_120 : decode b_Mod_markInstructions 120 = .ok (.iload_n 3, 1) := by decide +kernel
theorem d_Mod_markInstructions_121 : decode b_Mod_markInstructions 121 = .ok (.iconst 1, 1) := by decide +kernel
theorem d_Mod_markInstructions_122 : decode b_Mod_markInstructions 122 = .ok (.iadd, 1) := by decide +kernel
theorem d_Mod_markInstructions_123 : decode b_Mod_markInstructions 123 = .ok (.iload 4, 2) := by decide +kernel
theorem d_Mod_markInstructions_125 : decode b_Mod_markInstructions 125 = .ok (.iadd, 1) := by decide +kernel
theorem d_Mod_markInstructions_126 : decode b_Mod_markInstructions 126 = .ok (.istore_n 3, 1) := by decide +kernel
theorem d_Mod_markInstructions_127 : decode b_Mod_markInstructions 127 = .ok (.goto (-67), 3) := by decide +kernel
theorem d_Mod_markInstructions_130 : decode b_Mod_markInstructions 130 = .ok (.return_, 1) := by decide +kernel
theorem d_Mod_twoAt_0 : decode b_Mod_twoAt 0 = .ok (.sipush 256, 3) := by decide +kernel
theorem d_Mod_twoAt_3 : decode b_Mod_twoAt 3 = .ok (.aload_n 0, 1) := by decide +kernel
theorem d_Mod_twoAt_4 : decode b_Mod_twoAt 4 = .ok (.getfield 7, 3) := by decide +kernel
theorem d_Mod_twoAt_7 : decode b_Mod_twoAt 7 = .ok (.iload_n 1, 1) := by decide +kernel
theorem d_Mod_twoAt_8 : decode b_Mod_twoAt 8 = .ok (.iaload, 1) := by decide +kernel
theorem d_Mod_twoAt_9 : decode b_Mod_twoAt 9 = .ok (.imul, 1) := by decide +kernel
theorem d_Mod_twoAt_10 : decode b_Mod_twoAt 10 = .ok (.aload_n 0, 1) := by decide +kernel
theorem d_Mod_twoAt_11 : decode b_Mod_twoAt 11 = .ok (.getfield 7, 3) := by decide +kernel
theorem d_Mod_twoAt_14 : decode b_Mod_twoAt 14 = .ok (.iload_n 1, 1) := by decide +kernel
theorem d_Mod_twoAt_15 : decode b_Mod_twoAt 15 = .ok (.iconst 1, 1) := by decide +kernel
theorem d_Mod_twoAt_16 : decode b_Mod_twoAt 16 = .ok (.iadd, 1) := by decide +kernel
theorem d_Mod_twoAt_17 : decode b_Mod_twoAt 17 = .ok (.iaload, 1) := by decide +kernel
theorem d_Mod_twoAt_18 : decode b_Mod_twoAt 18 = .ok (.iadd, 1) := by decide +kernel
theorem d_Mod_twoAt_19 : decode b_Mod_twoAt 19 = .ok (.ireturn, 1) := by decide +kernel
end
section
set_option maxHeartbeats 4000000 in
set_option maxRecDepth 100000 in
theorem g_Mod_twoAt (l : Launch) (g : tw_G) (sz : Nat) (h0 : Nat) (q : Nat → Nat) (rf : Int32) (n : Nat) (mm : Int32) (mb : Int32) (fa : Int32) (fp : Int32) (av : Nat) (ev : Nat) (wi : Int32) (mn : Nat) (tp : Int32) (tc : Int32) (sc : Int32) (nf : Nat) (fd : Nat) (me : Nat) (mp : Int32) (xn : Nat) (mt : Nat) (wh : Nat) (tq : Nat) (ag : Nat) (an : Int32) (ig : Int32) (bs : Nat → Int32) (k : Nat) (hbs : BYT bs) (hk1 : k + 1 < 600) : Met l y_Mod_twoAt [.code y_Mod_twoAt b_Mod_twoAt 2 (some .int)] ({ frames := 0, cells := 0, slots := 0, locals := 0 }) (tw_P g [.ref h0, .int (nI k)] [(h0, .inr (10, mob q rf n mm mb fa fp av ev wi mn tp tc sc nf fd me mp xn mt wh tq ag an ig)), ((q 2), aI g 600 bs)] sz) (vp_Si (fun (r : Int32) => r = nI (t2 bs k))) 0 0 (fun _ => False) := by
  refine tw_met (l := l) (g := g) (y := y_Mod_twoAt) (cc := b_Mod_twoAt) (maxL := 2) (ret := (some .int)) (rm := { frames := 0, cells := 0, slots := 0, locals := 0 }) (mc := 0) (ms := 0) (av := [.ref h0, .int (nI k)]) (ws := [(h0, .inr (10, mob q rf n mm mb fa fp av ev wi mn tp tc sc nf fd me mp xn mt wh tq ag an ig)), ((q 2), aI g 600 bs)]) (sz := sz) (Qc := fun _ => (vp_Si (fun (r : Int32) => r = nI (t2 bs k)))) (free := fun _ _ => False) (by decide) (Nat.le_of_ble_eq_true rfl) ?_
  intro p e s m below meth c ls A E hB hK hZ hP hD hS hA hl
  obtain ⟨hx, hb, hml, hr, hown, hts, hlocks, hin⟩ := id E
  have hl : lv_has ls 2 [(0, .ref h0), (1, .int (nI k))] := hl
  refine lv_sipush (v := 256) hx hb d_Mod_twoAt_0 (by decide) ?_
  refine lv_aload_n hx hb d_Mod_twoAt_3 rfl (lv_at hl 0 rfl) ?_
  refine va_get (D := g.1) (ci := 10) (v := .ref (q 2)) (C := R_Mod) (T := F_Mod) (N := 61) hx hb hts in_Mod hown hK hP 0 rfl rfl 2 (by decide) (hts _ wd_1252) (fun _ h9 => h9) rfl d_Mod_twoAt_4 ?_
  refine lv_iload_n hx hb d_Mod_twoAt_7 rfl (lv_at hl 1 rfl) ?_
  refine va_iald hx hb hK hP 1 0 rfl rfl (vp_in_nI (by omega) (by decide)) d_Mod_twoAt_8 ?_
  refine tw_ri (e2 := nI (bt bs k)) (by rw [nI_clamp (by omega)]; exact bt_eq hbs (by omega)) ?_
  refine lv_imul hx hb d_Mod_twoAt_9 ?_
  refine tw_ri (e2 := nI (256 * bt bs k)) (pk_mul 256 _) ?_
  refine lv_aload_n hx hb d_Mod_twoAt_10 rfl (lv_at hl 0 rfl) ?_
  refine va_get (D := g.1) (ci := 10) (v := .ref (q 2)) (C := R_Mod) (T := F_Mod) (N := 61) hx hb hts in_Mod hown hK hP 0 rfl rfl 2 (by decide) (hts _ wd_1252) (fun _ h9 => h9) rfl d_Mod_twoAt_11 ?_
  refine lv_iload_n hx hb d_Mod_twoAt_14 rfl (lv_at hl 1 rfl) ?_
  refine lv_iconst (v := 1) hx hb d_Mod_twoAt_15 (by decide) ?_
  refine lv_iadd hx hb d_Mod_twoAt_16 ?_
  refine tw_ri (e2 := nI (k + 1)) (nI_add k 1) ?_
  refine va_iald hx hb hK hP 1 0 rfl rfl (vp_in_nI (by omega) (by decide)) d_Mod_twoAt_17 ?_
  refine tw_ri (e2 := nI (bt bs (k + 1))) (by rw [nI_clamp (by omega)]; exact bt_eq hbs (by omega)) ?_
  refine lv_iadd hx hb d_Mod_twoAt_18 ?_
  refine tw_ri (e2 := nI (t2 bs k)) (nI_add _ _) ?_
  exact tw_isret E rfl d_Mod_twoAt_19
set_option maxHeartbeats 4000000 in
set_option maxRecDepth 100000 in
theorem g_Mod_isInstructionN (l : Launch) (g : tw_G) (sz : Nat) (h0 : Nat) (q : Nat → Nat) (rf : Int32) (n : Nat) (mm : Int32) (mb : Int32) (fa : Int32) (fp : Int32) (av : Nat) (ev : Nat) (wi : Int32) (mn : Nat) (tp : Int32) (tc : Int32) (sc : Int32) (nf : Nat) (fd : Nat) (me : Nat) (mp : Int32) (xn : Nat) (mt : Nat) (wh : Nat) (tq : Nat) (ag : Nat) (an : Int32) (ig : Int32) (bg : Nat → Int32) (ln : Nat → Int32) (is_ : Nat → Int32) (mi : Nat) (o : Nat) (b1 l1 : Nat) (hmi : mi < 160) (hbg : bg mi = nI b1) (hln : ln mi = nI l1) (hbl : b1 + l1 ≤ 600) (ho : o < 2147483648) : Met l y_Mod_isInstruction [.code y_Mod_isInstruction b_Mod_isInstruction 3 (some .boolean)] ({ frames := 0, cells := 0, slots := 0, locals := 0 }) (tw_P g [.ref h0, .int (nI mi), .int (nI o)] [(h0, .inr (10, mob q rf n mm mb fa fp av ev wi mn tp tc sc nf fd me mp xn mt wh tq ag an ig)), ((q 34), aI g 160 bg), ((q 35), aI g 160 ln), ((q 40), aZ g 600 is_)] sz) (vp_Si (fun (r : Int32) => (r = 0 ∨ r = 1) ∧ (r = 1 → o < l1 ∧ ¬ is_ (b1 + o) = 0))) 0 0 (fun _ => False) := by
  refine tw_met (l := l) (g := g) (y := y_Mod_isInstruction) (cc := b_Mod_isInstruction) (maxL := 3) (ret := (some .boolean)) (rm := { frames := 0, cells := 0, slots := 0, locals := 0 }) (mc := 0) (ms := 0) (av := [.ref h0, .int (nI mi), .int (nI o)]) (ws := [(h0, .inr (10, mob q rf n mm mb fa fp av ev wi mn tp tc sc nf fd me mp xn mt wh tq ag an ig)), ((q 34), aI g 160 bg), ((q 35), aI g 160 ln), ((q 40), aZ g 600 is_)]) (sz := sz) (Qc := fun _ => (vp_Si (fun (r : Int32) => (r = 0 ∨ r = 1) ∧ (r = 1 → o < l1 ∧ ¬ is_ (b1 + o) = 0)))) (free := fun _ _ => False) (by decide) (Nat.le_of_ble_eq_true rfl) ?_
  intro p e s m below meth c ls A E hB hK hZ hP hD hS hA hl
  obtain ⟨hx, hb, hml, hr, hown, hts, hlocks, hin⟩ := id E
  have hl : lv_has ls 3 [(0, .ref h0), (1, .int (nI mi)), (2, .int (nI o))] := hl
  refine lv_iload_n hx hb d_Mod_isInstruction_0 rfl (lv_at hl 2 rfl) ?_
  refine lv_if_lt (tgt := 34) hx hb d_Mod_isInstruction_1 (by decide) (fun h1 => ?_) (fun h1 => ?_)
  · refine lv_iconst (v := 0) hx hb d_Mod_isInstruction_34 (by decide) ?_
    exact tw_zsret E (by decide) (⟨Or.inl rfl, fun h => absurd h (by decide)⟩) d_Mod_isInstruction_35
  · refine lv_iload_n hx hb d_Mod_isInstruction_4 rfl (lv_at hl 2 rfl) ?_
    refine lv_aload_n hx hb d_Mod_isInstruction_5 rfl (lv_at hl 0 rfl) ?_
    refine va_get (D := g.1) (ci := 10) (v := .ref (q 35)) (C := R_Mod) (T := F_Mod) (N := 61) hx hb hts in_Mod hown hK hP 0 rfl rfl 35 (by decide) (hts _ wd_1285) (fun _ h9 => h9) rfl d_Mod_isInstruction_6 ?_
    refine lv_iload_n hx hb d_Mod_isInstruction_9 rfl (lv_at hl 1 rfl) ?_
    refine va_iald hx hb hK hP 2 0 rfl rfl (vp_in_nI (by omega) (by decide)) d_Mod_isInstruction_10 ?_
    refine tw_ri (e2 := nI l1) (by rw [nI_clamp (by omega)]; exact hln) ?_
    refine lv_icmp_ge (tgt := 34) hx hb d_Mod_isInstruction_11 (by decide) (fun h11 => ?_) (fun h11 => ?_)
    · refine lv_iconst (v := 0) hx hb d_Mod_isInstruction_34 (by decide) ?_
      exact tw_zsret E (by decide) (⟨Or.inl rfl, fun h => absurd h (by decide)⟩) d_Mod_isInstruction_35
    · have h11 := tn_nle h11 (by omega) (by omega)
      refine lv_aload_n hx hb d_Mod_isInstruction_14 rfl (lv_at hl 0 rfl) ?_
      refine va_get (D := g.1) (ci := 10) (v := .ref (q 40)) (C := R_Mod) (T := F_Mod) (N := 61) hx hb hts in_Mod hown hK hP 0 rfl rfl 40 (by decide) (hts _ wd_1290) (fun _ h9 => h9) rfl d_Mod_isInstruction_15 ?_
      refine lv_aload_n hx hb d_Mod_isInstruction_18 rfl (lv_at hl 0 rfl) ?_
      refine va_get (D := g.1) (ci := 10) (v := .ref (q 34)) (C := R_Mod) (T := F_Mod) (N := 61) hx hb hts in_Mod hown hK hP 0 rfl rfl 34 (by decide) (hts _ wd_1284) (fun _ h9 => h9) rfl d_Mod_isInstruction_19 ?_
      refine lv_iload_n hx hb d_Mod_isInstruction_22 rfl (lv_at hl 1 rfl) ?_
      refine va_iald hx hb hK hP 1 0 rfl rfl (vp_in_nI (by omega) (by decide)) d_Mod_isInstruction_23 ?_
      refine tw_ri (e2 := nI b1) (by rw [nI_clamp (by omega)]; exact hbg) ?_
      refine lv_iload_n hx hb d_Mod_isInstruction_24 rfl (lv_at hl 2 rfl) ?_
      refine lv_iadd hx hb d_Mod_isInstruction_25 ?_
      refine tw_ri (e2 := nI (b1 + o)) (nI_add _ _) ?_
      refine va_zald hx hb hK hP 3 3 rfl rfl (vp_in_nI (by omega) (by decide)) d_Mod_isInstruction_26 ?_
      refine tw_ri (e2 := is_ (b1 + o)) (by rw [nI_clamp (by omega)]) ?_
      refine lv_if_eq (tgt := 34) hx hb d_Mod_isInstruction_27 (by decide) (fun h27 => ?_) (fun h27 => ?_)
      · refine lv_iconst (v := 0) hx hb d_Mod_isInstruction_34 (by decide) ?_
        exact tw_zsret E (by decide) (⟨Or.inl rfl, fun h => absurd h (by decide)⟩) d_Mod_isInstruction_35
      · refine lv_iconst (v := 1) hx hb d_Mod_isInstruction_30 (by decide) ?_
        refine lv_goto (tgt := 35) hx hb d_Mod_isInstruction_31 (by decide) ?_
        exact tw_zsret E (by decide) (⟨Or.inr rfl, fun _ => ⟨h11, h27⟩⟩) d_Mod_isInstruction_35
set_option maxHeartbeats 4000000 in
set_option maxRecDepth 100000 in
theorem g_Mod_isInstructionI (l : Launch) (g : tw_G) (sz : Nat) (h0 : Nat) (q : Nat → Nat) (rf : Int32) (n : Nat) (mm : Int32) (mb : Int32) (fa : Int32) (fp : Int32) (av : Nat) (ev : Nat) (wi : Int32) (mn : Nat) (tp : Int32) (tc : Int32) (sc : Int32) (nf : Nat) (fd : Nat) (me : Nat) (mp : Int32) (xn : Nat) (mt : Nat) (wh : Nat) (tq : Nat) (ag : Nat) (an : Int32) (ig : Int32) (bg : Nat → Int32) (ln : Nat → Int32) (is_ : Nat → Int32) (mi : Nat) (o : Int32) (b1 l1 : Nat) (hmi : mi < 160) (hbg : bg mi = nI b1) (hln : ln mi = nI l1) (hbl : b1 + l1 ≤ 600) : Met l y_Mod_isInstruction [.code y_Mod_isInstruction b_Mod_isInstruction 3 (some .boolean)] ({ frames := 0, cells := 0, slots := 0, locals := 0 }) (tw_P g [.ref h0, .int (nI mi), .int o] [(h0, .inr (10, mob q rf n mm mb fa fp av ev wi mn tp tc sc nf fd me mp xn mt wh tq ag an ig)), ((q 34), aI g 160 bg), ((q 35), aI g 160 ln), ((q 40), aZ g 600 is_)] sz) (vp_Si (fun (r : Int32) => (r = 0 ∨ r = 1) ∧ (r = 1 → ∃ j, o = nI j ∧ j < l1 ∧ ¬ is_ (b1 + j) = 0))) 0 0 (fun _ => False) := by
  refine tw_met (l := l) (g := g) (y := y_Mod_isInstruction) (cc := b_Mod_isInstruction) (maxL := 3) (ret := (some .boolean)) (rm := { frames := 0, cells := 0, slots := 0, locals := 0 }) (mc := 0) (ms := 0) (av := [.ref h0, .int (nI mi), .int o]) (ws := [(h0, .inr (10, mob q rf n mm mb fa fp av ev wi mn tp tc sc nf fd me mp xn mt wh tq ag an ig)), ((q 34), aI g 160 bg), ((q 35), aI g 160 ln), ((q 40), aZ g 600 is_)]) (sz := sz) (Qc := fun _ => (vp_Si (fun (r : Int32) => (r = 0 ∨ r = 1) ∧ (r = 1 → ∃ j, o = nI j ∧ j < l1 ∧ ¬ is_ (b1 + j) = 0)))) (free := fun _ _ => False) (by decide) (Nat.le_of_ble_eq_true rfl) ?_
  intro p e s m below meth c ls A E hB hK hZ hP hD hS hA hl
  obtain ⟨hx, hb, hml, hr, hown, hts, hlocks, hin⟩ := id E
  have hl : lv_has ls 3 [(0, .ref h0), (1, .int (nI mi)), (2, .int o)] := hl
  refine lv_iload_n hx hb d_Mod_isInstruction_0 rfl (lv_at hl 2 rfl) ?_
  refine lv_if_lt (tgt := 34) hx hb d_Mod_isInstruction_1 (by decide) (fun h1 => ?_) (fun h1 => ?_)
  · refine lv_iconst (v := 0) hx hb d_Mod_isInstruction_34 (by decide) ?_
    exact tw_zsret E (by decide) (⟨Or.inl rfl, fun h => absurd h (by decide)⟩) d_Mod_isInstruction_35
  · obtain ⟨j, hj, hje⟩ := nI_of h1
    subst hje
    refine lv_iload_n hx hb d_Mod_isInstruction_4 rfl (lv_at hl 2 rfl) ?_
    refine lv_aload_n hx hb d_Mod_isInstruction_5 rfl (lv_at hl 0 rfl) ?_
    refine va_get (D := g.1) (ci := 10) (v := .ref (q 35)) (C := R_Mod) (T := F_Mod) (N := 61) hx hb hts in_Mod hown hK hP 0 rfl rfl 35 (by decide) (hts _ wd_1285) (fun _ h9 => h9) rfl d_Mod_isInstruction_6 ?_
    refine lv_iload_n hx hb d_Mod_isInstruction_9 rfl (lv_at hl 1 rfl) ?_
    refine va_iald hx hb hK hP 2 0 rfl rfl (vp_in_nI (by omega) (by decide)) d_Mod_isInstruction_10 ?_
    refine tw_ri (e2 := nI l1) (by rw [nI_clamp (by omega)]; exact hln) ?_
    refine lv_icmp_ge (tgt := 34) hx hb d_Mod_isInstruction_11 (by decide) (fun h11 => ?_) (fun h11 => ?_)
    · refine lv_iconst (v := 0) hx hb d_Mod_isInstruction_34 (by decide) ?_
      exact tw_zsret E (by decide) (⟨Or.inl rfl, fun h => absurd h (by decide)⟩) d_Mod_isInstruction_35
    · have h11 := tn_nle h11 (by omega) (by omega)
      refine lv_aload_n hx hb d_Mod_isInstruction_14 rfl (lv_at hl 0 rfl) ?_
      refine va_get (D := g.1) (ci := 10) (v := .ref (q 40)) (C := R_Mod) (T := F_Mod) (N := 61) hx hb hts in_Mod hown hK hP 0 rfl rfl 40 (by decide) (hts _ wd_1290) (fun _ h9 => h9) rfl d_Mod_isInstruction_15 ?_
      refine lv_aload_n hx hb d_Mod_isInstruction_18 rfl (lv_at hl 0 rfl) ?_
      refine va_get (D := g.1) (ci := 10) (v := .ref (q 34)) (C := R_Mod) (T := F_Mod) (N := 61) hx hb hts in_Mod hown hK hP 0 rfl rfl 34 (by decide) (hts _ wd_1284) (fun _ h9 => h9) rfl d_Mod_isInstruction_19 ?_
      refine lv_iload_n hx hb d_Mod_isInstruction_22 rfl (lv_at hl 1 rfl) ?_
      refine va_iald hx hb hK hP 1 0 rfl rfl (vp_in_nI (by omega) (by decide)) d_Mod_isInstruction_23 ?_
      refine tw_ri (e2 := nI b1) (by rw [nI_clamp (by omega)]; exact hbg) ?_
      refine lv_iload_n hx hb d_Mod_isInstruction_24 rfl (lv_at hl 2 rfl) ?_
      refine lv_iadd hx hb d_Mod_isInstruction_25 ?_
      refine tw_ri (e2 := nI (b1 + j)) (nI_add _ _) ?_
      refine va_zald hx hb hK hP 3 3 rfl rfl (vp_in_nI (by omega) (by decide)) d_Mod_isInstruction_26 ?_
      refine tw_ri (e2 := is_ (b1 + j)) (by rw [nI_clamp (by omega)]) ?_
      refine lv_if_eq (tgt := 34) hx hb d_Mod_isInstruction_27 (by decide) (fun h27 => ?_) (fun h27 => ?_)
      · refine lv_iconst (v := 0) hx hb d_Mod_isInstruction_34 (by decide) ?_
        exact tw_zsret E (by decide) (⟨Or.inl rfl, fun h => absurd h (by decide)⟩) d_Mod_isInstruction_35
      · refine lv_iconst (v := 1) hx hb d_Mod_isInstruction_30 (by decide) ?_
        refine lv_goto (tgt := 35) hx hb d_Mod_isInstruction_31 (by decide) ?_
        exact tw_zsret E (by decide) (⟨Or.inr rfl, fun _ => ⟨j, rfl, h11, h27⟩⟩) d_Mod_isInstruction_35
set_option maxHeartbeats 4000000 in
set_option maxRecDepth 100000 in
theorem g_Mod_kindAt (l : Launch) (g : tw_G) (sz : Nat) (h0 : Nat) (q : Nat → Nat) (rf : Int32) (n : Nat) (mm : Int32) (mb : Int32) (fa : Int32) (fp : Int32) (av : Nat) (ev : Nat) (wi : Int32) (mn : Nat) (tp : Int32) (tc : Int32) (sc : Int32) (nf : Nat) (fd : Nat) (me : Nat) (mp : Int32) (xn : Nat) (mt : Nat) (wh : Nat) (tq : Nat) (ag : Nat) (an : Int32) (ig : Int32) (bs : Nat → Int32) (k : Nat) (hk6 : k < 600) : Met l y_Mod_kindAt [.code y_Mod_kindAt b_Mod_kindAt 3 (some .int)] ({ frames := 0, cells := 0, slots := 0, locals := 0 }) (tw_P g [.ref h0, .int (nI k)] [(h0, .inr (10, mob q rf n mm mb fa fp av ev wi mn tp tc sc nf fd me mp xn mt wh tq ag an ig)), ((q 2), aI g 600 bs)] sz) (vp_Si (fun (r : Int32) => KND r)) 0 0 (fun _ => False) := by
  refine tw_met (l := l) (g := g) (y := y_Mod_kindAt) (cc := b_Mod_kindAt) (maxL := 3) (ret := (some .int)) (rm := { frames := 0, cells := 0, slots := 0, locals := 0 }) (mc := 0) (ms := 0) (av := [.ref h0, .int (nI k)]) (ws := [(h0, .inr (10, mob q rf n mm mb fa fp av ev wi mn tp tc sc nf fd me mp xn mt wh tq ag an ig)), ((q 2), aI g 600 bs)]) (sz := sz) (Qc := fun _ => (vp_Si (fun (r : Int32) => KND r))) (free := fun _ _ => False) (by decide) (Nat.le_of_ble_eq_true rfl) ?_
  intro p e s m below meth c ls A E hB hK hZ hP hD hS hA hl
  obtain ⟨hx, hb, hml, hr, hown, hts, hlocks, hin⟩ := id E
  have hl : lv_has ls 3 [(0, .ref h0), (1, .int (nI k))] := hl
  refine lv_aload_n hx hb d_Mod_kindAt_0 rfl (lv_at hl 0 rfl) ?_
  refine va_get (D := g.1) (ci := 10) (v := .ref (q 2)) (C := R_Mod) (T := F_Mod) (N := 61) hx hb hts in_Mod hown hK hP 0 rfl rfl 2 (by decide) (hts _ wd_1252) (fun _ h9 => h9) rfl d_Mod_kindAt_1 ?_
  refine lv_iload_n hx hb d_Mod_kindAt_4 rfl (lv_at hl 1 rfl) ?_
  refine va_iald hx hb hK hP 1 0 rfl rfl (vp_in_nI (by omega) (by decide)) d_Mod_kindAt_5 ?_
  obtain ⟨x1, ex1⟩ : ∃ z : Int32, bs ((nI k).toNatClampNeg) = z := ⟨_, rfl⟩
  refine tw_ri (e2 := x1) ex1 ?_
  refine lv_istore_n hx hb d_Mod_kindAt_6 rfl hl (by decide) rfl (fun ls hl => ?_)
  have hl : lv_has ls 3 [(2, .int x1), (0, .ref h0), (1, .int (nI k))] := hl
  refine lv_iload_n hx hb d_Mod_kindAt_7 rfl (lv_at hl 0 rfl) ?_
  refine lv_bipush (v := 74) hx hb d_Mod_kindAt_8 (by decide) ?_
  refine lv_icmp_ne (tgt := 17) hx hb d_Mod_kindAt_10 (by decide) (fun h10 => ?_) (fun h10 => ?_)
  · refine lv_iload_n hx hb d_Mod_kindAt_17 rfl (lv_at hl 0 rfl) ?_
    refine lv_bipush (v := 76) hx hb d_Mod_kindAt_18 (by decide) ?_
    refine lv_icmp_eq (tgt := 29) hx hb d_Mod_kindAt_20 (by decide) (fun h20 => ?_) (fun h20 => ?_)
    · refine lv_iconst (v := 4) hx hb d_Mod_kindAt_29 (by decide) ?_
      refine lv_goto (tgt := 66) hx hb d_Mod_kindAt_30 (by decide) ?_
      exact tw_isret E (by unfold KND; decide) d_Mod_kindAt_66
    · refine lv_iload_n hx hb d_Mod_kindAt_23 rfl (lv_at hl 0 rfl) ?_
      refine lv_bipush (v := 91) hx hb d_Mod_kindAt_24 (by decide) ?_
      refine lv_icmp_ne (tgt := 33) hx hb d_Mod_kindAt_26 (by decide) (fun h26 => ?_) (fun h26 => ?_)
      · refine lv_iload_n hx hb d_Mod_kindAt_33 rfl (lv_at hl 0 rfl) ?_
        refine lv_bipush (v := 70) hx hb d_Mod_kindAt_34 (by decide) ?_
        refine lv_icmp_ne (tgt := 44) hx hb d_Mod_kindAt_36 (by decide) (fun h36 => ?_) (fun h36 => ?_)
        · refine lv_iload_n hx hb d_Mod_kindAt_44 rfl (lv_at hl 0 rfl) ?_
          refine lv_bipush (v := 68) hx hb d_Mod_kindAt_45 (by decide) ?_
          refine lv_icmp_ne (tgt := 55) hx hb d_Mod_kindAt_47 (by decide) (fun h47 => ?_) (fun h47 => ?_)
          · refine lv_iload_n hx hb d_Mod_kindAt_55 rfl (lv_at hl 0 rfl) ?_
            refine lv_bipush (v := 86) hx hb d_Mod_kindAt_56 (by decide) ?_
            refine lv_icmp_ne (tgt := 65) hx hb d_Mod_kindAt_58 (by decide) (fun h58 => ?_) (fun h58 => ?_)
            · refine lv_iconst (v := 1) hx hb d_Mod_kindAt_65 (by decide) ?_
              exact tw_isret E (by unfold KND; decide) d_Mod_kindAt_66
            · refine lv_iconst (v := 0) hx hb d_Mod_kindAt_61 (by decide) ?_
              refine lv_goto (tgt := 66) hx hb d_Mod_kindAt_62 (by decide) ?_
              exact tw_isret E (by unfold KND; decide) d_Mod_kindAt_66
          · refine lv_bipush (v := 10) hx hb d_Mod_kindAt_50 (by decide) ?_
            refine lv_goto (tgt := 66) hx hb d_Mod_kindAt_52 (by decide) ?_
            exact tw_isret E (by unfold KND; decide) d_Mod_kindAt_66
        · refine lv_bipush (v := 9) hx hb d_Mod_kindAt_39 (by decide) ?_
          refine lv_goto (tgt := 66) hx hb d_Mod_kindAt_41 (by decide) ?_
          exact tw_isret E (by unfold KND; decide) d_Mod_kindAt_66
      · refine lv_iconst (v := 4) hx hb d_Mod_kindAt_29 (by decide) ?_
        refine lv_goto (tgt := 66) hx hb d_Mod_kindAt_30 (by decide) ?_
        exact tw_isret E (by unfold KND; decide) d_Mod_kindAt_66
  · refine lv_iconst (v := 2) hx hb d_Mod_kindAt_13 (by decide) ?_
    refine lv_goto (tgt := 66) hx hb d_Mod_kindAt_14 (by decide) ?_
    exact tw_isret E (by unfold KND; decide) d_Mod_kindAt_66
set_option maxHeartbeats 4000000 in
set_option maxRecDepth 100000 in
theorem g_Mod_markInstructions (l : Launch) (g : tw_G) (sz : Nat) (h0 : Nat) (q : Nat → Nat) (rf : Int32) (n : Nat) (mm : Int32) (mb : Int32) (av : Nat) (ev : Nat) (wi : Int32) (mn : Nat) (tp : Int32) (tc : Int32) (sc : Int32) (nf : Nat) (fd : Nat) (me : Nat) (mp : Int32) (xn : Nat) (mt : Nat) (wh : Nat) (tq : Nat) (ag : Nat) (an : Int32) (ig : Int32) (bs : Nat → Int32) (bg : Nat → Int32) (ln : Nat → Int32) (kd : Nat → Int32) (fa : Int32) (fp : Int32) (is_ : Nat → Int32) (dp : Nat → Int32) (iw : Nat → Int32) (mi : Nat) (b1 l1 : Nat) (hmi : mi < 160) (hbg : bg mi = nI b1) (hln : ln mi = nI l1) (hbl : b1 + l1 ≤ 600) (hFR : FRG dp iw kd) : Met l y_Mod_markInstructions [.code y_Mod_markInstructions b_Mod_markInstructions 5 none] ({ frames := 2, cells := 0, slots := 0, locals := 43 }) (tw_P g [.ref h0, .int (nI mi)] [(h0, .inr (10, mob q rf n mm mb fa fp av ev wi mn tp tc sc nf fd me mp xn mt wh tq ag an ig)), ((q 2), aI g 600 bs), ((q 34), aI g 160 bg), ((q 35), aI g 160 ln), ((q 40), aZ g 600 is_), ((q 41), aI g 600 dp), ((q 42), aZ g 600 iw), ((q 43), aI g 76800 kd)] sz) (tw_Qv g (fun (u : Int32 × Int32 × (Nat → Int32) × (Nat → Int32) × (Nat → Int32)) => (u.1 = 0 → fa = 0) ∧ (FRG u.2.2.2.1 u.2.2.2.2 kd) ∧ (u.1 = 0 → ∀ j, b1 ≤ j → j < b1 + l1 → ¬ u.2.2.1 j = 0 → STP bs b1 l1 j)) (fun u : Int32 × Int32 × (Nat → Int32) × (Nat → Int32) × (Nat → Int32) => [(h0, .inr (10, mob q rf n mm mb u.1 u.2.1 av ev wi mn tp tc sc nf fd me mp xn mt wh tq ag an ig)), ((q 2), aI g 600 bs), ((q 34), aI g 160 bg), ((q 35), aI g 160 ln), ((q 40), aZ g 600 u.2.2.1), ((q 41), aI g 600 u.2.2.2.1), ((q 42), aZ g 600 u.2.2.2.2), ((q 43), aI g 76800 kd)]) (va_A [(h0, .inr (10, mob q rf n mm mb fa fp av ev wi mn tp tc sc nf fd me mp xn mt wh tq ag an ig)), ((q 2), aI g 600 bs), ((q 34), aI g 160 bg), ((q 35), aI g 160 ln), ((q 40), aZ g 600 is_), ((q 41), aI g 600 dp), ((q 42), aZ g 600 iw), ((q 43), aI g 76800 kd)] sz)) 0 0 (va_A [(h0, .inr (10, mob q rf n mm mb fa fp av ev wi mn tp tc sc nf fd me mp xn mt wh tq ag an ig)), ((q 2), aI g 600 bs), ((q 34), aI g 160 bg), ((q 35), aI g 160 ln), ((q 40), aZ g 600 is_), ((q 41), aI g 600 dp), ((q 42), aZ g 600 iw), ((q 43), aI g 76800 kd)] sz) := by
  refine tw_metW (l := l) (g := g) (y := y_Mod_markInstructions) (cc := b_Mod_markInstructions) (maxL := 5) (ret := none) (rm := { frames := 2, cells := 0, slots := 0, locals := 43 }) (mc := 0) (ms := 0) (av := [.ref h0, .int (nI mi)]) (ws := [(h0, .inr (10, mob q rf n mm mb fa fp av ev wi mn tp tc sc nf fd me mp xn mt wh tq ag an ig)), ((q 2), aI g 600 bs), ((q 34), aI g 160 bg), ((q 35), aI g 160 ln), ((q 40), aZ g 600 is_), ((q 41), aI g 600 dp), ((q 42), aZ g 600 iw), ((q 43), aI g 76800 kd)]) (sz := sz) (Qc := fun A => (tw_Qv g (fun (u : Int32 × Int32 × (Nat → Int32) × (Nat → Int32) × (Nat → Int32)) => (u.1 = 0 → fa = 0) ∧ (FRG u.2.2.2.1 u.2.2.2.2 kd) ∧ (u.1 = 0 → ∀ j, b1 ≤ j → j < b1 + l1 → ¬ u.2.2.1 j = 0 → STP bs b1 l1 j)) (fun u : Int32 × Int32 × (Nat → Int32) × (Nat → Int32) × (Nat → Int32) => [(h0, .inr (10, mob q rf n mm mb u.1 u.2.1 av ev wi mn tp tc sc nf fd me mp xn mt wh tq ag an ig)), ((q 2), aI g 600 bs), ((q 34), aI g 160 bg), ((q 35), aI g 160 ln), ((q 40), aZ g 600 u.2.2.1), ((q 41), aI g 600 u.2.2.2.1), ((q 42), aZ g 600 u.2.2.2.2), ((q 43), aI g 76800 kd)]) A)) (by decide) (Nat.le_of_ble_eq_true rfl) ?_
  intro p e s m below meth c ls H A E hB hK hZ hP hD hS hA hl
  obtain ⟨hx, hb, hml, hr, hown, hts, hlocks, hin⟩ := id E
  have hl : lv_has ls 5 [(0, .ref h0), (1, .int (nI mi))] := hl
  refine lv_aload_n hx hb d_Mod_markInstructions_0 rfl (lv_at hl 0 rfl) ?_
  refine va_get (D := g.1) (ci := 10) (v := .ref (q 34)) (C := R_Mod) (T := F_Mod) (N := 61) hx hb hts in_Mod hown hK hP 0 rfl rfl 34 (by decide) (hts _ wd_1284) (fun _ h9 => h9) rfl d_Mod_markInstructions_1 ?_
  refine lv_iload_n hx hb d_Mod_markInstructions_4 rfl (lv_at hl 1 rfl) ?_
  refine va_iald hx hb hK hP 2 0 rfl rfl (vp_in_nI (by omega) (by decide)) d_Mod_markInstructions_5 ?_
  refine tw_ri (e2 := nI b1) (by rw [nI_clamp (by omega)]; exact hbg) ?_
  refine lv_aload_n hx hb d_Mod_markInstructions_6 rfl (lv_at hl 0 rfl) ?_
  refine va_get (D := g.1) (ci := 10) (v := .ref (q 35)) (C := R_Mod) (T := F_Mod) (N := 61) hx hb hts in_Mod hown hK hP 0 rfl rfl 35 (by decide) (hts _ wd_1285) (fun _ h9 => h9) rfl d_Mod_markInstructions_7 ?_
  refine lv_iload_n hx hb d_Mod_markInstructions_10 rfl (lv_at hl 1 rfl) ?_
  refine va_iald hx hb hK hP 3 0 rfl rfl (vp_in_nI (by omega) (by decide)) d_Mod_markInstructions_11 ?_
  refine tw_ri (e2 := nI l1) (by rw [nI_clamp (by omega)]; exact hln) ?_
  refine lv_iadd hx hb d_Mod_markInstructions_12 ?_
  refine tw_ri (e2 := nI (b1 + l1)) (nI_add _ _) ?_
  refine lv_istore_n hx hb d_Mod_markInstructions_13 rfl hl (by decide) rfl (fun ls hl => ?_)
  have hl : lv_has ls 5 [(2, .int (nI (b1 + l1))), (0, .ref h0), (1, .int (nI mi))] := hl
  refine lv_aload_n hx hb d_Mod_markInstructions_14 rfl (lv_at hl 1 rfl) ?_
  refine va_get (D := g.1) (ci := 10) (v := .ref (q 34)) (C := R_Mod) (T := F_Mod) (N := 61) hx hb hts in_Mod hown hK hP 0 rfl rfl 34 (by decide) (hts _ wd_1284) (fun _ h9 => h9) rfl d_Mod_markInstructions_15 ?_
  refine lv_iload_n hx hb d_Mod_markInstructions_18 rfl (lv_at hl 2 rfl) ?_
  refine va_iald hx hb hK hP 2 0 rfl rfl (vp_in_nI (by omega) (by decide)) d_Mod_markInstructions_19 ?_
  refine tw_ri (e2 := nI b1) (by rw [nI_clamp (by omega)]; exact hbg) ?_
  refine lv_istore_n hx hb d_Mod_markInstructions_20 rfl hl (by decide) rfl (fun ls hl => ?_)
  have hl : lv_has ls 5 [(3, .int (nI b1)), (2, .int (nI (b1 + l1))), (0, .ref h0), (1, .int (nI mi))] := hl
  have loop21 : ∀ (kq : Nat) (k : Nat) (is_9 : Nat → Int32) (dp9 : Nat → Int32) (iw9 : Nat → Int32) (ls : Array Slot) (H : Heap) (locs : List Loc) , b1 + l1 - k = kq → (hk1 : b1 ≤ k) → (hk2 : k ≤ b1 + l1) → (hz9 : ∀ j, b1 ≤ j → j < k → is_9 j = 0) → (hFR9 : FRG dp9 iw9 kd) → lv_has ls 5 [(3, .int (nI k)), (2, .int (nI (b1 + l1))), (0, .ref h0), (1, .int (nI mi))] → va_P g.1 classes [(h0, .inr (10, mob q rf n mm mb fa fp av ev wi mn tp tc sc nf fd me mp xn mt wh tq ag an ig)), ((q 2), aI g 600 bs), ((q 34), aI g 160 bg), ((q 35), aI g 160 ln), ((q 40), aZ g 600 is_9), ((q 41), aI g 600 dp9), ((q 42), aZ g 600 iw9), ((q 43), aI g 76800 kd)] H → va_D A [(h0, .inr (10, mob q rf n mm mb fa fp av ev wi mn tp tc sc nf fd me mp xn mt wh tq ag an ig)), ((q 2), aI g 600 bs), ((q 34), aI g 160 bg), ((q 35), aI g 160 ln), ((q 40), aZ g 600 is_9), ((q 41), aI g 600 dp9), ((q 42), aZ g 600 iw9), ((q 43), aI g 76800 kd)] → va_S A s.heap H locs → W p l e ({ frames := 2, cells := 0, slots := 0, locals := 43 }) s m [.ref h0, .int (nI mi)].toArray below meth c H locs 0 0 (MQ below (tw_Qv g (fun (u : Int32 × Int32 × (Nat → Int32) × (Nat → Int32) × (Nat → Int32)) => (u.1 = 0 → fa = 0) ∧ (FRG u.2.2.2.1 u.2.2.2.2 kd) ∧ (u.1 = 0 → ∀ j, b1 ≤ j → j < b1 + l1 → ¬ u.2.2.1 j = 0 → STP bs b1 l1 j)) (fun u : Int32 × Int32 × (Nat → Int32) × (Nat → Int32) × (Nat → Int32) => [(h0, .inr (10, mob q rf n mm mb u.1 u.2.1 av ev wi mn tp tc sc nf fd me mp xn mt wh tq ag an ig)), ((q 2), aI g 600 bs), ((q 34), aI g 160 bg), ((q 35), aI g 160 ln), ((q 40), aZ g 600 u.2.2.1), ((q 41), aI g 600 u.2.2.2.1), ((q 42), aZ g 600 u.2.2.2.2), ((q 43), aI g 76800 kd)]) A) [.ref h0, .int (nI mi)].toArray s 0 0 A) (F0 m 21 ls []) := by
    intro kq
    induction kq using Nat.strongRecOn with
    | _ kq ih =>
      intro k is_9 dp9 iw9 ls H locs hk hk1 hk2 hz9 hFR9 hl hP hD hS
      refine lv_iload_n hx hb d_Mod_markInstructions_21 rfl (lv_at hl 0 rfl) ?_
      refine lv_iload_n hx hb d_Mod_markInstructions_22 rfl (lv_at hl 1 rfl) ?_
      refine lv_icmp_ge (tgt := 53) hx hb d_Mod_markInstructions_23 (by decide) (fun h23 => ?_) (fun h23 => ?_)
      · have h23 := tn_le h23 (by omega) (by omega)
        refine lv_aload_n hx hb d_Mod_markInstructions_53 rfl (lv_at hl 2 rfl) ?_
        refine va_get (D := g.1) (ci := 10) (v := .ref (q 34)) (C := R_Mod) (T := F_Mod) (N := 61) hx hb hts in_Mod hown hK hP 0 rfl rfl 34 (by decide) (hts _ wd_1284) (fun _ h9 => h9) rfl d_Mod_markInstructions_54 ?_
        refine lv_iload_n hx hb d_Mod_markInstructions_57 rfl (lv_at hl 3 rfl) ?_
        refine va_iald hx hb hK hP 2 0 rfl rfl (vp_in_nI (by omega) (by decide)) d_Mod_markInstructions_58 ?_
        refine tw_ri (e2 := nI b1) (by rw [nI_clamp (by omega)]; exact hbg) ?_
        refine lv_istore_n hx hb d_Mod_markInstructions_59 rfl hl (by decide) rfl (fun ls hl => ?_)
        have hl : lv_has ls 5 [(3, .int (nI b1)), (2, .int (nI (b1 + l1))), (0, .ref h0), (1, .int (nI mi))] := hl
        have loop60 : ∀ (kq : Nat) (k : Nat) (fa8 : Int32) (fp8 : Int32) (is_8 : Nat → Int32) (ls : Array Slot) (H : Heap) (locs : List Loc) , 2 * (b1 + l1 - k) + (if fa8 = 0 then 1 else 0) = kq → (hc8 : fa8 = 0 → fa = 0) → (huk : k ≤ 700) → (hk1 : b1 ≤ k) → (hSTk : fa8 = 0 → ∀ j, b1 ≤ j → j < b1 + l1 → ¬ is_8 j = 0 → STP bs b1 l1 j) → lv_has ls 5 [(3, .int (nI k)), (2, .int (nI (b1 + l1))), (0, .ref h0), (1, .int (nI mi))] → va_P g.1 classes [(h0, .inr (10, mob q rf n mm mb fa8 fp8 av ev wi mn tp tc sc nf fd me mp xn mt wh tq ag an ig)), ((q 2), aI g 600 bs), ((q 34), aI g 160 bg), ((q 35), aI g 160 ln), ((q 40), aZ g 600 is_8), ((q 41), aI g 600 dp9), ((q 42), aZ g 600 iw9), ((q 43), aI g 76800 kd)] H → va_D A [(h0, .inr (10, mob q rf n mm mb fa8 fp8 av ev wi mn tp tc sc nf fd me mp xn mt wh tq ag an ig)), ((q 2), aI g 600 bs), ((q 34), aI g 160 bg), ((q 35), aI g 160 ln), ((q 40), aZ g 600 is_8), ((q 41), aI g 600 dp9), ((q 42), aZ g 600 iw9), ((q 43), aI g 76800 kd)] → va_S A s.heap H locs → W p l e ({ frames := 2, cells := 0, slots := 0, locals := 43 }) s m [.ref h0, .int (nI mi)].toArray below meth c H locs 0 0 (MQ below (tw_Qv g (fun (u : Int32 × Int32 × (Nat → Int32) × (Nat → Int32) × (Nat → Int32)) => (u.1 = 0 → fa = 0) ∧ (FRG u.2.2.2.1 u.2.2.2.2 kd) ∧ (u.1 = 0 → ∀ j, b1 ≤ j → j < b1 + l1 → ¬ u.2.2.1 j = 0 → STP bs b1 l1 j)) (fun u : Int32 × Int32 × (Nat → Int32) × (Nat → Int32) × (Nat → Int32) => [(h0, .inr (10, mob q rf n mm mb u.1 u.2.1 av ev wi mn tp tc sc nf fd me mp xn mt wh tq ag an ig)), ((q 2), aI g 600 bs), ((q 34), aI g 160 bg), ((q 35), aI g 160 ln), ((q 40), aZ g 600 u.2.2.1), ((q 41), aI g 600 u.2.2.2.1), ((q 42), aZ g 600 u.2.2.2.2), ((q 43), aI g 76800 kd)]) A) [.ref h0, .int (nI mi)].toArray s 0 0 A) (F0 m 60 ls []) := by
          intro kq
          induction kq using Nat.strongRecOn with
          | _ kq ih60 =>
            intro k fa8 fp8 is_8 ls H locs hk60 hc8 huk hk1 hSTk hl hP hD hS
            refine lv_iload_n hx hb d_Mod_markInstructions_60 rfl (lv_at hl 0 rfl) ?_
            refine lv_iload_n hx hb d_Mod_markInstructions_61 rfl (lv_at hl 1 rfl) ?_
            refine lv_icmp_ge (tgt := 130) hx hb d_Mod_markInstructions_62 (by decide) (fun h62 => ?_) (fun h62 => ?_)
            · exact tw_vret E hS (fa8, fp8, is_8, dp9, iw9) (⟨(fun h => (fun h => h) (hc8 h)), hFR9, (fun hz => by have hz1 := hc8 hz; have hz2 := hSTk hz; exact hz2)⟩) hP hD d_Mod_markInstructions_130
            · have h62 := tn_nle h62 (by omega) (by omega)
              refine lv_aload_n hx hb d_Mod_markInstructions_65 rfl (lv_at hl 2 rfl) ?_
              refine va_get (D := g.1) (ci := 10) (v := .int fa8) (C := R_Mod) (T := F_Mod) (N := 61) hx hb hts in_Mod hown hK hP 0 rfl rfl 8 (by decide) (hts _ wd_1258) (fun _ h9 => h9) rfl d_Mod_markInstructions_66 ?_
              refine lv_if_ne (tgt := 130) hx hb d_Mod_markInstructions_69 (by decide) (fun h69 => ?_) (fun h69 => ?_)
              · exact tw_vret E hS (fa8, fp8, is_8, dp9, iw9) (⟨(fun h => absurd h h69), hFR9, (fun h => absurd h h69)⟩) hP hD d_Mod_markInstructions_130
              · have hz3 := hc8 h69
                have hz4 := hSTk h69
                refine lv_aload_n hx hb d_Mod_markInstructions_72 rfl (lv_at hl 2 rfl) ?_
                refine va_get (D := g.1) (ci := 10) (v := .ref (q 2)) (C := R_Mod) (T := F_Mod) (N := 61) hx hb hts in_Mod hown hK hP 0 rfl rfl 2 (by decide) (hts _ wd_1252) (fun _ h9 => h9) rfl d_Mod_markInstructions_73 ?_
                refine lv_iload_n hx hb d_Mod_markInstructions_76 rfl (lv_at hl 0 rfl) ?_
                refine va_iald hx hb hK hP 1 0 rfl rfl (vp_in_nI (by omega) (by decide)) d_Mod_markInstructions_77 ?_
                refine tw_ri (e2 := bs k) (by rw [nI_clamp (by omega)]) ?_
                refine tw_si (tw_runS (ws := [(h0, .inr (10, mob q rf n mm mb fa8 fp8 av ev wi mn tp tc sc nf fd me mp xn mt wh tq ag an ig)), ((q 2), aI g 600 bs), ((q 34), aI g 160 bg), ((q 35), aI g 160 ln), ((q 40), aZ g 600 is_8), ((q 41), aI g 600 dp9), ((q 42), aZ g 600 iw9), ((q 43), aI g 76800 kd)]) (wc := []) (As := [.int (bs k)]) (rest := []) E hB hK hZ (g_Mod_follows l g H.size (bs k)) mc_Mod_follows ms_Mod_follows wd_1603 hP hD hS hA [] rfl (by decide) rfl rfl (by decide) rfl hl.1 rfl (Nat.le_of_ble_eq_true rfl) (by decide) d_Mod_markInstructions_78) (fun r5 hr5 => ?_)
                have hB5 := hr5
                refine lv_istore hx hb d_Mod_markInstructions_81 hl (by decide) rfl (fun ls hl => ?_)
                have hl : lv_has ls 5 [(4, .int r5), (3, .int (nI k)), (2, .int (nI (b1 + l1))), (0, .ref h0), (1, .int (nI mi))] := hl
                refine lv_aload_n hx hb d_Mod_markInstructions_83 rfl (lv_at hl 3 rfl) ?_
                refine va_get (D := g.1) (ci := 10) (v := .ref (q 40)) (C := R_Mod) (T := F_Mod) (N := 61) hx hb hts in_Mod hown hK hP 0 rfl rfl 40 (by decide) (hts _ wd_1290) (fun _ h9 => h9) rfl d_Mod_markInstructions_84 ?_
                refine lv_iload_n hx hb d_Mod_markInstructions_87 rfl (lv_at hl 1 rfl) ?_
                refine lv_iconst (v := 1) hx hb d_Mod_markInstructions_88 (by decide) ?_
                refine va_zast hx hb hK hP hD hS 4 3 rfl rfl (vp_in_nI (by omega) (by decide)) d_Mod_markInstructions_89 (fun H locs hP hD hS => ?_)
                have hP : va_P g.1 classes [(h0, .inr (10, mob q rf n mm mb fa8 fp8 av ev wi mn tp tc sc nf fd me mp xn mt wh tq ag an ig)), ((q 2), aI g 600 bs), ((q 34), aI g 160 bg), ((q 35), aI g 160 ln), ((q 40), aZ g 600 (upd is_8 (nI k).toNatClampNeg (vp_nar .boolean 1))), ((q 41), aI g 600 dp9), ((q 42), aZ g 600 iw9), ((q 43), aI g 76800 kd)] H := hP
                have hD : va_D A [(h0, .inr (10, mob q rf n mm mb fa8 fp8 av ev wi mn tp tc sc nf fd me mp xn mt wh tq ag an ig)), ((q 2), aI g 600 bs), ((q 34), aI g 160 bg), ((q 35), aI g 160 ln), ((q 40), aZ g 600 (upd is_8 (nI k).toNatClampNeg (vp_nar .boolean 1))), ((q 41), aI g 600 dp9), ((q 42), aZ g 600 iw9), ((q 43), aI g 76800 kd)] := hD
                have e9 : upd is_8 (nI k).toNatClampNeg (vp_nar .boolean 1) = upd is_8 k 1 := by rw [nI_clamp (by omega)]; rfl
                rw [e9] at hP hD
                refine lv_iload hx hb d_Mod_markInstructions_90 (lv_at hl 0 rfl) ?_
                refine lv_if_ge (tgt := 105) hx hb d_Mod_markInstructions_92 (by decide) (fun h92 => ?_) (fun h92 => ?_)
                · obtain ⟨n1, hn1, hre⟩ := fo_n hB5.1 h92
                  have hfo : fof (bs k) = nI n1 := hB5.2.symm.trans hre
                  subst hre
                  refine lv_iload_n hx hb d_Mod_markInstructions_105 rfl (lv_at hl 1 rfl) ?_
                  refine lv_iload hx hb d_Mod_markInstructions_106 (lv_at hl 0 rfl) ?_
                  refine lv_iadd hx hb d_Mod_markInstructions_108 ?_
                  refine tw_ri (e2 := nI (k + n1)) (nI_add _ _) ?_
                  refine lv_iload_n hx hb d_Mod_markInstructions_109 rfl (lv_at hl 2 rfl) ?_
                  refine lv_icmp_lt (tgt := 120) hx hb d_Mod_markInstructions_110 (by decide) (fun h110 => ?_) (fun h110 => ?_)
                  · have h110 := tn_lt h110 (by omega) (by omega)
                    refine lv_iload_n hx hb d_Mod_markInstructions_120 rfl (lv_at hl 1 rfl) ?_
                    refine lv_iconst (v := 1) hx hb d_Mod_markInstructions_121 (by decide) ?_
                    refine lv_iadd hx hb d_Mod_markInstructions_122 ?_
                    refine tw_ri (e2 := nI (k + 1)) (nI_add k 1) ?_
                    refine lv_iload hx hb d_Mod_markInstructions_123 (lv_at hl 0 rfl) ?_
                    refine lv_iadd hx hb d_Mod_markInstructions_125 ?_
                    refine tw_ri (e2 := nI (k + 1 + n1)) (nI_add _ _) ?_
                    refine lv_istore_n hx hb d_Mod_markInstructions_126 rfl hl (by decide) rfl (fun ls hl => ?_)
                    have hl : lv_has ls 5 [(3, .int (nI (k + 1 + n1))), (4, .int (nI n1)), (2, .int (nI (b1 + l1))), (0, .ref h0), (1, .int (nI mi))] := hl
                    refine lv_goto (tgt := 60) hx hb d_Mod_markInstructions_127 (by decide) ?_
                    have hP : va_P g.1 classes [(h0, .inr (10, mob q rf n mm mb fa8 fp8 av ev wi mn tp tc sc nf fd me mp xn mt wh tq ag an ig)), ((q 2), aI g 600 bs), ((q 34), aI g 160 bg), ((q 35), aI g 160 ln), ((q 40), aZ g 600 (upd is_8 k 1)), ((q 41), aI g 600 dp9), ((q 42), aZ g 600 iw9), ((q 43), aI g 76800 kd)] H := hP.sub [0, 1, 2, 3, 4, 5, 6, 7] rfl
                    have hD : va_D A [(h0, .inr (10, mob q rf n mm mb fa8 fp8 av ev wi mn tp tc sc nf fd me mp xn mt wh tq ag an ig)), ((q 2), aI g 600 bs), ((q 34), aI g 160 bg), ((q 35), aI g 160 ln), ((q 40), aZ g 600 (upd is_8 k 1)), ((q 41), aI g 600 dp9), ((q 42), aZ g 600 iw9), ((q 43), aI g 76800 kd)] := hD.sub [0, 1, 2, 3, 4, 5, 6, 7] (by decide) rfl
                    exact ih60 _ (by rw [← hk60, if_pos h69]; first | omega | (split <;> omega)) (k + 1 + n1) fa8 fp8 (upd is_8 k 1) ls _ _ rfl (fun _ => hz3) (by omega) (by omega) (fun _ => by exact mk_st hz4 ⟨n1, hn1, hfo, h110⟩) (lv_sub hl [0, 2, 3, 4] rfl) hP hD hS
                  · refine lv_aload_n hx hb d_Mod_markInstructions_113 rfl (lv_at hl 3 rfl) ?_
                    refine lv_bipush (v := 19) hx hb d_Mod_markInstructions_114 (by decide) ?_
                    refine lv_iload_n hx hb d_Mod_markInstructions_116 rfl (lv_at hl 1 rfl) ?_
                    refine tw_wv (wr := [((q 2), aI g 600 bs), ((q 34), aI g 160 bg), ((q 35), aI g 160 ln), ((q 40), aZ g 600 (upd is_8 k 1)), ((q 41), aI g 600 dp9), ((q 42), aZ g 600 iw9), ((q 43), aI g 76800 kd)]) (tw_runV (ws := [(h0, .inr (10, mob q rf n mm mb fa8 fp8 av ev wi mn tp tc sc nf fd me mp xn mt wh tq ag an ig)), ((q 2), aI g 600 bs), ((q 34), aI g 160 bg), ((q 35), aI g 160 ln), ((q 40), aZ g 600 (upd is_8 k 1)), ((q 41), aI g 600 dp9), ((q 42), aZ g 600 iw9), ((q 43), aI g 76800 kd)]) (wc := [(h0, .inr (10, mob q rf n mm mb fa8 fp8 av ev wi mn tp tc sc nf fd me mp xn mt wh tq ag an ig))]) (As := [.int 19, .int (nI k)]) (rest := []) E hB hK hZ (g_Mod_fail l g H.size h0 q rf n mm mb av ev wi mn tp tc sc nf fd me mp xn mt wh tq ag an ig fa8 fp8 19 (nI k) (by decide)) mc_Mod_fail mi_Mod_fail me_Mod_fail wd_1478 hP hD hS hA [0] rfl (by decide) 0 rfl rfl rfl rfl rfl (by decide) rfl hl.1 rfl (Nat.le_of_ble_eq_true rfl) (by decide) d_Mod_markInstructions_117) hP hD hS hA [0] [1, 2, 3, 4, 5, 6, 7] rfl rfl (by decide) (by decide) (fun u7 H locs hr6 hP hD hS => ?_)
                    try dsimp only at hr6
                    have hP : va_P g.1 classes [((q 2), aI g 600 bs), ((q 34), aI g 160 bg), ((q 35), aI g 160 ln), ((q 40), aZ g 600 (upd is_8 k 1)), ((q 41), aI g 600 dp9), ((q 42), aZ g 600 iw9), ((q 43), aI g 76800 kd), (h0, .inr (10, mob q rf n mm mb u7.1 u7.2 av ev wi mn tp tc sc nf fd me mp xn mt wh tq ag an ig))] H := hP
                    have hD : va_D A [((q 2), aI g 600 bs), ((q 34), aI g 160 bg), ((q 35), aI g 160 ln), ((q 40), aZ g 600 (upd is_8 k 1)), ((q 41), aI g 600 dp9), ((q 42), aZ g 600 iw9), ((q 43), aI g 76800 kd), (h0, .inr (10, mob q rf n mm mb u7.1 u7.2 av ev wi mn tp tc sc nf fd me mp xn mt wh tq ag an ig))] := hD
                    have hP : va_P g.1 classes [(h0, .inr (10, mob q rf n mm mb u7.1 u7.2 av ev wi mn tp tc sc nf fd me mp xn mt wh tq ag an ig)), ((q 2), aI g 600 bs), ((q 34), aI g 160 bg), ((q 35), aI g 160 ln), ((q 40), aZ g 600 (upd is_8 k 1)), ((q 41), aI g 600 dp9), ((q 42), aZ g 600 iw9), ((q 43), aI g 76800 kd)] H := hP.sub [7, 0, 1, 2, 3, 4, 5, 6] rfl
                    have hD : va_D A [(h0, .inr (10, mob q rf n mm mb u7.1 u7.2 av ev wi mn tp tc sc nf fd me mp xn mt wh tq ag an ig)), ((q 2), aI g 600 bs), ((q 34), aI g 160 bg), ((q 35), aI g 160 ln), ((q 40), aZ g 600 (upd is_8 k 1)), ((q 41), aI g 600 dp9), ((q 42), aZ g 600 iw9), ((q 43), aI g 76800 kd)] := hD.sub [7, 0, 1, 2, 3, 4, 5, 6] (by decide) rfl
                    have hp7_0 := hr6
                    refine lv_iload_n hx hb d_Mod_markInstructions_120 rfl (lv_at hl 1 rfl) ?_
                    refine lv_iconst (v := 1) hx hb d_Mod_markInstructions_121 (by decide) ?_
                    refine lv_iadd hx hb d_Mod_markInstructions_122 ?_
                    refine tw_ri (e2 := nI (k + 1)) (nI_add k 1) ?_
                    refine lv_iload hx hb d_Mod_markInstructions_123 (lv_at hl 0 rfl) ?_
                    refine lv_iadd hx hb d_Mod_markInstructions_125 ?_
                    refine tw_ri (e2 := nI (k + 1 + n1)) (nI_add _ _) ?_
                    refine lv_istore_n hx hb d_Mod_markInstructions_126 rfl hl (by decide) rfl (fun ls hl => ?_)
                    have hl : lv_has ls 5 [(3, .int (nI (k + 1 + n1))), (4, .int (nI n1)), (2, .int (nI (b1 + l1))), (0, .ref h0), (1, .int (nI mi))] := hl
                    refine lv_goto (tgt := 60) hx hb d_Mod_markInstructions_127 (by decide) ?_
                    have hP : va_P g.1 classes [(h0, .inr (10, mob q rf n mm mb u7.1 u7.2 av ev wi mn tp tc sc nf fd me mp xn mt wh tq ag an ig)), ((q 2), aI g 600 bs), ((q 34), aI g 160 bg), ((q 35), aI g 160 ln), ((q 40), aZ g 600 (upd is_8 k 1)), ((q 41), aI g 600 dp9), ((q 42), aZ g 600 iw9), ((q 43), aI g 76800 kd)] H := hP.sub [0, 1, 2, 3, 4, 5, 6, 7] rfl
                    have hD : va_D A [(h0, .inr (10, mob q rf n mm mb u7.1 u7.2 av ev wi mn tp tc sc nf fd me mp xn mt wh tq ag an ig)), ((q 2), aI g 600 bs), ((q 34), aI g 160 bg), ((q 35), aI g 160 ln), ((q 40), aZ g 600 (upd is_8 k 1)), ((q 41), aI g 600 dp9), ((q 42), aZ g 600 iw9), ((q 43), aI g 76800 kd)] := hD.sub [0, 1, 2, 3, 4, 5, 6, 7] (by decide) rfl
                    exact ih60 _ (by rw [← hk60, if_pos h69]; first | omega | (split <;> omega)) (k + 1 + n1) u7.1 u7.2 (upd is_8 k 1) ls _ _ rfl (fun h => absurd h hp7_0) (by omega) (by omega) (fun h => absurd h hp7_0) (lv_sub hl [0, 2, 3, 4] rfl) hP hD hS
                · have hre := fo_m hB5.1 h92
                  subst hre
                  refine lv_aload_n hx hb d_Mod_markInstructions_95 rfl (lv_at hl 3 rfl) ?_
                  refine lv_bipush (v := 18) hx hb d_Mod_markInstructions_96 (by decide) ?_
                  refine lv_iload_n hx hb d_Mod_markInstructions_98 rfl (lv_at hl 1 rfl) ?_
                  refine tw_wv (wr := [((q 2), aI g 600 bs), ((q 34), aI g 160 bg), ((q 35), aI g 160 ln), ((q 40), aZ g 600 (upd is_8 k 1)), ((q 41), aI g 600 dp9), ((q 42), aZ g 600 iw9), ((q 43), aI g 76800 kd)]) (tw_runV (ws := [(h0, .inr (10, mob q rf n mm mb fa8 fp8 av ev wi mn tp tc sc nf fd me mp xn mt wh tq ag an ig)), ((q 2), aI g 600 bs), ((q 34), aI g 160 bg), ((q 35), aI g 160 ln), ((q 40), aZ g 600 (upd is_8 k 1)), ((q 41), aI g 600 dp9), ((q 42), aZ g 600 iw9), ((q 43), aI g 76800 kd)]) (wc := [(h0, .inr (10, mob q rf n mm mb fa8 fp8 av ev wi mn tp tc sc nf fd me mp xn mt wh tq ag an ig))]) (As := [.int 18, .int (nI k)]) (rest := []) E hB hK hZ (g_Mod_fail l g H.size h0 q rf n mm mb av ev wi mn tp tc sc nf fd me mp xn mt wh tq ag an ig fa8 fp8 18 (nI k) (by decide)) mc_Mod_fail mi_Mod_fail me_Mod_fail wd_1478 hP hD hS hA [0] rfl (by decide) 0 rfl rfl rfl rfl rfl (by decide) rfl hl.1 rfl (Nat.le_of_ble_eq_true rfl) (by decide) d_Mod_markInstructions_99) hP hD hS hA [0] [1, 2, 3, 4, 5, 6, 7] rfl rfl (by decide) (by decide) (fun u9 H locs hr8 hP hD hS => ?_)
                  try dsimp only at hr8
                  have hP : va_P g.1 classes [((q 2), aI g 600 bs), ((q 34), aI g 160 bg), ((q 35), aI g 160 ln), ((q 40), aZ g 600 (upd is_8 k 1)), ((q 41), aI g 600 dp9), ((q 42), aZ g 600 iw9), ((q 43), aI g 76800 kd), (h0, .inr (10, mob q rf n mm mb u9.1 u9.2 av ev wi mn tp tc sc nf fd me mp xn mt wh tq ag an ig))] H := hP
                  have hD : va_D A [((q 2), aI g 600 bs), ((q 34), aI g 160 bg), ((q 35), aI g 160 ln), ((q 40), aZ g 600 (upd is_8 k 1)), ((q 41), aI g 600 dp9), ((q 42), aZ g 600 iw9), ((q 43), aI g 76800 kd), (h0, .inr (10, mob q rf n mm mb u9.1 u9.2 av ev wi mn tp tc sc nf fd me mp xn mt wh tq ag an ig))] := hD
                  have hP : va_P g.1 classes [(h0, .inr (10, mob q rf n mm mb u9.1 u9.2 av ev wi mn tp tc sc nf fd me mp xn mt wh tq ag an ig)), ((q 2), aI g 600 bs), ((q 34), aI g 160 bg), ((q 35), aI g 160 ln), ((q 40), aZ g 600 (upd is_8 k 1)), ((q 41), aI g 600 dp9), ((q 42), aZ g 600 iw9), ((q 43), aI g 76800 kd)] H := hP.sub [7, 0, 1, 2, 3, 4, 5, 6] rfl
                  have hD : va_D A [(h0, .inr (10, mob q rf n mm mb u9.1 u9.2 av ev wi mn tp tc sc nf fd me mp xn mt wh tq ag an ig)), ((q 2), aI g 600 bs), ((q 34), aI g 160 bg), ((q 35), aI g 160 ln), ((q 40), aZ g 600 (upd is_8 k 1)), ((q 41), aI g 600 dp9), ((q 42), aZ g 600 iw9), ((q 43), aI g 76800 kd)] := hD.sub [7, 0, 1, 2, 3, 4, 5, 6] (by decide) rfl
                  have hp9_0 := hr8
                  refine lv_goto (tgt := 120) hx hb d_Mod_markInstructions_102 (by decide) ?_
                  refine lv_iload_n hx hb d_Mod_markInstructions_120 rfl (lv_at hl 1 rfl) ?_
                  refine lv_iconst (v := 1) hx hb d_Mod_markInstructions_121 (by decide) ?_
                  refine lv_iadd hx hb d_Mod_markInstructions_122 ?_
                  refine tw_ri (e2 := nI (k + 1)) (nI_add k 1) ?_
                  refine lv_iload hx hb d_Mod_markInstructions_123 (lv_at hl 0 rfl) ?_
                  refine lv_iadd hx hb d_Mod_markInstructions_125 ?_
                  refine tw_ri (e2 := nI k) (nI_p1m1 k) ?_
                  refine lv_istore_n hx hb d_Mod_markInstructions_126 rfl hl (by decide) rfl (fun ls hl => ?_)
                  have hl : lv_has ls 5 [(3, .int (nI k)), (4, .int (-1)), (2, .int (nI (b1 + l1))), (0, .ref h0), (1, .int (nI mi))] := hl
                  refine lv_goto (tgt := 60) hx hb d_Mod_markInstructions_127 (by decide) ?_
                  have hP : va_P g.1 classes [(h0, .inr (10, mob q rf n mm mb u9.1 u9.2 av ev wi mn tp tc sc nf fd me mp xn mt wh tq ag an ig)), ((q 2), aI g 600 bs), ((q 34), aI g 160 bg), ((q 35), aI g 160 ln), ((q 40), aZ g 600 (upd is_8 k 1)), ((q 41), aI g 600 dp9), ((q 42), aZ g 600 iw9), ((q 43), aI g 76800 kd)] H := hP.sub [0, 1, 2, 3, 4, 5, 6, 7] rfl
                  have hD : va_D A [(h0, .inr (10, mob q rf n mm mb u9.1 u9.2 av ev wi mn tp tc sc nf fd me mp xn mt wh tq ag an ig)), ((q 2), aI g 600 bs), ((q 34), aI g 160 bg), ((q 35), aI g 160 ln), ((q 40), aZ g 600 (upd is_8 k 1)), ((q 41), aI g 600 dp9), ((q 42), aZ g 600 iw9), ((q 43), aI g 76800 kd)] := hD.sub [0, 1, 2, 3, 4, 5, 6, 7] (by decide) rfl
                  exact ih60 _ (by rw [← hk60, if_pos h69, if_neg hp9_0]; omega) k u9.1 u9.2 (upd is_8 k 1) ls _ _ rfl (fun h => absurd h hp9_0) (by omega) (by omega) (fun h => absurd h hp9_0) (lv_sub hl [0, 2, 3, 4] rfl) hP hD hS
        exact loop60 _ b1 fa fp is_9 ls _ _ rfl (fun h => h) (by omega) (Nat.le_refl _) (fun _ j h1 h2 h9 => absurd (hz9 j h1 (by omega)) h9) (lv_sub hl [0, 1, 2, 3] rfl) hP hD hS
      · have h23 := tn_nle h23 (by omega) (by omega)
        refine lv_aload_n hx hb d_Mod_markInstructions_26 rfl (lv_at hl 2 rfl) ?_
        refine va_get (D := g.1) (ci := 10) (v := .ref (q 40)) (C := R_Mod) (T := F_Mod) (N := 61) hx hb hts in_Mod hown hK hP 0 rfl rfl 40 (by decide) (hts _ wd_1290) (fun _ h9 => h9) rfl d_Mod_markInstructions_27 ?_
        refine lv_iload_n hx hb d_Mod_markInstructions_30 rfl (lv_at hl 0 rfl) ?_
        refine lv_iconst (v := 0) hx hb d_Mod_markInstructions_31 (by decide) ?_
        refine va_zast hx hb hK hP hD hS 4 3 rfl rfl (vp_in_nI (by omega) (by decide)) d_Mod_markInstructions_32 (fun H locs hP hD hS => ?_)
        have hP : va_P g.1 classes [(h0, .inr (10, mob q rf n mm mb fa fp av ev wi mn tp tc sc nf fd me mp xn mt wh tq ag an ig)), ((q 2), aI g 600 bs), ((q 34), aI g 160 bg), ((q 35), aI g 160 ln), ((q 40), aZ g 600 (upd is_9 (nI k).toNatClampNeg (vp_nar .boolean 0))), ((q 41), aI g 600 dp9), ((q 42), aZ g 600 iw9), ((q 43), aI g 76800 kd)] H := hP
        have hD : va_D A [(h0, .inr (10, mob q rf n mm mb fa fp av ev wi mn tp tc sc nf fd me mp xn mt wh tq ag an ig)), ((q 2), aI g 600 bs), ((q 34), aI g 160 bg), ((q 35), aI g 160 ln), ((q 40), aZ g 600 (upd is_9 (nI k).toNatClampNeg (vp_nar .boolean 0))), ((q 41), aI g 600 dp9), ((q 42), aZ g 600 iw9), ((q 43), aI g 76800 kd)] := hD
        have e9 : upd is_9 (nI k).toNatClampNeg (vp_nar .boolean 0) = upd is_9 k 0 := by rw [nI_clamp (by omega)]; rfl
        rw [e9] at hP hD
        refine lv_aload_n hx hb d_Mod_markInstructions_33 rfl (lv_at hl 2 rfl) ?_
        refine va_get (D := g.1) (ci := 10) (v := .ref (q 42)) (C := R_Mod) (T := F_Mod) (N := 61) hx hb hts in_Mod hown hK hP 0 rfl rfl 42 (by decide) (hts _ wd_1292) (fun _ h9 => h9) rfl d_Mod_markInstructions_34 ?_
        refine lv_iload_n hx hb d_Mod_markInstructions_37 rfl (lv_at hl 0 rfl) ?_
        refine lv_iconst (v := 0) hx hb d_Mod_markInstructions_38 (by decide) ?_
        refine va_zast hx hb hK hP hD hS 6 3 rfl rfl (vp_in_nI (by omega) (by decide)) d_Mod_markInstructions_39 (fun H locs hP hD hS => ?_)
        have hP : va_P g.1 classes [(h0, .inr (10, mob q rf n mm mb fa fp av ev wi mn tp tc sc nf fd me mp xn mt wh tq ag an ig)), ((q 2), aI g 600 bs), ((q 34), aI g 160 bg), ((q 35), aI g 160 ln), ((q 40), aZ g 600 (upd is_9 k 0)), ((q 41), aI g 600 dp9), ((q 42), aZ g 600 (upd iw9 (nI k).toNatClampNeg (vp_nar .boolean 0))), ((q 43), aI g 76800 kd)] H := hP
        have hD : va_D A [(h0, .inr (10, mob q rf n mm mb fa fp av ev wi mn tp tc sc nf fd me mp xn mt wh tq ag an ig)), ((q 2), aI g 600 bs), ((q 34), aI g 160 bg), ((q 35), aI g 160 ln), ((q 40), aZ g 600 (upd is_9 k 0)), ((q 41), aI g 600 dp9), ((q 42), aZ g 600 (upd iw9 (nI k).toNatClampNeg (vp_nar .boolean 0))), ((q 43), aI g 76800 kd)] := hD
        have e9 : upd iw9 (nI k).toNatClampNeg (vp_nar .boolean 0) = upd iw9 k 0 := by rw [nI_clamp (by omega)]; rfl
        rw [e9] at hP hD
        refine lv_aload_n hx hb d_Mod_markInstructions_40 rfl (lv_at hl 2 rfl) ?_
        refine va_get (D := g.1) (ci := 10) (v := .ref (q 41)) (C := R_Mod) (T := F_Mod) (N := 61) hx hb hts in_Mod hown hK hP 0 rfl rfl 41 (by decide) (hts _ wd_1291) (fun _ h9 => h9) rfl d_Mod_markInstructions_41 ?_
        refine lv_iload_n hx hb d_Mod_markInstructions_44 rfl (lv_at hl 0 rfl) ?_
        refine lv_iconst (v := (-1)) hx hb d_Mod_markInstructions_45 (by decide) ?_
        refine va_iast hx hb hK hP hD hS 5 0 rfl rfl (vp_in_nI (by omega) (by decide)) d_Mod_markInstructions_46 (fun H locs hP hD hS => ?_)
        have hP : va_P g.1 classes [(h0, .inr (10, mob q rf n mm mb fa fp av ev wi mn tp tc sc nf fd me mp xn mt wh tq ag an ig)), ((q 2), aI g 600 bs), ((q 34), aI g 160 bg), ((q 35), aI g 160 ln), ((q 40), aZ g 600 (upd is_9 k 0)), ((q 41), aI g 600 (upd dp9 (nI k).toNatClampNeg (-1))), ((q 42), aZ g 600 (upd iw9 k 0)), ((q 43), aI g 76800 kd)] H := hP
        have hD : va_D A [(h0, .inr (10, mob q rf n mm mb fa fp av ev wi mn tp tc sc nf fd me mp xn mt wh tq ag an ig)), ((q 2), aI g 600 bs), ((q 34), aI g 160 bg), ((q 35), aI g 160 ln), ((q 40), aZ g 600 (upd is_9 k 0)), ((q 41), aI g 600 (upd dp9 (nI k).toNatClampNeg (-1))), ((q 42), aZ g 600 (upd iw9 k 0)), ((q 43), aI g 76800 kd)] := hD
        have e9 : upd dp9 (nI k).toNatClampNeg (-1) = upd dp9 k (-1) := by rw [nI_clamp (by omega)]
        rw [e9] at hP hD
        refine lv_iinc (k := 0) (v := nI (k + 1)) hx hb d_Mod_markInstructions_47 hl rfl ((nI_succ k).symm) (by decide) rfl (fun ls hl => ?_)
        have hl : lv_has ls 5 [(3, .int (nI (k + 1))), (2, .int (nI (b1 + l1))), (0, .ref h0), (1, .int (nI mi))] := hl
        refine lv_goto (tgt := 21) hx hb d_Mod_markInstructions_50 (by decide) ?_
        have hP : va_P g.1 classes [(h0, .inr (10, mob q rf n mm mb fa fp av ev wi mn tp tc sc nf fd me mp xn mt wh tq ag an ig)), ((q 2), aI g 600 bs), ((q 34), aI g 160 bg), ((q 35), aI g 160 ln), ((q 40), aZ g 600 (upd is_9 k 0)), ((q 41), aI g 600 (upd dp9 k (-1))), ((q 42), aZ g 600 (upd iw9 k 0)), ((q 43), aI g 76800 kd)] H := hP.sub [0, 1, 2, 3, 4, 5, 6, 7] rfl
        have hD : va_D A [(h0, .inr (10, mob q rf n mm mb fa fp av ev wi mn tp tc sc nf fd me mp xn mt wh tq ag an ig)), ((q 2), aI g 600 bs), ((q 34), aI g 160 bg), ((q 35), aI g 160 ln), ((q 40), aZ g 600 (upd is_9 k 0)), ((q 41), aI g 600 (upd dp9 k (-1))), ((q 42), aZ g 600 (upd iw9 k 0)), ((q 43), aI g 76800 kd)] := hD.sub [0, 1, 2, 3, 4, 5, 6, 7] (by decide) rfl
        exact ih _ (by omega) (k + 1) (upd is_9 k 0) (upd dp9 k (-1)) (upd iw9 k 0) ls _ _ rfl (by omega) (by omega) (mk_z hz9) (hFR9.mark (by omega)) (lv_sub hl [0, 1, 2, 3] rfl) hP hD hS
  exact loop21 _ b1 is_ dp iw ls _ _ rfl (Nat.le_refl _) (by omega) (fun j h1 h2 => absurd h2 (by omega)) hFR (hl) hP hD hS
end
section
theorem d_Mod_checkHandlers_0 : decode b_Mod_checkHandlers 0 = .ok (.aload_n 0, 1) := by decide +kernel
theorem d_Mod_checkHandlers_1 : decode b_Mod_checkHandlers 1 = .ok (.getfield 77, 3) := by decide +kernel
theorem d_Mod_checkHandlers_4 : decode b_Mod_checkHandlers 4 = .ok (.iload_n 1, 1) := by decide +kernel
theorem d_Mod_checkHandlers_5 : decode b_Mod_checkHandlers 5 = .ok (.iaload, 1) := by decide +kernel
theorem d_Mod_checkHandlers_6 : decode b_Mod_checkHandlers 6 = .ok (.istore_n 2, 1) := by decide +kernel
theorem d_Mod_checkHandlers_7 : decode b_Mod_checkHandlers 7 = .ok (.iload_n 2, 1) := by decide +kernel
theorem d_Mod_checkHandlers_8 : decode b_Mod_checkHandlers 8 = .ok (.aload_n 0, 1) := by decide +kernel
theorem d_Mod_checkHandlers_9 : decode b_Mod_checkHandlers 9 = .ok (.getfield 80, 3) := by decide +kernel
theorem d_Mod_checkHandlers_12 : decode b_Mod_checkHandlers 12 = .ok (.iload_n 1, 1) := by decide +kernel
theorem d_Mod_checkHandlers_13 : decode b_Mod_checkHandlers 13 = .ok (.iaload, 1) := by decide +kernel
theorem d_Mod_checkHandlers_14 : decode b_Mod_checkHandlers 14 = .ok (.if_icmp .ge 137, 3) := by decide +kernel
theorem d_Mod_checkHandlers_17 : decode b_Mod_checkHandlers 17 = .ok (.aload_n 0, 1) := by decide +kernel
theorem d_Mod_checkHandlers_18 : decode b_Mod_checkHandlers 18 = .ok (.getfield 147, 3) := by decide +kernel
theorem d_Mod_checkHandlers_21 : decode b_Mod_checkHandlers 21 = .ok (.ifCond .ne 130, 3) := by decide +kernel
theorem d_Mod_checkHandlers_24 : decode b_Mod_checkHandlers 24 = .ok (.aload_n 0, 1) := by decide +kernel
theorem d_Mod_checkHandlers_25 : decode b_Mod_checkHandlers 25 = .ok (.getfield 83, 3) := by decide +kernel
theorem d_Mod_checkHandlers_28 : decode b_Mod_checkHandlers 28 = .ok (.iload_n 2, 1) := by decide +kernel
theorem d_Mod_checkHandlers_29 : decode b_Mod_checkHandlers 29 = .ok (.iaload, 1) := by decide +kernel
theorem d_Mod_checkHandlers_30 : decode b_Mod_checkHandlers 30 = .ok (.istore_n 3, 1) := by decide +kernel
theorem d_Mod_checkHandlers_31 : decode b_Mod_checkHandlers 31 = .ok (.aload_n 0, 1) := by decide +kernel
theorem d_Mod_checkHandlers_32 : decode b_Mod_checkHandlers 32 = .ok (.iload_n 3, 1) := by decide +kernel
theorem d_Mod_checkHandlers_33 : decode b_Mod_checkHandlers 33 = .ok (.invokevirtual 294, 3) := by decide +kernel
theorem d_Mod_checkHandlers_36 : decode b_Mod_checkHandlers 36 = .ok (.istore 4, 2) := by decide +kernel
theorem d_Mod_checkHandlers_38 : decode b_Mod_checkHandlers 38 = .ok (.aload_n 0, 1) := by decide +kernel
theorem d_Mod_checkHandlers_39 : decode b_Mod_checkHandlers 39 = .ok (.iload_n 3, 1) := by decide +kernel
theorem d_Mod_checkHandlers_40 : decode b_Mod_checkHandlers 40 = .ok (.iconst 2, 1) := by decide +kernel
theorem d_Mod_checkHandlers_41 : decode b_Mod_checkHandlers 41 = .ok (.iadd, 1) := by decide +kernel
theorem d_Mod_checkHandlers_42 : decode b_Mod_checkHandlers 42 = .ok (.invokevirtual 294, 3) := by decide +kernel
theorem d_Mod_checkHandlers_45 : decode b_Mod_checkHandlers 45 = .ok (.istore 5, 2) := by decide +kernel
theorem d_Mod_checkHandlers_47 : decode b_Mod_checkHandlers 47 = .ok (.iload 4, 2) := by decide +kernel
theorem d_Mod_checkHandlers_49 : decode b_Mod_checkHandlers 49 = .ok (.iload 5, 2) := by decide +kernel
theorem d_Mod_checkHandlers_51 : decode b_Mod_checkHandlers 51 = .ok (.if_icmp .ge 53, 3) := by decide +kernel
theorem d_Mod_checkHandlers_54 : decode b_Mod_checkHandlers 54 = .ok (.aload_n 0, 1) := by decide +kernel
theorem d_Mod_checkHandlers_55 : decode b_Mod_checkHandlers 55 = .ok (.iload_n 1, 1) := by decide +kernel
theorem d_Mod_checkHandlers_56 : decode b_Mod_checkHandlers 56 = .ok (.iload 4, 2) := by decide +kernel
theorem d_Mod_checkHandlers_58 : decode b_Mod_checkHandlers 58 = .ok (.invokevirtual 297, 3) := by decide +kernel
theorem d_Mod_checkHandlers_61 : decode b_Mod_checkHandlers 61 = .ok (.ifCond .eq 43, 3) := by decide +kernel
theorem d_Mod_checkHandlers_64 : decode b_Mod_checkHandlers 64 = .ok (.aload_n 0, 1) := by decide +kernel
theorem d_Mod_checkHandlers_65 : decode b_Mod_checkHandlers 65 = .ok (.iload_n 1, 1) := by decide +kernel
theorem d_Mod_checkHandlers_66 : decode b_Mod_checkHandlers 66 = .ok (.aload_n 0, 1) := by decide +kernel
theorem d_Mod_checkHandlers_67 : decode b_Mod_checkHandlers 67 = .ok (.iload_n 3, 1) := by decide +kernel
theorem d_Mod_checkHandlers_68 : decode b_Mod_checkHandlers 68 = .ok (.iconst 4, 1) := by decide +kernel
theorem d_Mod_checkHandlers_69 : decode b_Mod_checkHandlers 69 = .ok (.iadd, 1) := by decide +kernel
theorem d_Mod_checkHandlers_70 : decode b_Mod_checkHandlers 70 = .ok (.invokevirtual 294, 3) := by decide +kernel
theorem d_Mod_checkHandlers_73 : decode b_Mod_checkHandlers 73 = .ok (.invokevirtual 297, 3) := by decide +kernel
theorem d_Mod_checkHandlers_76 : decode b_Mod_checkHandlers 76 = .ok (.ifCond .eq 28, 3) := by decide +kernel
theorem d_Mod_checkHandlers_79 : decode b_Mod_checkHandlers 79 = .ok (.iload 5, 2) := by decide +kernel
theorem d_Mod_checkHandlers_81 : decode b_Mod_checkHandlers 81 = .ok (.aload_n 0, 1) := by decide +kernel
theorem d_Mod_checkHandlers_82 : decode b_Mod_checkHandlers 82 = .ok (.getfield 74, 3) := by decide +kernel
theorem d_Mod_checkHandlers_85 : decode b_Mod_checkHandlers 85 = .ok (.iload_n 1, 1) := by decide +kernel
theorem d_Mod_checkHandlers_86 : decode b_Mod_checkHandlers 86 = .ok (.iaload, 1) := by decide +kernel
theorem d_Mod_checkHandlers_87 : decode b_Mod_checkHandlers 87 = .ok (.if_icmp .eq 13, 3) := by decide +kernel
theorem d_Mod_checkHandlers_90 : decode b_Mod_checkHandlers 90 = .ok (.aload_n 0, 1) := by decide +kernel
theorem d_Mod_checkHandlers_91 : decode b_Mod_checkHandlers 91 = .ok (.iload_n 1, 1) := by decide +kernel
theorem d_Mod_checkHandlers_92 : decode b_Mod_checkHandlers 92 = .ok (.iload 5, 2) := by decide +kernel
theorem d_Mod_checkHandlers_94 : decode b_Mod_checkHandlers 94 = .ok (.invokevirtual 297, 3) := by decide +kernel
theorem d_Mod_checkHandlers_97 : decode b_Mod_checkHandlers 97 = .ok (.ifCond .eq 7, 3) := by decide +kernel
theorem d_Mod_checkHandlers_100 : decode b_Mod_checkHandlers 100 = .ok (.iconst 1, 1) := by decide +kernel
theorem d_Mod_checkHandlers_101 : decode b_Mod_checkHandlers 101 = .ok (.goto 4, 3) := by decide +kernel
theorem d_Mod_checkHandlers_104 : decode b_Mod_checkHandlers 104 = .ok (.iconst 0, 1) := by decide +kernel
theorem d_Mod_checkHandlers_105 : decode b_Mod_checkHandlers 105 = .ok (.istore 6, 2) := by decide +kernel
theorem d_Mod_checkHandlers_107 : decode b_Mod_checkHandlers 107 = .ok (.aload_n 0, 1) := by decide +kernel
theorem d_Mod_checkHandlers_108 : decode b_Mod_checkHandlers 108 = .ok (.iload_n 3, 1) := by decide +kernel
theorem d_Mod_checkHandlers_109 : decode b_Mod_checkHandlers 109 = .ok (.bipush 6, 2) := by decide +kernel
theorem d_Mod_checkHandlers_111 : decode b_Mod_checkHandlers 111 = .ok (.iadd, 1) := by decide +kernel
theorem d_Mod_checkHandlers_112 : decode b_Mod_checkHandlers 112 = .ok (.invokevirtual 294, 3) := by decide +kernel
theorem d_Mod_checkHandlers_115 : decode b_Mod_checkHandlers 115 = .ok (.istore 7, 2) := by decide +kernel
theorem d_Mod_checkHandlers_117 : decode b_Mod_checkHandlers 117 = .ok (.iload 6, 2) := by decide +kernel
theorem d_Mod_checkHandlers_119 : decode b_Mod_checkHandlers 119 = .ok (.ifCond .eq 19, 3) := by decide +kernel
theorem d_Mod_checkHandlers_122 : decode b_Mod_checkHandlers 122 = .ok (.iload 7, 2) := by decide +kernel
theorem d_Mod_checkHandlers_124 : decode b_Mod_checkHandlers 124 = .ok (.ifCond .eq 21, 3) := by decide +kernel
theorem d_Mod_checkHandlers_127 : decode b_Mod_checkHandlers 127 = .ok (.aload_n 0, 1) := by decide +kernel
theorem d_Mod_checkHandlers_128 : decode b_Mod_checkHandlers 128 = .ok (.iload 7, 2) := by decide +kernel
theorem d_Mod_checkHandlers_130 : decode b_Mod_checkHandlers 130 = .ok (.bipush 7, 2) := by decide +kernel
theorem d_Mod_checkHandlers_132 : decode b_Mod_checkHandlers 132 = .ok (.invokevirtual 184, 3) := by decide +kernel
theorem d_Mod_checkHandlers_135 : decode b_Mod_checkHandlers 135 = .ok (.ifCond .ne 10, 3) := by decide +kernel
theorem d_Mod_checkHandlers_138 : decode b_Mod_checkHandlers 138 = .ok (.aload_n 0, 1) := by decide +kernel
theorem d_Mod_checkHandlers_139 : decode b_Mod_checkHandlers 139 = .ok (.bipush 20, 2) := by decide +kernel
theorem d_Mod_checkHandlers_141 : decode b_Mod_checkHandlers 141 = .ok (.iload_n 3, 1) := by decide +kernel
theorem d_Mod_checkHandlers_142 : decode b_Mod_checkHandlers 142 = .ok (.invokevirtual 159, 3) := by decide +kernel
theorem d_Mod_checkHandlers_145 : decode b_Mod_checkHandlers 145 = .ok (.iinc 2 1, 3) := by decide +kernel
theorem d_Mod_checkHandlers_148 : decode b_Mod_checkHandlers 148 = .ok (.goto (-141), 3) := by decide +kernel
theorem d_Mod_checkHandlers_151 : decode b_Mod_checkHandlers 151 = .ok (.return_, 1) := by decide +kernel
theorem d_Mod_readTypes_0 : decode b_Mod_readTypes 0 = .ok (.aload_n 0, 1) := by decide +kernel
theorem d_Mod_readTypes_1 : decode b_Mod_readTypes 1 = .ok (.iconst 0, 1) := by decide +kernel
theorem d_Mod_readTypes_2 : decode b_Mod_readTypes 2 = .ok (.putfield 300, 3) := by decide +kernel
theorem d_Mod_readTypes_5 : decode b_Mod_readTypes 5 = .ok (.aload_n 0, 1) := by decide +kernel
theorem d_Mod_readTypes_6 : decode b_Mod_readTypes 6 = .ok (.iload_n 1, 1) := by decide +kernel
theorem d_Mod_readTypes_7 : decode b_Mod_readTypes 7 = .ok (.invokevirtual 254, 3) := by decide +kernel
theorem d_Mod_readTypes_10 : decode b_Mod_readTypes 10 = .ok (.istore_n 2, 1) := by decide +kernel
theorem d_Mod_readTypes_11 : decode b_Mod_readTypes 11 = .ok (.aload_n 0, 1) := by decide +kernel
theorem d_Mod_readTypes_12 : decode b_Mod_readTypes 12 = .ok (.getfield 38, 3) := by decide +kernel
theorem d_Mod_readTypes_15 : decode b_Mod_readTypes 15 = .ok (.iload_n 1, 1) := by decide +kernel
theorem d_Mod_readTypes_16 : decode b_Mod_readTypes 16 = .ok (.iaload, 1) := by decide +kernel
theorem d_Mod_readTypes_17 : decode b_Mod_readTypes 17 = .ok (.iconst 1, 1) := by decide +kernel
theorem d_Mod_readTypes_18 : decode b_Mod_readTypes 18 = .ok (.iadd, 1) := by decide +kernel
theorem d_Mod_readTypes_19 : decode b_Mod_readTypes 19 = .ok (.istore_n 3, 1) := by decide +kernel
theorem d_Mod_readTypes_20 : decode b_Mod_readTypes 20 = .ok (.aload_n 0, 1) := by decide +kernel
theorem d_Mod_readTypes_21 : decode b_Mod_readTypes 21 = .ok (.getfield 7, 3) := by decide +kernel
theorem d_Mod_readTypes_24 : decode b_Mod_readTypes 24 = .ok (.iload_n 3, 1) := by decide +kernel
theorem d_Mod_readTypes_25 : decode b_Mod_readTypes 25 = .ok (.iaload, 1) := by decide +kernel
theorem d_Mod_readTypes_26 : decode b_Mod_readTypes 26 = .ok (.bipush 41, 2) := by decide +kernel
theorem d_Mod_readTypes_28 : decode b_Mod_readTypes 28 = .ok (.if_icmp .eq 37, 3) := by decide +kernel
theorem d_Mod_readTypes_31 : decode b_Mod_readTypes 31 = .ok (.aload_n 0, 1) := by decide +kernel
theorem d_Mod_readTypes_32 : decode b_Mod_readTypes 32 = .ok (.getfield 106, 3) := by decide +kernel
theorem d_Mod_readTypes_35 : decode b_Mod_readTypes 35 = .ok (.aload_n 0, 1) := by decide +kernel
theorem d_Mod_readTypes_36 : decode b_Mod_readTypes 36 = .ok (.getfield 300, 3) := by decide +kernel
theorem d_Mod_readTypes_39 : decode b_Mod_readTypes 39 = .ok (.aload_n 0, 1) := by decide +kernel
theorem d_Mod_readTypes_40 : decode b_Mod_readTypes 40 = .ok (.iload_n 3, 1) := by decide +kernel
theorem d_Mod_readTypes_41 : decode b_Mod_readTypes 41 = .ok (.invokevirtual 303, 3) := by decide +kernel
theorem d_Mod_readTypes_44 : decode b_Mod_readTypes 44 = .ok (.iastore, 1) := by decide +kernel
theorem d_Mod_readTypes_45 : decode b_Mod_readTypes 45 = .ok (.aload_n 0, 1) := by decide +kernel
theorem d_Mod_readTypes_46 : decode b_Mod_readTypes 46 = .ok (.dup, 1) := by decide +kernel
theorem d_Mod_readTypes_47 : decode b_Mod_readTypes 47 = .ok (.getfield 300, 3) := by decide +kernel
theorem d_Mod_readTypes_50 : decode b_Mod_readTypes 50 = .ok (.iconst 1, 1) := by decide +kernel
theorem d_Mod_readTypes_51 : decode b_Mod_readTypes 51 = .ok (.iadd, 1) := by decide +kernel
theorem d_Mod_readTypes_52 : decode b_Mod_readTypes 52 = .ok (.putfield 300, 3) := by decide +kernel
theorem d_Mod_readTypes_55 : decode b_Mod_readTypes 55 = .ok (.aload_n 0, 1) := by decide +kernel
theorem d_Mod_readTypes_56 : decode b_Mod_readTypes 56 = .ok (.iload_n 3, 1) := by decide +kernel
theorem d_Mod_readTypes_57 : decode b_Mod_readTypes 57 = .ok (.iload_n 2, 1) := by decide +kernel
theorem d_Mod_readTypes_58 : decode b_Mod_readTypes 58 = .ok (.invokevirtual 247, 3) := by decide +kernel
theorem d_Mod_readTypes_61 : decode b_Mod_readTypes 61 = .ok (.istore_n 3, 1) := by decide +kernel
theorem d_Mod_readTypes_62 : decode b_Mod_readTypes 62 = .ok (.goto (-42), 3) := by decide +kernel
theorem d_Mod_readTypes_65 : decode b_Mod_readTypes 65 = .ok (.aload_n 0, 1) := by decide +kernel
theorem d_Mod_readTypes_66 : decode b_Mod_readTypes 66 = .ok (.aload_n 0, 1) := by decide +kernel
theorem d_Mod_readTypes_67 : decode b_Mod_readTypes 67 = .ok (.iload_n 3, 1) := by decide +kernel
theorem d_Mod_readTypes_68 : decode b_Mod_readTypes 68 = .ok (.iconst 1, 1) := by decide +kernel
theorem d_Mod_readTypes_69 : decode b_Mod_readTypes 69 = .ok (.iadd, 1) := by decide +kernel
theorem d_Mod_readTypes_70 : decode b_Mod_readTypes 70 = .ok (.invokevirtual 303, 3) := by decide +kernel
theorem d_Mod_readTypes_73 : decode b_Mod_readTypes 73 = .ok (.putfield 306, 3) := by decide +kernel
theorem d_Mod_readTypes_76 : decode b_Mod_readTypes 76 = .ok (.return_, 1) := by decide +kernel
end
section
set_option maxHeartbeats 4000000 in
set_option maxRecDepth 100000 in
theorem g_Mod_checkHandlers (l : Launch) (g : tw_G) (sz : Nat) (h0 : Nat) (q : Nat → Nat) (rf : Int32) (n : Nat) (mm : Int32) (mb : Int32) (av : Nat) (ev : Nat) (wi : Int32) (mn : Nat) (tp : Int32) (tc : Int32) (sc : Int32) (nf : Nat) (fd : Nat) (me : Nat) (mp : Int32) (xn : Nat) (mt : Nat) (wh : Nat) (tq : Nat) (ag : Nat) (an : Int32) (ig : Int32) (bs : Nat → Int32) (tg : Nat → Int32) (bg : Nat → Int32) (ln : Nat → Int32) (xf : Nat → Int32) (xt : Nat → Int32) (xp : Nat → Int32) (is_ : Nat → Int32) (fa : Int32) (fp : Int32) (mi : Nat) (b1 l1 x1 y1 : Nat) (hmi : mi < 160) (hbg : bg mi = nI b1) (hln : ln mi = nI l1) (hbl : b1 + l1 ≤ 600) (hxf : xf mi = nI x1) (hxt : xt mi = nI y1) (hx1y : x1 ≤ y1) (hxy : y1 ≤ xn) (hxn : xn ≤ 75) (hXP : XPL xp xn) (hmn : mn ≤ 620) (hbs : BYT bs) : Met l y_Mod_checkHandlers [.code y_Mod_checkHandlers b_Mod_checkHandlers 8 none] ({ frames := 1, cells := 0, slots := 0, locals := 22 }) (tw_P g [.ref h0, .int (nI mi)] [(h0, .inr (10, mob q rf n mm mb fa fp av ev wi mn tp tc sc nf fd me mp xn mt wh tq ag an ig)), ((q 2), aI g 600 bs), ((q 14), aI g 620 tg), ((q 34), aI g 160 bg), ((q 35), aI g 160 ln), ((q 36), aI g 160 xf), ((q 37), aI g 160 xt), ((q 39), aI g 160 xp), ((q 40), aZ g 600 is_)] sz) (tw_Qv g (fun (u : Int32 × Int32) => (u.1 = 0 → fa = 0) ∧ (u.1 = 0 → ∀ j, x1 ≤ j → j < y1 → HN1 bs xp l1 j)) (fun u : Int32 × Int32 => [(h0, .inr (10, mob q rf n mm mb u.1 u.2 av ev wi mn tp tc sc nf fd me mp xn mt wh tq ag an ig)), ((q 2), aI g 600 bs), ((q 14), aI g 620 tg), ((q 34), aI g 160 bg), ((q 35), aI g 160 ln), ((q 36), aI g 160 xf), ((q 37), aI g 160 xt), ((q 39), aI g 160 xp), ((q 40), aZ g 600 is_)]) (va_A [(h0, .inr (10, mob q rf n mm mb fa fp av ev wi mn tp tc sc nf fd me mp xn mt wh tq ag an ig)), ((q 2), aI g 600 bs), ((q 14), aI g 620 tg), ((q 34), aI g 160 bg), ((q 35), aI g 160 ln), ((q 36), aI g 160 xf), ((q 37), aI g 160 xt), ((q 39), aI g 160 xp), ((q 40), aZ g 600 is_)] sz)) 0 0 (va_A [(h0, .inr (10, mob q rf n mm mb fa fp av ev wi mn tp tc sc nf fd me mp xn mt wh tq ag an ig)), ((q 2), aI g 600 bs), ((q 14), aI g 620 tg), ((q 34), aI g 160 bg), ((q 35), aI g 160 ln), ((q 36), aI g 160 xf), ((q 37), aI g 160 xt), ((q 39), aI g 160 xp), ((q 40), aZ g 600 is_)] sz) := by
  refine tw_metW (l := l) (g := g) (y := y_Mod_checkHandlers) (cc := b_Mod_checkHandlers) (maxL := 8) (ret := none) (rm := { frames := 1, cells := 0, slots := 0, locals := 22 }) (mc := 0) (ms := 0) (av := [.ref h0, .int (nI mi)]) (ws := [(h0, .inr (10, mob q rf n mm mb fa fp av ev wi mn tp tc sc nf fd me mp xn mt wh tq ag an ig)), ((q 2), aI g 600 bs), ((q 14), aI g 620 tg), ((q 34), aI g 160 bg), ((q 35), aI g 160 ln), ((q 36), aI g 160 xf), ((q 37), aI g 160 xt), ((q 39), aI g 160 xp), ((q 40), aZ g 600 is_)]) (sz := sz) (Qc := fun A => (tw_Qv g (fun (u : Int32 × Int32) => (u.1 = 0 → fa = 0) ∧ (u.1 = 0 → ∀ j, x1 ≤ j → j < y1 → HN1 bs xp l1 j)) (fun u : Int32 × Int32 => [(h0, .inr (10, mob q rf n mm mb u.1 u.2 av ev wi mn tp tc sc nf fd me mp xn mt wh tq ag an ig)), ((q 2), aI g 600 bs), ((q 14), aI g 620 tg), ((q 34), aI g 160 bg), ((q 35), aI g 160 ln), ((q 36), aI g 160 xf), ((q 37), aI g 160 xt), ((q 39), aI g 160 xp), ((q 40), aZ g 600 is_)]) A)) (by decide) (Nat.le_of_ble_eq_true rfl) ?_
  intro p e s m below meth c ls H A E hB hK hZ hP hD hS hA hl
  obtain ⟨hx, hb, hml, hr, hown, hts, hlocks, hin⟩ := id E
  have hl : lv_has ls 8 [(0, .ref h0), (1, .int (nI mi))] := hl
  refine lv_aload_n hx hb d_Mod_checkHandlers_0 rfl (lv_at hl 0 rfl) ?_
  refine va_get (D := g.1) (ci := 10) (v := .ref (q 36)) (C := R_Mod) (T := F_Mod) (N := 61) hx hb hts in_Mod hown hK hP 0 rfl rfl 36 (by decide) (hts _ wd_1286) (fun _ h9 => h9) rfl d_Mod_checkHandlers_1 ?_
  refine lv_iload_n hx hb d_Mod_checkHandlers_4 rfl (lv_at hl 1 rfl) ?_
  refine va_iald hx hb hK hP 5 0 rfl rfl (vp_in_nI (by omega) (by decide)) d_Mod_checkHandlers_5 ?_
  refine tw_ri (e2 := nI x1) (by rw [nI_clamp (by omega)]; exact hxf) ?_
  refine lv_istore_n hx hb d_Mod_checkHandlers_6 rfl hl (by decide) rfl (fun ls hl => ?_)
  have hl : lv_has ls 8 [(2, .int (nI x1)), (0, .ref h0), (1, .int (nI mi))] := hl
  have loop7 : ∀ (kq : Nat) (i : Nat) (fa9 : Int32) (fp9 : Int32) (ls : Array Slot) (H : Heap) (locs : List Loc) , y1 - i = kq → (hc9 : fa9 = 0 → fa = 0) → (hui : i ≤ 700) → (hi1 : x1 ≤ i) → (hHNk : fa9 = 0 → ∀ j, x1 ≤ j → j < i → HN1 bs xp l1 j) → lv_has ls 8 [(2, .int (nI i)), (0, .ref h0), (1, .int (nI mi))] → va_P g.1 classes [(h0, .inr (10, mob q rf n mm mb fa9 fp9 av ev wi mn tp tc sc nf fd me mp xn mt wh tq ag an ig)), ((q 2), aI g 600 bs), ((q 14), aI g 620 tg), ((q 34), aI g 160 bg), ((q 35), aI g 160 ln), ((q 36), aI g 160 xf), ((q 37), aI g 160 xt), ((q 39), aI g 160 xp), ((q 40), aZ g 600 is_)] H → va_D A [(h0, .inr (10, mob q rf n mm mb fa9 fp9 av ev wi mn tp tc sc nf fd me mp xn mt wh tq ag an ig)), ((q 2), aI g 600 bs), ((q 14), aI g 620 tg), ((q 34), aI g 160 bg), ((q 35), aI g 160 ln), ((q 36), aI g 160 xf), ((q 37), aI g 160 xt), ((q 39), aI g 160 xp), ((q 40), aZ g 600 is_)] → va_S A s.heap H locs → W p l e ({ frames := 1, cells := 0, slots := 0, locals := 22 }) s m [.ref h0, .int (nI mi)].toArray below meth c H locs 0 0 (MQ below (tw_Qv g (fun (u : Int32 × Int32) => (u.1 = 0 → fa = 0) ∧ (u.1 = 0 → ∀ j, x1 ≤ j → j < y1 → HN1 bs xp l1 j)) (fun u : Int32 × Int32 => [(h0, .inr (10, mob q rf n mm mb u.1 u.2 av ev wi mn tp tc sc nf fd me mp xn mt wh tq ag an ig)), ((q 2), aI g 600 bs), ((q 14), aI g 620 tg), ((q 34), aI g 160 bg), ((q 35), aI g 160 ln), ((q 36), aI g 160 xf), ((q 37), aI g 160 xt), ((q 39), aI g 160 xp), ((q 40), aZ g 600 is_)]) A) [.ref h0, .int (nI mi)].toArray s 0 0 A) (F0 m 7 ls []) := by
    intro kq
    induction kq using Nat.strongRecOn with
    | _ kq ih =>
      intro i fa9 fp9 ls H locs hk hc9 hui hi1 hHNk hl hP hD hS
      refine lv_iload_n hx hb d_Mod_checkHandlers_7 rfl (lv_at hl 0 rfl) ?_
      refine lv_aload_n hx hb d_Mod_checkHandlers_8 rfl (lv_at hl 1 rfl) ?_
      refine va_get (D := g.1) (ci := 10) (v := .ref (q 37)) (C := R_Mod) (T := F_Mod) (N := 61) hx hb hts in_Mod hown hK hP 0 rfl rfl 37 (by decide) (hts _ wd_1287) (fun _ h9 => h9) rfl d_Mod_checkHandlers_9 ?_
      refine lv_iload_n hx hb d_Mod_checkHandlers_12 rfl (lv_at hl 2 rfl) ?_
      refine va_iald hx hb hK hP 6 0 rfl rfl (vp_in_nI (by omega) (by decide)) d_Mod_checkHandlers_13 ?_
      refine tw_ri (e2 := nI y1) (by rw [nI_clamp (by omega)]; exact hxt) ?_
      refine lv_icmp_ge (tgt := 151) hx hb d_Mod_checkHandlers_14 (by decide) (fun h14 => ?_) (fun h14 => ?_)
      · have h14 := tn_le h14 (by omega) (by omega)
        exact tw_vret E hS (fa9, fp9) (⟨(fun h => (fun h => h) (hc9 h)), (fun hz => by have hz1 := hc9 hz; have hz2 := hHNk hz; exact fun j h1 h2 => hz2 j h1 (by omega))⟩) hP hD d_Mod_checkHandlers_151
      · have h14 := tn_nle h14 (by omega) (by omega)
        obtain ⟨px, epx, hpx⟩ := hXP i (by omega)
        have t21 := t2_lt hbs (i := px) (by omega)
        have t22 := t2_lt hbs (i := px + 2) (by omega)
        have t23 := t2_lt hbs (i := px + 4) (by omega)
        have t24 := t2_lt hbs (i := px + 6) (by omega)
        refine lv_aload_n hx hb d_Mod_checkHandlers_17 rfl (lv_at hl 1 rfl) ?_
        refine va_get (D := g.1) (ci := 10) (v := .int fa9) (C := R_Mod) (T := F_Mod) (N := 61) hx hb hts in_Mod hown hK hP 0 rfl rfl 8 (by decide) (hts _ wd_1258) (fun _ h9 => h9) rfl d_Mod_checkHandlers_18 ?_
        refine lv_if_ne (tgt := 151) hx hb d_Mod_checkHandlers_21 (by decide) (fun h21 => ?_) (fun h21 => ?_)
        · exact tw_vret E hS (fa9, fp9) (⟨(fun h => absurd h h21), (fun h => absurd h h21)⟩) hP hD d_Mod_checkHandlers_151
        · have hz3 := hc9 h21
          have hz4 := hHNk h21
          refine lv_aload_n hx hb d_Mod_checkHandlers_24 rfl (lv_at hl 1 rfl) ?_
          refine va_get (D := g.1) (ci := 10) (v := .ref (q 39)) (C := R_Mod) (T := F_Mod) (N := 61) hx hb hts in_Mod hown hK hP 0 rfl rfl 39 (by decide) (hts _ wd_1289) (fun _ h9 => h9) rfl d_Mod_checkHandlers_25 ?_
          refine lv_iload_n hx hb d_Mod_checkHandlers_28 rfl (lv_at hl 0 rfl) ?_
          refine va_iald hx hb hK hP 7 0 rfl rfl (vp_in_nI (by omega) (by decide)) d_Mod_checkHandlers_29 ?_
          refine tw_ri (e2 := nI px) (by rw [nI_clamp (by omega)]; exact epx) ?_
          refine lv_istore_n hx hb d_Mod_checkHandlers_30 rfl hl (by decide) rfl (fun ls hl => ?_)
          have hl : lv_has ls 8 [(3, .int (nI px)), (2, .int (nI i)), (0, .ref h0), (1, .int (nI mi))] := hl
          refine lv_aload_n hx hb d_Mod_checkHandlers_31 rfl (lv_at hl 2 rfl) ?_
          refine lv_iload_n hx hb d_Mod_checkHandlers_32 rfl (lv_at hl 0 rfl) ?_
          refine tw_si (tw_runV (ws := [(h0, .inr (10, mob q rf n mm mb fa9 fp9 av ev wi mn tp tc sc nf fd me mp xn mt wh tq ag an ig)), ((q 2), aI g 600 bs), ((q 14), aI g 620 tg), ((q 34), aI g 160 bg), ((q 35), aI g 160 ln), ((q 36), aI g 160 xf), ((q 37), aI g 160 xt), ((q 39), aI g 160 xp), ((q 40), aZ g 600 is_)]) (wc := [(h0, .inr (10, mob q rf n mm mb fa9 fp9 av ev wi mn tp tc sc nf fd me mp xn mt wh tq ag an ig)), ((q 2), aI g 600 bs)]) (As := [.int (nI px)]) (rest := []) E hB hK hZ (g_Mod_twoAt l g H.size h0 q rf n mm mb fa9 fp9 av ev wi mn tp tc sc nf fd me mp xn mt wh tq ag an ig bs px hbs (by omega)) mc_Mod_twoAt mi_Mod_twoAt me_Mod_twoAt wd_1616 hP hD hS hA [0, 1] rfl (by decide) 0 rfl rfl rfl rfl rfl (by decide) rfl hl.1 rfl (Nat.le_of_ble_eq_true rfl) (by decide) d_Mod_checkHandlers_33) (fun r5 hr5 => ?_)
          have hB5 := hr5
          subst hB5
          refine lv_istore hx hb d_Mod_checkHandlers_36 hl (by decide) rfl (fun ls hl => ?_)
          have hl : lv_has ls 8 [(4, .int (nI (t2 bs px))), (3, .int (nI px)), (2, .int (nI i)), (0, .ref h0), (1, .int (nI mi))] := hl
          refine lv_aload_n hx hb d_Mod_checkHandlers_38 rfl (lv_at hl 3 rfl) ?_
          refine lv_iload_n hx hb d_Mod_checkHandlers_39 rfl (lv_at hl 1 rfl) ?_
          refine lv_iconst (v := 2) hx hb d_Mod_checkHandlers_40 (by decide) ?_
          refine lv_iadd hx hb d_Mod_checkHandlers_41 ?_
          refine tw_ri (e2 := nI (px + 2)) (nI_add px 2) ?_
          refine tw_si (tw_runV (ws := [(h0, .inr (10, mob q rf n mm mb fa9 fp9 av ev wi mn tp tc sc nf fd me mp xn mt wh tq ag an ig)), ((q 2), aI g 600 bs), ((q 14), aI g 620 tg), ((q 34), aI g 160 bg), ((q 35), aI g 160 ln), ((q 36), aI g 160 xf), ((q 37), aI g 160 xt), ((q 39), aI g 160 xp), ((q 40), aZ g 600 is_)]) (wc := [(h0, .inr (10, mob q rf n mm mb fa9 fp9 av ev wi mn tp tc sc nf fd me mp xn mt wh tq ag an ig)), ((q 2), aI g 600 bs)]) (As := [.int (nI (px + 2))]) (rest := []) E hB hK hZ (g_Mod_twoAt l g H.size h0 q rf n mm mb fa9 fp9 av ev wi mn tp tc sc nf fd me mp xn mt wh tq ag an ig bs (px + 2) hbs (by omega)) mc_Mod_twoAt mi_Mod_twoAt me_Mod_twoAt wd_1616 hP hD hS hA [0, 1] rfl (by decide) 0 rfl rfl rfl rfl rfl (by decide) rfl hl.1 rfl (Nat.le_of_ble_eq_true rfl) (by decide) d_Mod_checkHandlers_42) (fun r6 hr6 => ?_)
          have hB6 := hr6
          subst hB6
          refine lv_istore hx hb d_Mod_checkHandlers_45 hl (by decide) rfl (fun ls hl => ?_)
          have hl : lv_has ls 8 [(5, .int (nI (t2 bs (px + 2)))), (4, .int (nI (t2 bs px))), (3, .int (nI px)), (2, .int (nI i)), (0, .ref h0), (1, .int (nI mi))] := hl
          refine lv_iload hx hb d_Mod_checkHandlers_47 (lv_at hl 1 rfl) ?_
          refine lv_iload hx hb d_Mod_checkHandlers_49 (lv_at hl 0 rfl) ?_
          refine lv_icmp_ge (tgt := 104) hx hb d_Mod_checkHandlers_51 (by decide) (fun h51 => ?_) (fun h51 => ?_)
          · refine lv_iconst (v := 0) hx hb d_Mod_checkHandlers_104 (by decide) ?_
            refine lv_istore hx hb d_Mod_checkHandlers_105 hl (by decide) rfl (fun ls hl => ?_)
            have hl : lv_has ls 8 [(6, .int 0), (5, .int (nI (t2 bs (px + 2)))), (4, .int (nI (t2 bs px))), (3, .int (nI px)), (2, .int (nI i)), (0, .ref h0), (1, .int (nI mi))] := hl
            refine lv_aload_n hx hb d_Mod_checkHandlers_107 rfl (lv_at hl 5 rfl) ?_
            refine lv_iload_n hx hb d_Mod_checkHandlers_108 rfl (lv_at hl 3 rfl) ?_
            refine lv_bipush (v := 6) hx hb d_Mod_checkHandlers_109 (by decide) ?_
            refine lv_iadd hx hb d_Mod_checkHandlers_111 ?_
            refine tw_ri (e2 := nI (px + 6)) (nI_add px 6) ?_
            refine tw_si (tw_runV (ws := [(h0, .inr (10, mob q rf n mm mb fa9 fp9 av ev wi mn tp tc sc nf fd me mp xn mt wh tq ag an ig)), ((q 2), aI g 600 bs), ((q 14), aI g 620 tg), ((q 34), aI g 160 bg), ((q 35), aI g 160 ln), ((q 36), aI g 160 xf), ((q 37), aI g 160 xt), ((q 39), aI g 160 xp), ((q 40), aZ g 600 is_)]) (wc := [(h0, .inr (10, mob q rf n mm mb fa9 fp9 av ev wi mn tp tc sc nf fd me mp xn mt wh tq ag an ig)), ((q 2), aI g 600 bs)]) (As := [.int (nI (px + 6))]) (rest := []) E hB hK hZ (g_Mod_twoAt l g H.size h0 q rf n mm mb fa9 fp9 av ev wi mn tp tc sc nf fd me mp xn mt wh tq ag an ig bs (px + 6) hbs (by omega)) mc_Mod_twoAt mi_Mod_twoAt me_Mod_twoAt wd_1616 hP hD hS hA [0, 1] rfl (by decide) 0 rfl rfl rfl rfl rfl (by decide) rfl hl.1 rfl (Nat.le_of_ble_eq_true rfl) (by decide) d_Mod_checkHandlers_112) (fun r7 hr7 => ?_)
            have hB7 := hr7
            subst hB7
            refine lv_istore hx hb d_Mod_checkHandlers_115 hl (by decide) rfl (fun ls hl => ?_)
            have hl : lv_has ls 8 [(7, .int (nI (t2 bs (px + 6)))), (6, .int 0), (5, .int (nI (t2 bs (px + 2)))), (4, .int (nI (t2 bs px))), (3, .int (nI px)), (2, .int (nI i)), (0, .ref h0), (1, .int (nI mi))] := hl
            refine lv_iload hx hb d_Mod_checkHandlers_117 (lv_at hl 1 rfl) ?_
            refine lv_if_eq (tgt := 138) hx hb d_Mod_checkHandlers_119 (by decide) (fun h119 => ?_) (fun h119 => ?_)
            · refine lv_aload_n hx hb d_Mod_checkHandlers_138 rfl (lv_at hl 6 rfl) ?_
              refine lv_bipush (v := 20) hx hb d_Mod_checkHandlers_139 (by decide) ?_
              refine lv_iload_n hx hb d_Mod_checkHandlers_141 rfl (lv_at hl 4 rfl) ?_
              refine tw_wv (wr := [((q 2), aI g 600 bs), ((q 14), aI g 620 tg), ((q 34), aI g 160 bg), ((q 35), aI g 160 ln), ((q 36), aI g 160 xf), ((q 37), aI g 160 xt), ((q 39), aI g 160 xp), ((q 40), aZ g 600 is_)]) (tw_runV (ws := [(h0, .inr (10, mob q rf n mm mb fa9 fp9 av ev wi mn tp tc sc nf fd me mp xn mt wh tq ag an ig)), ((q 2), aI g 600 bs), ((q 14), aI g 620 tg), ((q 34), aI g 160 bg), ((q 35), aI g 160 ln), ((q 36), aI g 160 xf), ((q 37), aI g 160 xt), ((q 39), aI g 160 xp), ((q 40), aZ g 600 is_)]) (wc := [(h0, .inr (10, mob q rf n mm mb fa9 fp9 av ev wi mn tp tc sc nf fd me mp xn mt wh tq ag an ig))]) (As := [.int 20, .int (nI px)]) (rest := []) E hB hK hZ (g_Mod_fail l g H.size h0 q rf n mm mb av ev wi mn tp tc sc nf fd me mp xn mt wh tq ag an ig fa9 fp9 20 (nI px) (by decide)) mc_Mod_fail mi_Mod_fail me_Mod_fail wd_1478 hP hD hS hA [0] rfl (by decide) 0 rfl rfl rfl rfl rfl (by decide) rfl hl.1 rfl (Nat.le_of_ble_eq_true rfl) (by decide) d_Mod_checkHandlers_142) hP hD hS hA [0] [1, 2, 3, 4, 5, 6, 7, 8] rfl rfl (by decide) (by decide) (fun u9 H locs hr8 hP hD hS => ?_)
              try dsimp only at hr8
              have hP : va_P g.1 classes [((q 2), aI g 600 bs), ((q 14), aI g 620 tg), ((q 34), aI g 160 bg), ((q 35), aI g 160 ln), ((q 36), aI g 160 xf), ((q 37), aI g 160 xt), ((q 39), aI g 160 xp), ((q 40), aZ g 600 is_), (h0, .inr (10, mob q rf n mm mb u9.1 u9.2 av ev wi mn tp tc sc nf fd me mp xn mt wh tq ag an ig))] H := hP
              have hD : va_D A [((q 2), aI g 600 bs), ((q 14), aI g 620 tg), ((q 34), aI g 160 bg), ((q 35), aI g 160 ln), ((q 36), aI g 160 xf), ((q 37), aI g 160 xt), ((q 39), aI g 160 xp), ((q 40), aZ g 600 is_), (h0, .inr (10, mob q rf n mm mb u9.1 u9.2 av ev wi mn tp tc sc nf fd me mp xn mt wh tq ag an ig))] := hD
              have hP : va_P g.1 classes [(h0, .inr (10, mob q rf n mm mb u9.1 u9.2 av ev wi mn tp tc sc nf fd me mp xn mt wh tq ag an ig)), ((q 2), aI g 600 bs), ((q 14), aI g 620 tg), ((q 34), aI g 160 bg), ((q 35), aI g 160 ln), ((q 36), aI g 160 xf), ((q 37), aI g 160 xt), ((q 39), aI g 160 xp), ((q 40), aZ g 600 is_)] H := hP.sub [8, 0, 1, 2, 3, 4, 5, 6, 7] rfl
              have hD : va_D A [(h0, .inr (10, mob q rf n mm mb u9.1 u9.2 av ev wi mn tp tc sc nf fd me mp xn mt wh tq ag an ig)), ((q 2), aI g 600 bs), ((q 14), aI g 620 tg), ((q 34), aI g 160 bg), ((q 35), aI g 160 ln), ((q 36), aI g 160 xf), ((q 37), aI g 160 xt), ((q 39), aI g 160 xp), ((q 40), aZ g 600 is_)] := hD.sub [8, 0, 1, 2, 3, 4, 5, 6, 7] (by decide) rfl
              have hp9_0 := hr8
              refine lv_iinc (k := 5) (v := nI (i + 1)) hx hb d_Mod_checkHandlers_145 hl rfl ((nI_succ i).symm) (by decide) rfl (fun ls hl => ?_)
              have hl : lv_has ls 8 [(2, .int (nI (i + 1))), (7, .int (nI (t2 bs (px + 6)))), (6, .int 0), (5, .int (nI (t2 bs (px + 2)))), (4, .int (nI (t2 bs px))), (3, .int (nI px)), (0, .ref h0), (1, .int (nI mi))] := hl
              refine lv_goto (tgt := 7) hx hb d_Mod_checkHandlers_148 (by decide) ?_
              have hP : va_P g.1 classes [(h0, .inr (10, mob q rf n mm mb u9.1 u9.2 av ev wi mn tp tc sc nf fd me mp xn mt wh tq ag an ig)), ((q 2), aI g 600 bs), ((q 14), aI g 620 tg), ((q 34), aI g 160 bg), ((q 35), aI g 160 ln), ((q 36), aI g 160 xf), ((q 37), aI g 160 xt), ((q 39), aI g 160 xp), ((q 40), aZ g 600 is_)] H := hP.sub [0, 1, 2, 3, 4, 5, 6, 7, 8] rfl
              have hD : va_D A [(h0, .inr (10, mob q rf n mm mb u9.1 u9.2 av ev wi mn tp tc sc nf fd me mp xn mt wh tq ag an ig)), ((q 2), aI g 600 bs), ((q 14), aI g 620 tg), ((q 34), aI g 160 bg), ((q 35), aI g 160 ln), ((q 36), aI g 160 xf), ((q 37), aI g 160 xt), ((q 39), aI g 160 xp), ((q 40), aZ g 600 is_)] := hD.sub [0, 1, 2, 3, 4, 5, 6, 7, 8] (by decide) rfl
              exact ih _ (by omega) (i + 1) u9.1 u9.2 ls _ _ rfl (fun h => absurd h hp9_0) (by omega) (by omega) (fun h => absurd h hp9_0) (lv_sub hl [0, 6, 7] rfl) hP hD hS
            · first | exact absurd h119 (by decide) | exact absurd (by decide) h119
          · refine lv_aload_n hx hb d_Mod_checkHandlers_54 rfl (lv_at hl 4 rfl) ?_
            refine lv_iload_n hx hb d_Mod_checkHandlers_55 rfl (lv_at hl 5 rfl) ?_
            refine lv_iload hx hb d_Mod_checkHandlers_56 (lv_at hl 1 rfl) ?_
            refine tw_si (tw_runV (ws := [(h0, .inr (10, mob q rf n mm mb fa9 fp9 av ev wi mn tp tc sc nf fd me mp xn mt wh tq ag an ig)), ((q 2), aI g 600 bs), ((q 14), aI g 620 tg), ((q 34), aI g 160 bg), ((q 35), aI g 160 ln), ((q 36), aI g 160 xf), ((q 37), aI g 160 xt), ((q 39), aI g 160 xp), ((q 40), aZ g 600 is_)]) (wc := [(h0, .inr (10, mob q rf n mm mb fa9 fp9 av ev wi mn tp tc sc nf fd me mp xn mt wh tq ag an ig)), ((q 34), aI g 160 bg), ((q 35), aI g 160 ln), ((q 40), aZ g 600 is_)]) (As := [.int (nI mi), .int (nI (t2 bs px))]) (rest := []) E hB hK hZ (g_Mod_isInstructionN l g H.size h0 q rf n mm mb fa9 fp9 av ev wi mn tp tc sc nf fd me mp xn mt wh tq ag an ig bg ln is_ mi (t2 bs px) b1 l1 (by omega) hbg hln (by omega) (by omega)) mc_Mod_isInstruction mi_Mod_isInstruction me_Mod_isInstruction wd_1620 hP hD hS hA [0, 3, 4, 8] rfl (by decide) 0 rfl rfl rfl rfl rfl (by decide) rfl hl.1 rfl (Nat.le_of_ble_eq_true rfl) (by decide) d_Mod_checkHandlers_58) (fun r10 hr10 => ?_)
            have hB10 := hr10
            refine lv_if_eq (tgt := 104) hx hb d_Mod_checkHandlers_61 (by decide) (fun h61 => ?_) (fun h61 => ?_)
            · refine lv_iconst (v := 0) hx hb d_Mod_checkHandlers_104 (by decide) ?_
              refine lv_istore hx hb d_Mod_checkHandlers_105 hl (by decide) rfl (fun ls hl => ?_)
              have hl : lv_has ls 8 [(6, .int 0), (5, .int (nI (t2 bs (px + 2)))), (4, .int (nI (t2 bs px))), (3, .int (nI px)), (2, .int (nI i)), (0, .ref h0), (1, .int (nI mi))] := hl
              refine lv_aload_n hx hb d_Mod_checkHandlers_107 rfl (lv_at hl 5 rfl) ?_
              refine lv_iload_n hx hb d_Mod_checkHandlers_108 rfl (lv_at hl 3 rfl) ?_
              refine lv_bipush (v := 6) hx hb d_Mod_checkHandlers_109 (by decide) ?_
              refine lv_iadd hx hb d_Mod_checkHandlers_111 ?_
              refine tw_ri (e2 := nI (px + 6)) (nI_add px 6) ?_
              refine tw_si (tw_runV (ws := [(h0, .inr (10, mob q rf n mm mb fa9 fp9 av ev wi mn tp tc sc nf fd me mp xn mt wh tq ag an ig)), ((q 2), aI g 600 bs), ((q 14), aI g 620 tg), ((q 34), aI g 160 bg), ((q 35), aI g 160 ln), ((q 36), aI g 160 xf), ((q 37), aI g 160 xt), ((q 39), aI g 160 xp), ((q 40), aZ g 600 is_)]) (wc := [(h0, .inr (10, mob q rf n mm mb fa9 fp9 av ev wi mn tp tc sc nf fd me mp xn mt wh tq ag an ig)), ((q 2), aI g 600 bs)]) (As := [.int (nI (px + 6))]) (rest := []) E hB hK hZ (g_Mod_twoAt l g H.size h0 q rf n mm mb fa9 fp9 av ev wi mn tp tc sc nf fd me mp xn mt wh tq ag an ig bs (px + 6) hbs (by omega)) mc_Mod_twoAt mi_Mod_twoAt me_Mod_twoAt wd_1616 hP hD hS hA [0, 1] rfl (by decide) 0 rfl rfl rfl rfl rfl (by decide) rfl hl.1 rfl (Nat.le_of_ble_eq_true rfl) (by decide) d_Mod_checkHandlers_112) (fun r11 hr11 => ?_)
              have hB11 := hr11
              subst hB11
              refine lv_istore hx hb d_Mod_checkHandlers_115 hl (by decide) rfl (fun ls hl => ?_)
              have hl : lv_has ls 8 [(7, .int (nI (t2 bs (px + 6)))), (6, .int 0), (5, .int (nI (t2 bs (px + 2)))), (4, .int (nI (t2 bs px))), (3, .int (nI px)), (2, .int (nI i)), (0, .ref h0), (1, .int (nI mi))] := hl
              refine lv_iload hx hb d_Mod_checkHandlers_117 (lv_at hl 1 rfl) ?_
              refine lv_if_eq (tgt := 138) hx hb d_Mod_checkHandlers_119 (by decide) (fun h119 => ?_) (fun h119 => ?_)
              · refine lv_aload_n hx hb d_Mod_checkHandlers_138 rfl (lv_at hl 6 rfl) ?_
                refine lv_bipush (v := 20) hx hb d_Mod_checkHandlers_139 (by decide) ?_
                refine lv_iload_n hx hb d_Mod_checkHandlers_141 rfl (lv_at hl 4 rfl) ?_
                refine tw_wv (wr := [((q 2), aI g 600 bs), ((q 14), aI g 620 tg), ((q 34), aI g 160 bg), ((q 35), aI g 160 ln), ((q 36), aI g 160 xf), ((q 37), aI g 160 xt), ((q 39), aI g 160 xp), ((q 40), aZ g 600 is_)]) (tw_runV (ws := [(h0, .inr (10, mob q rf n mm mb fa9 fp9 av ev wi mn tp tc sc nf fd me mp xn mt wh tq ag an ig)), ((q 2), aI g 600 bs), ((q 14), aI g 620 tg), ((q 34), aI g 160 bg), ((q 35), aI g 160 ln), ((q 36), aI g 160 xf), ((q 37), aI g 160 xt), ((q 39), aI g 160 xp), ((q 40), aZ g 600 is_)]) (wc := [(h0, .inr (10, mob q rf n mm mb fa9 fp9 av ev wi mn tp tc sc nf fd me mp xn mt wh tq ag an ig))]) (As := [.int 20, .int (nI px)]) (rest := []) E hB hK hZ (g_Mod_fail l g H.size h0 q rf n mm mb av ev wi mn tp tc sc nf fd me mp xn mt wh tq ag an ig fa9 fp9 20 (nI px) (by decide)) mc_Mod_fail mi_Mod_fail me_Mod_fail wd_1478 hP hD hS hA [0] rfl (by decide) 0 rfl rfl rfl rfl rfl (by decide) rfl hl.1 rfl (Nat.le_of_ble_eq_true rfl) (by decide) d_Mod_checkHandlers_142) hP hD hS hA [0] [1, 2, 3, 4, 5, 6, 7, 8] rfl rfl (by decide) (by decide) (fun u13 H locs hr12 hP hD hS => ?_)
                try dsimp only at hr12
                have hP : va_P g.1 classes [((q 2), aI g 600 bs), ((q 14), aI g 620 tg), ((q 34), aI g 160 bg), ((q 35), aI g 160 ln), ((q 36), aI g 160 xf), ((q 37), aI g 160 xt), ((q 39), aI g 160 xp), ((q 40), aZ g 600 is_), (h0, .inr (10, mob q rf n mm mb u13.1 u13.2 av ev wi mn tp tc sc nf fd me mp xn mt wh tq ag an ig))] H := hP
                have hD : va_D A [((q 2), aI g 600 bs), ((q 14), aI g 620 tg), ((q 34), aI g 160 bg), ((q 35), aI g 160 ln), ((q 36), aI g 160 xf), ((q 37), aI g 160 xt), ((q 39), aI g 160 xp), ((q 40), aZ g 600 is_), (h0, .inr (10, mob q rf n mm mb u13.1 u13.2 av ev wi mn tp tc sc nf fd me mp xn mt wh tq ag an ig))] := hD
                have hP : va_P g.1 classes [(h0, .inr (10, mob q rf n mm mb u13.1 u13.2 av ev wi mn tp tc sc nf fd me mp xn mt wh tq ag an ig)), ((q 2), aI g 600 bs), ((q 14), aI g 620 tg), ((q 34), aI g 160 bg), ((q 35), aI g 160 ln), ((q 36), aI g 160 xf), ((q 37), aI g 160 xt), ((q 39), aI g 160 xp), ((q 40), aZ g 600 is_)] H := hP.sub [8, 0, 1, 2, 3, 4, 5, 6, 7] rfl
                have hD : va_D A [(h0, .inr (10, mob q rf n mm mb u13.1 u13.2 av ev wi mn tp tc sc nf fd me mp xn mt wh tq ag an ig)), ((q 2), aI g 600 bs), ((q 14), aI g 620 tg), ((q 34), aI g 160 bg), ((q 35), aI g 160 ln), ((q 36), aI g 160 xf), ((q 37), aI g 160 xt), ((q 39), aI g 160 xp), ((q 40), aZ g 600 is_)] := hD.sub [8, 0, 1, 2, 3, 4, 5, 6, 7] (by decide) rfl
                have hp13_0 := hr12
                refine lv_iinc (k := 5) (v := nI (i + 1)) hx hb d_Mod_checkHandlers_145 hl rfl ((nI_succ i).symm) (by decide) rfl (fun ls hl => ?_)
                have hl : lv_has ls 8 [(2, .int (nI (i + 1))), (7, .int (nI (t2 bs (px + 6)))), (6, .int 0), (5, .int (nI (t2 bs (px + 2)))), (4, .int (nI (t2 bs px))), (3, .int (nI px)), (0, .ref h0), (1, .int (nI mi))] := hl
                refine lv_goto (tgt := 7) hx hb d_Mod_checkHandlers_148 (by decide) ?_
                have hP : va_P g.1 classes [(h0, .inr (10, mob q rf n mm mb u13.1 u13.2 av ev wi mn tp tc sc nf fd me mp xn mt wh tq ag an ig)), ((q 2), aI g 600 bs), ((q 14), aI g 620 tg), ((q 34), aI g 160 bg), ((q 35), aI g 160 ln), ((q 36), aI g 160 xf), ((q 37), aI g 160 xt), ((q 39), aI g 160 xp), ((q 40), aZ g 600 is_)] H := hP.sub [0, 1, 2, 3, 4, 5, 6, 7, 8] rfl
                have hD : va_D A [(h0, .inr (10, mob q rf n mm mb u13.1 u13.2 av ev wi mn tp tc sc nf fd me mp xn mt wh tq ag an ig)), ((q 2), aI g 600 bs), ((q 14), aI g 620 tg), ((q 34), aI g 160 bg), ((q 35), aI g 160 ln), ((q 36), aI g 160 xf), ((q 37), aI g 160 xt), ((q 39), aI g 160 xp), ((q 40), aZ g 600 is_)] := hD.sub [0, 1, 2, 3, 4, 5, 6, 7, 8] (by decide) rfl
                exact ih _ (by omega) (i + 1) u13.1 u13.2 ls _ _ rfl (fun h => absurd h hp13_0) (by omega) (by omega) (fun h => absurd h hp13_0) (lv_sub hl [0, 6, 7] rfl) hP hD hS
              · first | exact absurd h119 (by decide) | exact absurd (by decide) h119
            · have hT61 := hB10.2 (hB10.1.resolve_left h61)
              refine lv_aload_n hx hb d_Mod_checkHandlers_64 rfl (lv_at hl 4 rfl) ?_
              refine lv_iload_n hx hb d_Mod_checkHandlers_65 rfl (lv_at hl 5 rfl) ?_
              refine lv_aload_n hx hb d_Mod_checkHandlers_66 rfl (lv_at hl 4 rfl) ?_
              refine lv_iload_n hx hb d_Mod_checkHandlers_67 rfl (lv_at hl 2 rfl) ?_
              refine lv_iconst (v := 4) hx hb d_Mod_checkHandlers_68 (by decide) ?_
              refine lv_iadd hx hb d_Mod_checkHandlers_69 ?_
              refine tw_ri (e2 := nI (px + 4)) (nI_add px 4) ?_
              refine tw_si (tw_runV (ws := [(h0, .inr (10, mob q rf n mm mb fa9 fp9 av ev wi mn tp tc sc nf fd me mp xn mt wh tq ag an ig)), ((q 2), aI g 600 bs), ((q 14), aI g 620 tg), ((q 34), aI g 160 bg), ((q 35), aI g 160 ln), ((q 36), aI g 160 xf), ((q 37), aI g 160 xt), ((q 39), aI g 160 xp), ((q 40), aZ g 600 is_)]) (wc := [(h0, .inr (10, mob q rf n mm mb fa9 fp9 av ev wi mn tp tc sc nf fd me mp xn mt wh tq ag an ig)), ((q 2), aI g 600 bs)]) (As := [.int (nI (px + 4))]) (rest := [.int (nI mi), .ref h0]) E hB hK hZ (g_Mod_twoAt l g H.size h0 q rf n mm mb fa9 fp9 av ev wi mn tp tc sc nf fd me mp xn mt wh tq ag an ig bs (px + 4) hbs (by omega)) mc_Mod_twoAt mi_Mod_twoAt me_Mod_twoAt wd_1616 hP hD hS hA [0, 1] rfl (by decide) 0 rfl rfl rfl rfl rfl (by decide) rfl hl.1 rfl (Nat.le_of_ble_eq_true rfl) (by decide) d_Mod_checkHandlers_70) (fun r14 hr14 => ?_)
              have hB14 := hr14
              subst hB14
              refine tw_si (tw_runV (ws := [(h0, .inr (10, mob q rf n mm mb fa9 fp9 av ev wi mn tp tc sc nf fd me mp xn mt wh tq ag an ig)), ((q 2), aI g 600 bs), ((q 14), aI g 620 tg), ((q 34), aI g 160 bg), ((q 35), aI g 160 ln), ((q 36), aI g 160 xf), ((q 37), aI g 160 xt), ((q 39), aI g 160 xp), ((q 40), aZ g 600 is_)]) (wc := [(h0, .inr (10, mob q rf n mm mb fa9 fp9 av ev wi mn tp tc sc nf fd me mp xn mt wh tq ag an ig)), ((q 34), aI g 160 bg), ((q 35), aI g 160 ln), ((q 40), aZ g 600 is_)]) (As := [.int (nI mi), .int (nI (t2 bs (px + 4)))]) (rest := []) E hB hK hZ (g_Mod_isInstructionN l g H.size h0 q rf n mm mb fa9 fp9 av ev wi mn tp tc sc nf fd me mp xn mt wh tq ag an ig bg ln is_ mi (t2 bs (px + 4)) b1 l1 (by omega) hbg hln (by omega) (by omega)) mc_Mod_isInstruction mi_Mod_isInstruction me_Mod_isInstruction wd_1620 hP hD hS hA [0, 3, 4, 8] rfl (by decide) 0 rfl rfl rfl rfl rfl (by decide) rfl hl.1 rfl (Nat.le_of_ble_eq_true rfl) (by decide) d_Mod_checkHandlers_73) (fun r15 hr15 => ?_)
              have hB15 := hr15
              refine lv_if_eq (tgt := 104) hx hb d_Mod_checkHandlers_76 (by decide) (fun h76 => ?_) (fun h76 => ?_)
              · refine lv_iconst (v := 0) hx hb d_Mod_checkHandlers_104 (by decide) ?_
                refine lv_istore hx hb d_Mod_checkHandlers_105 hl (by decide) rfl (fun ls hl => ?_)
                have hl : lv_has ls 8 [(6, .int 0), (5, .int (nI (t2 bs (px + 2)))), (4, .int (nI (t2 bs px))), (3, .int (nI px)), (2, .int (nI i)), (0, .ref h0), (1, .int (nI mi))] := hl
                refine lv_aload_n hx hb d_Mod_checkHandlers_107 rfl (lv_at hl 5 rfl) ?_
                refine lv_iload_n hx hb d_Mod_checkHandlers_108 rfl (lv_at hl 3 rfl) ?_
                refine lv_bipush (v := 6) hx hb d_Mod_checkHandlers_109 (by decide) ?_
                refine lv_iadd hx hb d_Mod_checkHandlers_111 ?_
                refine tw_ri (e2 := nI (px + 6)) (nI_add px 6) ?_
                refine tw_si (tw_runV (ws := [(h0, .inr (10, mob q rf n mm mb fa9 fp9 av ev wi mn tp tc sc nf fd me mp xn mt wh tq ag an ig)), ((q 2), aI g 600 bs), ((q 14), aI g 620 tg), ((q 34), aI g 160 bg), ((q 35), aI g 160 ln), ((q 36), aI g 160 xf), ((q 37), aI g 160 xt), ((q 39), aI g 160 xp), ((q 40), aZ g 600 is_)]) (wc := [(h0, .inr (10, mob q rf n mm mb fa9 fp9 av ev wi mn tp tc sc nf fd me mp xn mt wh tq ag an ig)), ((q 2), aI g 600 bs)]) (As := [.int (nI (px + 6))]) (rest := []) E hB hK hZ (g_Mod_twoAt l g H.size h0 q rf n mm mb fa9 fp9 av ev wi mn tp tc sc nf fd me mp xn mt wh tq ag an ig bs (px + 6) hbs (by omega)) mc_Mod_twoAt mi_Mod_twoAt me_Mod_twoAt wd_1616 hP hD hS hA [0, 1] rfl (by decide) 0 rfl rfl rfl rfl rfl (by decide) rfl hl.1 rfl (Nat.le_of_ble_eq_true rfl) (by decide) d_Mod_checkHandlers_112) (fun r16 hr16 => ?_)
                have hB16 := hr16
                subst hB16
                refine lv_istore hx hb d_Mod_checkHandlers_115 hl (by decide) rfl (fun ls hl => ?_)
                have hl : lv_has ls 8 [(7, .int (nI (t2 bs (px + 6)))), (6, .int 0), (5, .int (nI (t2 bs (px + 2)))), (4, .int (nI (t2 bs px))), (3, .int (nI px)), (2, .int (nI i)), (0, .ref h0), (1, .int (nI mi))] := hl
                refine lv_iload hx hb d_Mod_checkHandlers_117 (lv_at hl 1 rfl) ?_
                refine lv_if_eq (tgt := 138) hx hb d_Mod_checkHandlers_119 (by decide) (fun h119 => ?_) (fun h119 => ?_)
                · refine lv_aload_n hx hb d_Mod_checkHandlers_138 rfl (lv_at hl 6 rfl) ?_
                  refine lv_bipush (v := 20) hx hb d_Mod_checkHandlers_139 (by decide) ?_
                  refine lv_iload_n hx hb d_Mod_checkHandlers_141 rfl (lv_at hl 4 rfl) ?_
                  refine tw_wv (wr := [((q 2), aI g 600 bs), ((q 14), aI g 620 tg), ((q 34), aI g 160 bg), ((q 35), aI g 160 ln), ((q 36), aI g 160 xf), ((q 37), aI g 160 xt), ((q 39), aI g 160 xp), ((q 40), aZ g 600 is_)]) (tw_runV (ws := [(h0, .inr (10, mob q rf n mm mb fa9 fp9 av ev wi mn tp tc sc nf fd me mp xn mt wh tq ag an ig)), ((q 2), aI g 600 bs), ((q 14), aI g 620 tg), ((q 34), aI g 160 bg), ((q 35), aI g 160 ln), ((q 36), aI g 160 xf), ((q 37), aI g 160 xt), ((q 39), aI g 160 xp), ((q 40), aZ g 600 is_)]) (wc := [(h0, .inr (10, mob q rf n mm mb fa9 fp9 av ev wi mn tp tc sc nf fd me mp xn mt wh tq ag an ig))]) (As := [.int 20, .int (nI px)]) (rest := []) E hB hK hZ (g_Mod_fail l g H.size h0 q rf n mm mb av ev wi mn tp tc sc nf fd me mp xn mt wh tq ag an ig fa9 fp9 20 (nI px) (by decide)) mc_Mod_fail mi_Mod_fail me_Mod_fail wd_1478 hP hD hS hA [0] rfl (by decide) 0 rfl rfl rfl rfl rfl (by decide) rfl hl.1 rfl (Nat.le_of_ble_eq_true rfl) (by decide) d_Mod_checkHandlers_142) hP hD hS hA [0] [1, 2, 3, 4, 5, 6, 7, 8] rfl rfl (by decide) (by decide) (fun u18 H locs hr17 hP hD hS => ?_)
                  try dsimp only at hr17
                  have hP : va_P g.1 classes [((q 2), aI g 600 bs), ((q 14), aI g 620 tg), ((q 34), aI g 160 bg), ((q 35), aI g 160 ln), ((q 36), aI g 160 xf), ((q 37), aI g 160 xt), ((q 39), aI g 160 xp), ((q 40), aZ g 600 is_), (h0, .inr (10, mob q rf n mm mb u18.1 u18.2 av ev wi mn tp tc sc nf fd me mp xn mt wh tq ag an ig))] H := hP
                  have hD : va_D A [((q 2), aI g 600 bs), ((q 14), aI g 620 tg), ((q 34), aI g 160 bg), ((q 35), aI g 160 ln), ((q 36), aI g 160 xf), ((q 37), aI g 160 xt), ((q 39), aI g 160 xp), ((q 40), aZ g 600 is_), (h0, .inr (10, mob q rf n mm mb u18.1 u18.2 av ev wi mn tp tc sc nf fd me mp xn mt wh tq ag an ig))] := hD
                  have hP : va_P g.1 classes [(h0, .inr (10, mob q rf n mm mb u18.1 u18.2 av ev wi mn tp tc sc nf fd me mp xn mt wh tq ag an ig)), ((q 2), aI g 600 bs), ((q 14), aI g 620 tg), ((q 34), aI g 160 bg), ((q 35), aI g 160 ln), ((q 36), aI g 160 xf), ((q 37), aI g 160 xt), ((q 39), aI g 160 xp), ((q 40), aZ g 600 is_)] H := hP.sub [8, 0, 1, 2, 3, 4, 5, 6, 7] rfl
                  have hD : va_D A [(h0, .inr (10, mob q rf n mm mb u18.1 u18.2 av ev wi mn tp tc sc nf fd me mp xn mt wh tq ag an ig)), ((q 2), aI g 600 bs), ((q 14), aI g 620 tg), ((q 34), aI g 160 bg), ((q 35), aI g 160 ln), ((q 36), aI g 160 xf), ((q 37), aI g 160 xt), ((q 39), aI g 160 xp), ((q 40), aZ g 600 is_)] := hD.sub [8, 0, 1, 2, 3, 4, 5, 6, 7] (by decide) rfl
                  have hp18_0 := hr17
                  refine lv_iinc (k := 5) (v := nI (i + 1)) hx hb d_Mod_checkHandlers_145 hl rfl ((nI_succ i).symm) (by decide) rfl (fun ls hl => ?_)
                  have hl : lv_has ls 8 [(2, .int (nI (i + 1))), (7, .int (nI (t2 bs (px + 6)))), (6, .int 0), (5, .int (nI (t2 bs (px + 2)))), (4, .int (nI (t2 bs px))), (3, .int (nI px)), (0, .ref h0), (1, .int (nI mi))] := hl
                  refine lv_goto (tgt := 7) hx hb d_Mod_checkHandlers_148 (by decide) ?_
                  have hP : va_P g.1 classes [(h0, .inr (10, mob q rf n mm mb u18.1 u18.2 av ev wi mn tp tc sc nf fd me mp xn mt wh tq ag an ig)), ((q 2), aI g 600 bs), ((q 14), aI g 620 tg), ((q 34), aI g 160 bg), ((q 35), aI g 160 ln), ((q 36), aI g 160 xf), ((q 37), aI g 160 xt), ((q 39), aI g 160 xp), ((q 40), aZ g 600 is_)] H := hP.sub [0, 1, 2, 3, 4, 5, 6, 7, 8] rfl
                  have hD : va_D A [(h0, .inr (10, mob q rf n mm mb u18.1 u18.2 av ev wi mn tp tc sc nf fd me mp xn mt wh tq ag an ig)), ((q 2), aI g 600 bs), ((q 14), aI g 620 tg), ((q 34), aI g 160 bg), ((q 35), aI g 160 ln), ((q 36), aI g 160 xf), ((q 37), aI g 160 xt), ((q 39), aI g 160 xp), ((q 40), aZ g 600 is_)] := hD.sub [0, 1, 2, 3, 4, 5, 6, 7, 8] (by decide) rfl
                  exact ih _ (by omega) (i + 1) u18.1 u18.2 ls _ _ rfl (fun h => absurd h hp18_0) (by omega) (by omega) (fun h => absurd h hp18_0) (lv_sub hl [0, 6, 7] rfl) hP hD hS
                · first | exact absurd h119 (by decide) | exact absurd (by decide) h119
              · have hT76 := hB15.2 (hB15.1.resolve_left h76)
                refine lv_iload hx hb d_Mod_checkHandlers_79 (lv_at hl 0 rfl) ?_
                refine lv_aload_n hx hb d_Mod_checkHandlers_81 rfl (lv_at hl 4 rfl) ?_
                refine va_get (D := g.1) (ci := 10) (v := .ref (q 35)) (C := R_Mod) (T := F_Mod) (N := 61) hx hb hts in_Mod hown hK hP 0 rfl rfl 35 (by decide) (hts _ wd_1285) (fun _ h9 => h9) rfl d_Mod_checkHandlers_82 ?_
                refine lv_iload_n hx hb d_Mod_checkHandlers_85 rfl (lv_at hl 5 rfl) ?_
                refine va_iald hx hb hK hP 4 0 rfl rfl (vp_in_nI (by omega) (by decide)) d_Mod_checkHandlers_86 ?_
                refine tw_ri (e2 := nI l1) (by rw [nI_clamp (by omega)]; exact hln) ?_
                refine lv_icmp_eq (tgt := 100) hx hb d_Mod_checkHandlers_87 (by decide) (fun h87 => ?_) (fun h87 => ?_)
                · refine lv_iconst (v := 1) hx hb d_Mod_checkHandlers_100 (by decide) ?_
                  refine lv_goto (tgt := 105) hx hb d_Mod_checkHandlers_101 (by decide) ?_
                  refine lv_istore hx hb d_Mod_checkHandlers_105 hl (by decide) rfl (fun ls hl => ?_)
                  have hl : lv_has ls 8 [(6, .int 1), (5, .int (nI (t2 bs (px + 2)))), (4, .int (nI (t2 bs px))), (3, .int (nI px)), (2, .int (nI i)), (0, .ref h0), (1, .int (nI mi))] := hl
                  refine lv_aload_n hx hb d_Mod_checkHandlers_107 rfl (lv_at hl 5 rfl) ?_
                  refine lv_iload_n hx hb d_Mod_checkHandlers_108 rfl (lv_at hl 3 rfl) ?_
                  refine lv_bipush (v := 6) hx hb d_Mod_checkHandlers_109 (by decide) ?_
                  refine lv_iadd hx hb d_Mod_checkHandlers_111 ?_
                  refine tw_ri (e2 := nI (px + 6)) (nI_add px 6) ?_
                  refine tw_si (tw_runV (ws := [(h0, .inr (10, mob q rf n mm mb fa9 fp9 av ev wi mn tp tc sc nf fd me mp xn mt wh tq ag an ig)), ((q 2), aI g 600 bs), ((q 14), aI g 620 tg), ((q 34), aI g 160 bg), ((q 35), aI g 160 ln), ((q 36), aI g 160 xf), ((q 37), aI g 160 xt), ((q 39), aI g 160 xp), ((q 40), aZ g 600 is_)]) (wc := [(h0, .inr (10, mob q rf n mm mb fa9 fp9 av ev wi mn tp tc sc nf fd me mp xn mt wh tq ag an ig)), ((q 2), aI g 600 bs)]) (As := [.int (nI (px + 6))]) (rest := []) E hB hK hZ (g_Mod_twoAt l g H.size h0 q rf n mm mb fa9 fp9 av ev wi mn tp tc sc nf fd me mp xn mt wh tq ag an ig bs (px + 6) hbs (by omega)) mc_Mod_twoAt mi_Mod_twoAt me_Mod_twoAt wd_1616 hP hD hS hA [0, 1] rfl (by decide) 0 rfl rfl rfl rfl rfl (by decide) rfl hl.1 rfl (Nat.le_of_ble_eq_true rfl) (by decide) d_Mod_checkHandlers_112) (fun r19 hr19 => ?_)
                  have hB19 := hr19
                  subst hB19
                  refine lv_istore hx hb d_Mod_checkHandlers_115 hl (by decide) rfl (fun ls hl => ?_)
                  have hl : lv_has ls 8 [(7, .int (nI (t2 bs (px + 6)))), (6, .int 1), (5, .int (nI (t2 bs (px + 2)))), (4, .int (nI (t2 bs px))), (3, .int (nI px)), (2, .int (nI i)), (0, .ref h0), (1, .int (nI mi))] := hl
                  refine lv_iload hx hb d_Mod_checkHandlers_117 (lv_at hl 1 rfl) ?_
                  refine lv_if_eq (tgt := 138) hx hb d_Mod_checkHandlers_119 (by decide) (fun h119 => ?_) (fun h119 => ?_)
                  · first | exact absurd h119 (by decide) | exact absurd (by decide) h119
                  · refine lv_iload hx hb d_Mod_checkHandlers_122 (lv_at hl 0 rfl) ?_
                    refine lv_if_eq (tgt := 145) hx hb d_Mod_checkHandlers_124 (by decide) (fun h124 => ?_) (fun h124 => ?_)
                    · refine lv_iinc (k := 5) (v := nI (i + 1)) hx hb d_Mod_checkHandlers_145 hl rfl ((nI_succ i).symm) (by decide) rfl (fun ls hl => ?_)
                      have hl : lv_has ls 8 [(2, .int (nI (i + 1))), (7, .int (nI (t2 bs (px + 6)))), (6, .int 1), (5, .int (nI (t2 bs (px + 2)))), (4, .int (nI (t2 bs px))), (3, .int (nI px)), (0, .ref h0), (1, .int (nI mi))] := hl
                      refine lv_goto (tgt := 7) hx hb d_Mod_checkHandlers_148 (by decide) ?_
                      have hP : va_P g.1 classes [(h0, .inr (10, mob q rf n mm mb fa9 fp9 av ev wi mn tp tc sc nf fd me mp xn mt wh tq ag an ig)), ((q 2), aI g 600 bs), ((q 14), aI g 620 tg), ((q 34), aI g 160 bg), ((q 35), aI g 160 ln), ((q 36), aI g 160 xf), ((q 37), aI g 160 xt), ((q 39), aI g 160 xp), ((q 40), aZ g 600 is_)] H := hP.sub [0, 1, 2, 3, 4, 5, 6, 7, 8] rfl
                      have hD : va_D A [(h0, .inr (10, mob q rf n mm mb fa9 fp9 av ev wi mn tp tc sc nf fd me mp xn mt wh tq ag an ig)), ((q 2), aI g 600 bs), ((q 14), aI g 620 tg), ((q 34), aI g 160 bg), ((q 35), aI g 160 ln), ((q 36), aI g 160 xf), ((q 37), aI g 160 xt), ((q 39), aI g 160 xp), ((q 40), aZ g 600 is_)] := hD.sub [0, 1, 2, 3, 4, 5, 6, 7, 8] (by decide) rfl
                      exact ih _ (by omega) (i + 1) fa9 fp9 ls _ _ rfl (fun _ => hz3) (by omega) (by omega) (fun _ => by exact fun j h1 h2 => by by_cases ej : j = i; (rw [ej]; exact ⟨px, epx, hpx, hT76.1⟩); (exact hz4 j h1 (by omega))) (lv_sub hl [0, 6, 7] rfl) hP hD hS
                    · refine lv_aload_n hx hb d_Mod_checkHandlers_127 rfl (lv_at hl 6 rfl) ?_
                      refine lv_iload hx hb d_Mod_checkHandlers_128 (lv_at hl 0 rfl) ?_
                      refine lv_bipush (v := 7) hx hb d_Mod_checkHandlers_130 (by decide) ?_
                      refine tw_si (tw_runV (ws := [(h0, .inr (10, mob q rf n mm mb fa9 fp9 av ev wi mn tp tc sc nf fd me mp xn mt wh tq ag an ig)), ((q 2), aI g 600 bs), ((q 14), aI g 620 tg), ((q 34), aI g 160 bg), ((q 35), aI g 160 ln), ((q 36), aI g 160 xf), ((q 37), aI g 160 xt), ((q 39), aI g 160 xp), ((q 40), aZ g 600 is_)]) (wc := [(h0, .inr (10, mob q rf n mm mb fa9 fp9 av ev wi mn tp tc sc nf fd me mp xn mt wh tq ag an ig)), ((q 14), aI g 620 tg)]) (As := [.int (nI (t2 bs (px + 6))), .int 7]) (rest := []) E hB hK hZ (g_Mod_isTagN l g H.size h0 q rf n mm mb fa9 fp9 av ev wi mn tp tc sc nf fd me mp xn mt wh tq ag an ig tg (t2 bs (px + 6)) 7 (by omega) (by omega)) mc_Mod_isTag mi_Mod_isTag me_Mod_isTag wd_1508 hP hD hS hA [0, 2] rfl (by decide) 0 rfl rfl rfl rfl rfl (by decide) rfl hl.1 rfl (Nat.le_of_ble_eq_true rfl) (by decide) d_Mod_checkHandlers_132) (fun r20 hr20 => ?_)
                      have hB20 := hr20
                      refine lv_if_ne (tgt := 145) hx hb d_Mod_checkHandlers_135 (by decide) (fun h135 => ?_) (fun h135 => ?_)
                      · have hT135 := hB20.2 (hB20.1.resolve_left h135)
                        refine lv_iinc (k := 5) (v := nI (i + 1)) hx hb d_Mod_checkHandlers_145 hl rfl ((nI_succ i).symm) (by decide) rfl (fun ls hl => ?_)
                        have hl : lv_has ls 8 [(2, .int (nI (i + 1))), (7, .int (nI (t2 bs (px + 6)))), (6, .int 1), (5, .int (nI (t2 bs (px + 2)))), (4, .int (nI (t2 bs px))), (3, .int (nI px)), (0, .ref h0), (1, .int (nI mi))] := hl
                        refine lv_goto (tgt := 7) hx hb d_Mod_checkHandlers_148 (by decide) ?_
                        have hP : va_P g.1 classes [(h0, .inr (10, mob q rf n mm mb fa9 fp9 av ev wi mn tp tc sc nf fd me mp xn mt wh tq ag an ig)), ((q 2), aI g 600 bs), ((q 14), aI g 620 tg), ((q 34), aI g 160 bg), ((q 35), aI g 160 ln), ((q 36), aI g 160 xf), ((q 37), aI g 160 xt), ((q 39), aI g 160 xp), ((q 40), aZ g 600 is_)] H := hP.sub [0, 1, 2, 3, 4, 5, 6, 7, 8] rfl
                        have hD : va_D A [(h0, .inr (10, mob q rf n mm mb fa9 fp9 av ev wi mn tp tc sc nf fd me mp xn mt wh tq ag an ig)), ((q 2), aI g 600 bs), ((q 14), aI g 620 tg), ((q 34), aI g 160 bg), ((q 35), aI g 160 ln), ((q 36), aI g 160 xf), ((q 37), aI g 160 xt), ((q 39), aI g 160 xp), ((q 40), aZ g 600 is_)] := hD.sub [0, 1, 2, 3, 4, 5, 6, 7, 8] (by decide) rfl
                        exact ih _ (by omega) (i + 1) fa9 fp9 ls _ _ rfl (fun _ => hz3) (by omega) (by omega) (fun _ => by exact fun j h1 h2 => by by_cases ej : j = i; (rw [ej]; exact ⟨px, epx, hpx, hT76.1⟩); (exact hz4 j h1 (by omega))) (lv_sub hl [0, 6, 7] rfl) hP hD hS
                      · refine lv_aload_n hx hb d_Mod_checkHandlers_138 rfl (lv_at hl 6 rfl) ?_
                        refine lv_bipush (v := 20) hx hb d_Mod_checkHandlers_139 (by decide) ?_
                        refine lv_iload_n hx hb d_Mod_checkHandlers_141 rfl (lv_at hl 4 rfl) ?_
                        refine tw_wv (wr := [((q 2), aI g 600 bs), ((q 14), aI g 620 tg), ((q 34), aI g 160 bg), ((q 35), aI g 160 ln), ((q 36), aI g 160 xf), ((q 37), aI g 160 xt), ((q 39), aI g 160 xp), ((q 40), aZ g 600 is_)]) (tw_runV (ws := [(h0, .inr (10, mob q rf n mm mb fa9 fp9 av ev wi mn tp tc sc nf fd me mp xn mt wh tq ag an ig)), ((q 2), aI g 600 bs), ((q 14), aI g 620 tg), ((q 34), aI g 160 bg), ((q 35), aI g 160 ln), ((q 36), aI g 160 xf), ((q 37), aI g 160 xt), ((q 39), aI g 160 xp), ((q 40), aZ g 600 is_)]) (wc := [(h0, .inr (10, mob q rf n mm mb fa9 fp9 av ev wi mn tp tc sc nf fd me mp xn mt wh tq ag an ig))]) (As := [.int 20, .int (nI px)]) (rest := []) E hB hK hZ (g_Mod_fail l g H.size h0 q rf n mm mb av ev wi mn tp tc sc nf fd me mp xn mt wh tq ag an ig fa9 fp9 20 (nI px) (by decide)) mc_Mod_fail mi_Mod_fail me_Mod_fail wd_1478 hP hD hS hA [0] rfl (by decide) 0 rfl rfl rfl rfl rfl (by decide) rfl hl.1 rfl (Nat.le_of_ble_eq_true rfl) (by decide) d_Mod_checkHandlers_142) hP hD hS hA [0] [1, 2, 3, 4, 5, 6, 7, 8] rfl rfl (by decide) (by decide) (fun u22 H locs hr21 hP hD hS => ?_)
                        try dsimp only at hr21
                        have hP : va_P g.1 classes [((q 2), aI g 600 bs), ((q 14), aI g 620 tg), ((q 34), aI g 160 bg), ((q 35), aI g 160 ln), ((q 36), aI g 160 xf), ((q 37), aI g 160 xt), ((q 39), aI g 160 xp), ((q 40), aZ g 600 is_), (h0, .inr (10, mob q rf n mm mb u22.1 u22.2 av ev wi mn tp tc sc nf fd me mp xn mt wh tq ag an ig))] H := hP
                        have hD : va_D A [((q 2), aI g 600 bs), ((q 14), aI g 620 tg), ((q 34), aI g 160 bg), ((q 35), aI g 160 ln), ((q 36), aI g 160 xf), ((q 37), aI g 160 xt), ((q 39), aI g 160 xp), ((q 40), aZ g 600 is_), (h0, .inr (10, mob q rf n mm mb u22.1 u22.2 av ev wi mn tp tc sc nf fd me mp xn mt wh tq ag an ig))] := hD
                        have hP : va_P g.1 classes [(h0, .inr (10, mob q rf n mm mb u22.1 u22.2 av ev wi mn tp tc sc nf fd me mp xn mt wh tq ag an ig)), ((q 2), aI g 600 bs), ((q 14), aI g 620 tg), ((q 34), aI g 160 bg), ((q 35), aI g 160 ln), ((q 36), aI g 160 xf), ((q 37), aI g 160 xt), ((q 39), aI g 160 xp), ((q 40), aZ g 600 is_)] H := hP.sub [8, 0, 1, 2, 3, 4, 5, 6, 7] rfl
                        have hD : va_D A [(h0, .inr (10, mob q rf n mm mb u22.1 u22.2 av ev wi mn tp tc sc nf fd me mp xn mt wh tq ag an ig)), ((q 2), aI g 600 bs), ((q 14), aI g 620 tg), ((q 34), aI g 160 bg), ((q 35), aI g 160 ln), ((q 36), aI g 160 xf), ((q 37), aI g 160 xt), ((q 39), aI g 160 xp), ((q 40), aZ g 600 is_)] := hD.sub [8, 0, 1, 2, 3, 4, 5, 6, 7] (by decide) rfl
                        have hp22_0 := hr21
                        refine lv_iinc (k := 5) (v := nI (i + 1)) hx hb d_Mod_checkHandlers_145 hl rfl ((nI_succ i).symm) (by decide) rfl (fun ls hl => ?_)
                        have hl : lv_has ls 8 [(2, .int (nI (i + 1))), (7, .int (nI (t2 bs (px + 6)))), (6, .int 1), (5, .int (nI (t2 bs (px + 2)))), (4, .int (nI (t2 bs px))), (3, .int (nI px)), (0, .ref h0), (1, .int (nI mi))] := hl
                        refine lv_goto (tgt := 7) hx hb d_Mod_checkHandlers_148 (by decide) ?_
                        have hP : va_P g.1 classes [(h0, .inr (10, mob q rf n mm mb u22.1 u22.2 av ev wi mn tp tc sc nf fd me mp xn mt wh tq ag an ig)), ((q 2), aI g 600 bs), ((q 14), aI g 620 tg), ((q 34), aI g 160 bg), ((q 35), aI g 160 ln), ((q 36), aI g 160 xf), ((q 37), aI g 160 xt), ((q 39), aI g 160 xp), ((q 40), aZ g 600 is_)] H := hP.sub [0, 1, 2, 3, 4, 5, 6, 7, 8] rfl
                        have hD : va_D A [(h0, .inr (10, mob q rf n mm mb u22.1 u22.2 av ev wi mn tp tc sc nf fd me mp xn mt wh tq ag an ig)), ((q 2), aI g 600 bs), ((q 14), aI g 620 tg), ((q 34), aI g 160 bg), ((q 35), aI g 160 ln), ((q 36), aI g 160 xf), ((q 37), aI g 160 xt), ((q 39), aI g 160 xp), ((q 40), aZ g 600 is_)] := hD.sub [0, 1, 2, 3, 4, 5, 6, 7, 8] (by decide) rfl
                        exact ih _ (by omega) (i + 1) u22.1 u22.2 ls _ _ rfl (fun h => absurd h hp22_0) (by omega) (by omega) (fun h => absurd h hp22_0) (lv_sub hl [0, 6, 7] rfl) hP hD hS
                · refine lv_aload_n hx hb d_Mod_checkHandlers_90 rfl (lv_at hl 4 rfl) ?_
                  refine lv_iload_n hx hb d_Mod_checkHandlers_91 rfl (lv_at hl 5 rfl) ?_
                  refine lv_iload hx hb d_Mod_checkHandlers_92 (lv_at hl 0 rfl) ?_
                  refine tw_si (tw_runV (ws := [(h0, .inr (10, mob q rf n mm mb fa9 fp9 av ev wi mn tp tc sc nf fd me mp xn mt wh tq ag an ig)), ((q 2), aI g 600 bs), ((q 14), aI g 620 tg), ((q 34), aI g 160 bg), ((q 35), aI g 160 ln), ((q 36), aI g 160 xf), ((q 37), aI g 160 xt), ((q 39), aI g 160 xp), ((q 40), aZ g 600 is_)]) (wc := [(h0, .inr (10, mob q rf n mm mb fa9 fp9 av ev wi mn tp tc sc nf fd me mp xn mt wh tq ag an ig)), ((q 34), aI g 160 bg), ((q 35), aI g 160 ln), ((q 40), aZ g 600 is_)]) (As := [.int (nI mi), .int (nI (t2 bs (px + 2)))]) (rest := []) E hB hK hZ (g_Mod_isInstructionN l g H.size h0 q rf n mm mb fa9 fp9 av ev wi mn tp tc sc nf fd me mp xn mt wh tq ag an ig bg ln is_ mi (t2 bs (px + 2)) b1 l1 (by omega) hbg hln (by omega) (by omega)) mc_Mod_isInstruction mi_Mod_isInstruction me_Mod_isInstruction wd_1620 hP hD hS hA [0, 3, 4, 8] rfl (by decide) 0 rfl rfl rfl rfl rfl (by decide) rfl hl.1 rfl (Nat.le_of_ble_eq_true rfl) (by decide) d_Mod_checkHandlers_94) (fun r23 hr23 => ?_)
                  have hB23 := hr23
                  refine lv_if_eq (tgt := 104) hx hb d_Mod_checkHandlers_97 (by decide) (fun h97 => ?_) (fun h97 => ?_)
                  · refine lv_iconst (v := 0) hx hb d_Mod_checkHandlers_104 (by decide) ?_
                    refine lv_istore hx hb d_Mod_checkHandlers_105 hl (by decide) rfl (fun ls hl => ?_)
                    have hl : lv_has ls 8 [(6, .int 0), (5, .int (nI (t2 bs (px + 2)))), (4, .int (nI (t2 bs px))), (3, .int (nI px)), (2, .int (nI i)), (0, .ref h0), (1, .int (nI mi))] := hl
                    refine lv_aload_n hx hb d_Mod_checkHandlers_107 rfl (lv_at hl 5 rfl) ?_
                    refine lv_iload_n hx hb d_Mod_checkHandlers_108 rfl (lv_at hl 3 rfl) ?_
                    refine lv_bipush (v := 6) hx hb d_Mod_checkHandlers_109 (by decide) ?_
                    refine lv_iadd hx hb d_Mod_checkHandlers_111 ?_
                    refine tw_ri (e2 := nI (px + 6)) (nI_add px 6) ?_
                    refine tw_si (tw_runV (ws := [(h0, .inr (10, mob q rf n mm mb fa9 fp9 av ev wi mn tp tc sc nf fd me mp xn mt wh tq ag an ig)), ((q 2), aI g 600 bs), ((q 14), aI g 620 tg), ((q 34), aI g 160 bg), ((q 35), aI g 160 ln), ((q 36), aI g 160 xf), ((q 37), aI g 160 xt), ((q 39), aI g 160 xp), ((q 40), aZ g 600 is_)]) (wc := [(h0, .inr (10, mob q rf n mm mb fa9 fp9 av ev wi mn tp tc sc nf fd me mp xn mt wh tq ag an ig)), ((q 2), aI g 600 bs)]) (As := [.int (nI (px + 6))]) (rest := []) E hB hK hZ (g_Mod_twoAt l g H.size h0 q rf n mm mb fa9 fp9 av ev wi mn tp tc sc nf fd me mp xn mt wh tq ag an ig bs (px + 6) hbs (by omega)) mc_Mod_twoAt mi_Mod_twoAt me_Mod_twoAt wd_1616 hP hD hS hA [0, 1] rfl (by decide) 0 rfl rfl rfl rfl rfl (by decide) rfl hl.1 rfl (Nat.le_of_ble_eq_true rfl) (by decide) d_Mod_checkHandlers_112) (fun r24 hr24 => ?_)
                    have hB24 := hr24
                    subst hB24
                    refine lv_istore hx hb d_Mod_checkHandlers_115 hl (by decide) rfl (fun ls hl => ?_)
                    have hl : lv_has ls 8 [(7, .int (nI (t2 bs (px + 6)))), (6, .int 0), (5, .int (nI (t2 bs (px + 2)))), (4, .int (nI (t2 bs px))), (3, .int (nI px)), (2, .int (nI i)), (0, .ref h0), (1, .int (nI mi))] := hl
                    refine lv_iload hx hb d_Mod_checkHandlers_117 (lv_at hl 1 rfl) ?_
                    refine lv_if_eq (tgt := 138) hx hb d_Mod_checkHandlers_119 (by decide) (fun h119 => ?_) (fun h119 => ?_)
                    · refine lv_aload_n hx hb d_Mod_checkHandlers_138 rfl (lv_at hl 6 rfl) ?_
                      refine lv_bipush (v := 20) hx hb d_Mod_checkHandlers_139 (by decide) ?_
                      refine lv_iload_n hx hb d_Mod_checkHandlers_141 rfl (lv_at hl 4 rfl) ?_
                      refine tw_wv (wr := [((q 2), aI g 600 bs), ((q 14), aI g 620 tg), ((q 34), aI g 160 bg), ((q 35), aI g 160 ln), ((q 36), aI g 160 xf), ((q 37), aI g 160 xt), ((q 39), aI g 160 xp), ((q 40), aZ g 600 is_)]) (tw_runV (ws := [(h0, .inr (10, mob q rf n mm mb fa9 fp9 av ev wi mn tp tc sc nf fd me mp xn mt wh tq ag an ig)), ((q 2), aI g 600 bs), ((q 14), aI g 620 tg), ((q 34), aI g 160 bg), ((q 35), aI g 160 ln), ((q 36), aI g 160 xf), ((q 37), aI g 160 xt), ((q 39), aI g 160 xp), ((q 40), aZ g 600 is_)]) (wc := [(h0, .inr (10, mob q rf n mm mb fa9 fp9 av ev wi mn tp tc sc nf fd me mp xn mt wh tq ag an ig))]) (As := [.int 20, .int (nI px)]) (rest := []) E hB hK hZ (g_Mod_fail l g H.size h0 q rf n mm mb av ev wi mn tp tc sc nf fd me mp xn mt wh tq ag an ig fa9 fp9 20 (nI px) (by decide)) mc_Mod_fail mi_Mod_fail me_Mod_fail wd_1478 hP hD hS hA [0] rfl (by decide) 0 rfl rfl rfl rfl rfl (by decide) rfl hl.1 rfl (Nat.le_of_ble_eq_true rfl) (by decide) d_Mod_checkHandlers_142) hP hD hS hA [0] [1, 2, 3, 4, 5, 6, 7, 8] rfl rfl (by decide) (by decide) (fun u26 H locs hr25 hP hD hS => ?_)
                      try dsimp only at hr25
                      have hP : va_P g.1 classes [((q 2), aI g 600 bs), ((q 14), aI g 620 tg), ((q 34), aI g 160 bg), ((q 35), aI g 160 ln), ((q 36), aI g 160 xf), ((q 37), aI g 160 xt), ((q 39), aI g 160 xp), ((q 40), aZ g 600 is_), (h0, .inr (10, mob q rf n mm mb u26.1 u26.2 av ev wi mn tp tc sc nf fd me mp xn mt wh tq ag an ig))] H := hP
                      have hD : va_D A [((q 2), aI g 600 bs), ((q 14), aI g 620 tg), ((q 34), aI g 160 bg), ((q 35), aI g 160 ln), ((q 36), aI g 160 xf), ((q 37), aI g 160 xt), ((q 39), aI g 160 xp), ((q 40), aZ g 600 is_), (h0, .inr (10, mob q rf n mm mb u26.1 u26.2 av ev wi mn tp tc sc nf fd me mp xn mt wh tq ag an ig))] := hD
                      have hP : va_P g.1 classes [(h0, .inr (10, mob q rf n mm mb u26.1 u26.2 av ev wi mn tp tc sc nf fd me mp xn mt wh tq ag an ig)), ((q 2), aI g 600 bs), ((q 14), aI g 620 tg), ((q 34), aI g 160 bg), ((q 35), aI g 160 ln), ((q 36), aI g 160 xf), ((q 37), aI g 160 xt), ((q 39), aI g 160 xp), ((q 40), aZ g 600 is_)] H := hP.sub [8, 0, 1, 2, 3, 4, 5, 6, 7] rfl
                      have hD : va_D A [(h0, .inr (10, mob q rf n mm mb u26.1 u26.2 av ev wi mn tp tc sc nf fd me mp xn mt wh tq ag an ig)), ((q 2), aI g 600 bs), ((q 14), aI g 620 tg), ((q 34), aI g 160 bg), ((q 35), aI g 160 ln), ((q 36), aI g 160 xf), ((q 37), aI g 160 xt), ((q 39), aI g 160 xp), ((q 40), aZ g 600 is_)] := hD.sub [8, 0, 1, 2, 3, 4, 5, 6, 7] (by decide) rfl
                      have hp26_0 := hr25
                      refine lv_iinc (k := 5) (v := nI (i + 1)) hx hb d_Mod_checkHandlers_145 hl rfl ((nI_succ i).symm) (by decide) rfl (fun ls hl => ?_)
                      have hl : lv_has ls 8 [(2, .int (nI (i + 1))), (7, .int (nI (t2 bs (px + 6)))), (6, .int 0), (5, .int (nI (t2 bs (px + 2)))), (4, .int (nI (t2 bs px))), (3, .int (nI px)), (0, .ref h0), (1, .int (nI mi))] := hl
                      refine lv_goto (tgt := 7) hx hb d_Mod_checkHandlers_148 (by decide) ?_
                      have hP : va_P g.1 classes [(h0, .inr (10, mob q rf n mm mb u26.1 u26.2 av ev wi mn tp tc sc nf fd me mp xn mt wh tq ag an ig)), ((q 2), aI g 600 bs), ((q 14), aI g 620 tg), ((q 34), aI g 160 bg), ((q 35), aI g 160 ln), ((q 36), aI g 160 xf), ((q 37), aI g 160 xt), ((q 39), aI g 160 xp), ((q 40), aZ g 600 is_)] H := hP.sub [0, 1, 2, 3, 4, 5, 6, 7, 8] rfl
                      have hD : va_D A [(h0, .inr (10, mob q rf n mm mb u26.1 u26.2 av ev wi mn tp tc sc nf fd me mp xn mt wh tq ag an ig)), ((q 2), aI g 600 bs), ((q 14), aI g 620 tg), ((q 34), aI g 160 bg), ((q 35), aI g 160 ln), ((q 36), aI g 160 xf), ((q 37), aI g 160 xt), ((q 39), aI g 160 xp), ((q 40), aZ g 600 is_)] := hD.sub [0, 1, 2, 3, 4, 5, 6, 7, 8] (by decide) rfl
                      exact ih _ (by omega) (i + 1) u26.1 u26.2 ls _ _ rfl (fun h => absurd h hp26_0) (by omega) (by omega) (fun h => absurd h hp26_0) (lv_sub hl [0, 6, 7] rfl) hP hD hS
                    · first | exact absurd h119 (by decide) | exact absurd (by decide) h119
                  · have hT97 := hB23.2 (hB23.1.resolve_left h97)
                    refine lv_iconst (v := 1) hx hb d_Mod_checkHandlers_100 (by decide) ?_
                    refine lv_goto (tgt := 105) hx hb d_Mod_checkHandlers_101 (by decide) ?_
                    refine lv_istore hx hb d_Mod_checkHandlers_105 hl (by decide) rfl (fun ls hl => ?_)
                    have hl : lv_has ls 8 [(6, .int 1), (5, .int (nI (t2 bs (px + 2)))), (4, .int (nI (t2 bs px))), (3, .int (nI px)), (2, .int (nI i)), (0, .ref h0), (1, .int (nI mi))] := hl
                    refine lv_aload_n hx hb d_Mod_checkHandlers_107 rfl (lv_at hl 5 rfl) ?_
                    refine lv_iload_n hx hb d_Mod_checkHandlers_108 rfl (lv_at hl 3 rfl) ?_
                    refine lv_bipush (v := 6) hx hb d_Mod_checkHandlers_109 (by decide) ?_
                    refine lv_iadd hx hb d_Mod_checkHandlers_111 ?_
                    refine tw_ri (e2 := nI (px + 6)) (nI_add px 6) ?_
                    refine tw_si (tw_runV (ws := [(h0, .inr (10, mob q rf n mm mb fa9 fp9 av ev wi mn tp tc sc nf fd me mp xn mt wh tq ag an ig)), ((q 2), aI g 600 bs), ((q 14), aI g 620 tg), ((q 34), aI g 160 bg), ((q 35), aI g 160 ln), ((q 36), aI g 160 xf), ((q 37), aI g 160 xt), ((q 39), aI g 160 xp), ((q 40), aZ g 600 is_)]) (wc := [(h0, .inr (10, mob q rf n mm mb fa9 fp9 av ev wi mn tp tc sc nf fd me mp xn mt wh tq ag an ig)), ((q 2), aI g 600 bs)]) (As := [.int (nI (px + 6))]) (rest := []) E hB hK hZ (g_Mod_twoAt l g H.size h0 q rf n mm mb fa9 fp9 av ev wi mn tp tc sc nf fd me mp xn mt wh tq ag an ig bs (px + 6) hbs (by omega)) mc_Mod_twoAt mi_Mod_twoAt me_Mod_twoAt wd_1616 hP hD hS hA [0, 1] rfl (by decide) 0 rfl rfl rfl rfl rfl (by decide) rfl hl.1 rfl (Nat.le_of_ble_eq_true rfl) (by decide) d_Mod_checkHandlers_112) (fun r27 hr27 => ?_)
                    have hB27 := hr27
                    subst hB27
                    refine lv_istore hx hb d_Mod_checkHandlers_115 hl (by decide) rfl (fun ls hl => ?_)
                    have hl : lv_has ls 8 [(7, .int (nI (t2 bs (px + 6)))), (6, .int 1), (5, .int (nI (t2 bs (px + 2)))), (4, .int (nI (t2 bs px))), (3, .int (nI px)), (2, .int (nI i)), (0, .ref h0), (1, .int (nI mi))] := hl
                    refine lv_iload hx hb d_Mod_checkHandlers_117 (lv_at hl 1 rfl) ?_
                    refine lv_if_eq (tgt := 138) hx hb d_Mod_checkHandlers_119 (by decide) (fun h119 => ?_) (fun h119 => ?_)
                    · first | exact absurd h119 (by decide) | exact absurd (by decide) h119
                    · refine lv_iload hx hb d_Mod_checkHandlers_122 (lv_at hl 0 rfl) ?_
                      refine lv_if_eq (tgt := 145) hx hb d_Mod_checkHandlers_124 (by decide) (fun h124 => ?_) (fun h124 => ?_)
                      · refine lv_iinc (k := 5) (v := nI (i + 1)) hx hb d_Mod_checkHandlers_145 hl rfl ((nI_succ i).symm) (by decide) rfl (fun ls hl => ?_)
                        have hl : lv_has ls 8 [(2, .int (nI (i + 1))), (7, .int (nI (t2 bs (px + 6)))), (6, .int 1), (5, .int (nI (t2 bs (px + 2)))), (4, .int (nI (t2 bs px))), (3, .int (nI px)), (0, .ref h0), (1, .int (nI mi))] := hl
                        refine lv_goto (tgt := 7) hx hb d_Mod_checkHandlers_148 (by decide) ?_
                        have hP : va_P g.1 classes [(h0, .inr (10, mob q rf n mm mb fa9 fp9 av ev wi mn tp tc sc nf fd me mp xn mt wh tq ag an ig)), ((q 2), aI g 600 bs), ((q 14), aI g 620 tg), ((q 34), aI g 160 bg), ((q 35), aI g 160 ln), ((q 36), aI g 160 xf), ((q 37), aI g 160 xt), ((q 39), aI g 160 xp), ((q 40), aZ g 600 is_)] H := hP.sub [0, 1, 2, 3, 4, 5, 6, 7, 8] rfl
                        have hD : va_D A [(h0, .inr (10, mob q rf n mm mb fa9 fp9 av ev wi mn tp tc sc nf fd me mp xn mt wh tq ag an ig)), ((q 2), aI g 600 bs), ((q 14), aI g 620 tg), ((q 34), aI g 160 bg), ((q 35), aI g 160 ln), ((q 36), aI g 160 xf), ((q 37), aI g 160 xt), ((q 39), aI g 160 xp), ((q 40), aZ g 600 is_)] := hD.sub [0, 1, 2, 3, 4, 5, 6, 7, 8] (by decide) rfl
                        exact ih _ (by omega) (i + 1) fa9 fp9 ls _ _ rfl (fun _ => hz3) (by omega) (by omega) (fun _ => by exact fun j h1 h2 => by by_cases ej : j = i; (rw [ej]; exact ⟨px, epx, hpx, hT76.1⟩); (exact hz4 j h1 (by omega))) (lv_sub hl [0, 6, 7] rfl) hP hD hS
                      · refine lv_aload_n hx hb d_Mod_checkHandlers_127 rfl (lv_at hl 6 rfl) ?_
                        refine lv_iload hx hb d_Mod_checkHandlers_128 (lv_at hl 0 rfl) ?_
                        refine lv_bipush (v := 7) hx hb d_Mod_checkHandlers_130 (by decide) ?_
                        refine tw_si (tw_runV (ws := [(h0, .inr (10, mob q rf n mm mb fa9 fp9 av ev wi mn tp tc sc nf fd me mp xn mt wh tq ag an ig)), ((q 2), aI g 600 bs), ((q 14), aI g 620 tg), ((q 34), aI g 160 bg), ((q 35), aI g 160 ln), ((q 36), aI g 160 xf), ((q 37), aI g 160 xt), ((q 39), aI g 160 xp), ((q 40), aZ g 600 is_)]) (wc := [(h0, .inr (10, mob q rf n mm mb fa9 fp9 av ev wi mn tp tc sc nf fd me mp xn mt wh tq ag an ig)), ((q 14), aI g 620 tg)]) (As := [.int (nI (t2 bs (px + 6))), .int 7]) (rest := []) E hB hK hZ (g_Mod_isTagN l g H.size h0 q rf n mm mb fa9 fp9 av ev wi mn tp tc sc nf fd me mp xn mt wh tq ag an ig tg (t2 bs (px + 6)) 7 (by omega) (by omega)) mc_Mod_isTag mi_Mod_isTag me_Mod_isTag wd_1508 hP hD hS hA [0, 2] rfl (by decide) 0 rfl rfl rfl rfl rfl (by decide) rfl hl.1 rfl (Nat.le_of_ble_eq_true rfl) (by decide) d_Mod_checkHandlers_132) (fun r28 hr28 => ?_)
                        have hB28 := hr28
                        refine lv_if_ne (tgt := 145) hx hb d_Mod_checkHandlers_135 (by decide) (fun h135 => ?_) (fun h135 => ?_)
                        · have hT135 := hB28.2 (hB28.1.resolve_left h135)
                          refine lv_iinc (k := 5) (v := nI (i + 1)) hx hb d_Mod_checkHandlers_145 hl rfl ((nI_succ i).symm) (by decide) rfl (fun ls hl => ?_)
                          have hl : lv_has ls 8 [(2, .int (nI (i + 1))), (7, .int (nI (t2 bs (px + 6)))), (6, .int 1), (5, .int (nI (t2 bs (px + 2)))), (4, .int (nI (t2 bs px))), (3, .int (nI px)), (0, .ref h0), (1, .int (nI mi))] := hl
                          refine lv_goto (tgt := 7) hx hb d_Mod_checkHandlers_148 (by decide) ?_
                          have hP : va_P g.1 classes [(h0, .inr (10, mob q rf n mm mb fa9 fp9 av ev wi mn tp tc sc nf fd me mp xn mt wh tq ag an ig)), ((q 2), aI g 600 bs), ((q 14), aI g 620 tg), ((q 34), aI g 160 bg), ((q 35), aI g 160 ln), ((q 36), aI g 160 xf), ((q 37), aI g 160 xt), ((q 39), aI g 160 xp), ((q 40), aZ g 600 is_)] H := hP.sub [0, 1, 2, 3, 4, 5, 6, 7, 8] rfl
                          have hD : va_D A [(h0, .inr (10, mob q rf n mm mb fa9 fp9 av ev wi mn tp tc sc nf fd me mp xn mt wh tq ag an ig)), ((q 2), aI g 600 bs), ((q 14), aI g 620 tg), ((q 34), aI g 160 bg), ((q 35), aI g 160 ln), ((q 36), aI g 160 xf), ((q 37), aI g 160 xt), ((q 39), aI g 160 xp), ((q 40), aZ g 600 is_)] := hD.sub [0, 1, 2, 3, 4, 5, 6, 7, 8] (by decide) rfl
                          exact ih _ (by omega) (i + 1) fa9 fp9 ls _ _ rfl (fun _ => hz3) (by omega) (by omega) (fun _ => by exact fun j h1 h2 => by by_cases ej : j = i; (rw [ej]; exact ⟨px, epx, hpx, hT76.1⟩); (exact hz4 j h1 (by omega))) (lv_sub hl [0, 6, 7] rfl) hP hD hS
                        · refine lv_aload_n hx hb d_Mod_checkHandlers_138 rfl (lv_at hl 6 rfl) ?_
                          refine lv_bipush (v := 20) hx hb d_Mod_checkHandlers_139 (by decide) ?_
                          refine lv_iload_n hx hb d_Mod_checkHandlers_141 rfl (lv_at hl 4 rfl) ?_
                          refine tw_wv (wr := [((q 2), aI g 600 bs), ((q 14), aI g 620 tg), ((q 34), aI g 160 bg), ((q 35), aI g 160 ln), ((q 36), aI g 160 xf), ((q 37), aI g 160 xt), ((q 39), aI g 160 xp), ((q 40), aZ g 600 is_)]) (tw_runV (ws := [(h0, .inr (10, mob q rf n mm mb fa9 fp9 av ev wi mn tp tc sc nf fd me mp xn mt wh tq ag an ig)), ((q 2), aI g 600 bs), ((q 14), aI g 620 tg), ((q 34), aI g 160 bg), ((q 35), aI g 160 ln), ((q 36), aI g 160 xf), ((q 37), aI g 160 xt), ((q 39), aI g 160 xp), ((q 40), aZ g 600 is_)]) (wc := [(h0, .inr (10, mob q rf n mm mb fa9 fp9 av ev wi mn tp tc sc nf fd me mp xn mt wh tq ag an ig))]) (As := [.int 20, .int (nI px)]) (rest := []) E hB hK hZ (g_Mod_fail l g H.size h0 q rf n mm mb av ev wi mn tp tc sc nf fd me mp xn mt wh tq ag an ig fa9 fp9 20 (nI px) (by decide)) mc_Mod_fail mi_Mod_fail me_Mod_fail wd_1478 hP hD hS hA [0] rfl (by decide) 0 rfl rfl rfl rfl rfl (by decide) rfl hl.1 rfl (Nat.le_of_ble_eq_true rfl) (by decide) d_Mod_checkHandlers_142) hP hD hS hA [0] [1, 2, 3, 4, 5, 6, 7, 8] rfl rfl (by decide) (by decide) (fun u30 H locs hr29 hP hD hS => ?_)
                          try dsimp only at hr29
                          have hP : va_P g.1 classes [((q 2), aI g 600 bs), ((q 14), aI g 620 tg), ((q 34), aI g 160 bg), ((q 35), aI g 160 ln), ((q 36), aI g 160 xf), ((q 37), aI g 160 xt), ((q 39), aI g 160 xp), ((q 40), aZ g 600 is_), (h0, .inr (10, mob q rf n mm mb u30.1 u30.2 av ev wi mn tp tc sc nf fd me mp xn mt wh tq ag an ig))] H := hP
                          have hD : va_D A [((q 2), aI g 600 bs), ((q 14), aI g 620 tg), ((q 34), aI g 160 bg), ((q 35), aI g 160 ln), ((q 36), aI g 160 xf), ((q 37), aI g 160 xt), ((q 39), aI g 160 xp), ((q 40), aZ g 600 is_), (h0, .inr (10, mob q rf n mm mb u30.1 u30.2 av ev wi mn tp tc sc nf fd me mp xn mt wh tq ag an ig))] := hD
                          have hP : va_P g.1 classes [(h0, .inr (10, mob q rf n mm mb u30.1 u30.2 av ev wi mn tp tc sc nf fd me mp xn mt wh tq ag an ig)), ((q 2), aI g 600 bs), ((q 14), aI g 620 tg), ((q 34), aI g 160 bg), ((q 35), aI g 160 ln), ((q 36), aI g 160 xf), ((q 37), aI g 160 xt), ((q 39), aI g 160 xp), ((q 40), aZ g 600 is_)] H := hP.sub [8, 0, 1, 2, 3, 4, 5, 6, 7] rfl
                          have hD : va_D A [(h0, .inr (10, mob q rf n mm mb u30.1 u30.2 av ev wi mn tp tc sc nf fd me mp xn mt wh tq ag an ig)), ((q 2), aI g 600 bs), ((q 14), aI g 620 tg), ((q 34), aI g 160 bg), ((q 35), aI g 160 ln), ((q 36), aI g 160 xf), ((q 37), aI g 160 xt), ((q 39), aI g 160 xp), ((q 40), aZ g 600 is_)] := hD.sub [8, 0, 1, 2, 3, 4, 5, 6, 7] (by decide) rfl
                          have hp30_0 := hr29
                          refine lv_iinc (k := 5) (v := nI (i + 1)) hx hb d_Mod_checkHandlers_145 hl rfl ((nI_succ i).symm) (by decide) rfl (fun ls hl => ?_)
                          have hl : lv_has ls 8 [(2, .int (nI (i + 1))), (7, .int (nI (t2 bs (px + 6)))), (6, .int 1), (5, .int (nI (t2 bs (px + 2)))), (4, .int (nI (t2 bs px))), (3, .int (nI px)), (0, .ref h0), (1, .int (nI mi))] := hl
                          refine lv_goto (tgt := 7) hx hb d_Mod_checkHandlers_148 (by decide) ?_
                          have hP : va_P g.1 classes [(h0, .inr (10, mob q rf n mm mb u30.1 u30.2 av ev wi mn tp tc sc nf fd me mp xn mt wh tq ag an ig)), ((q 2), aI g 600 bs), ((q 14), aI g 620 tg), ((q 34), aI g 160 bg), ((q 35), aI g 160 ln), ((q 36), aI g 160 xf), ((q 37), aI g 160 xt), ((q 39), aI g 160 xp), ((q 40), aZ g 600 is_)] H := hP.sub [0, 1, 2, 3, 4, 5, 6, 7, 8] rfl
                          have hD : va_D A [(h0, .inr (10, mob q rf n mm mb u30.1 u30.2 av ev wi mn tp tc sc nf fd me mp xn mt wh tq ag an ig)), ((q 2), aI g 600 bs), ((q 14), aI g 620 tg), ((q 34), aI g 160 bg), ((q 35), aI g 160 ln), ((q 36), aI g 160 xf), ((q 37), aI g 160 xt), ((q 39), aI g 160 xp), ((q 40), aZ g 600 is_)] := hD.sub [0, 1, 2, 3, 4, 5, 6, 7, 8] (by decide) rfl
                          exact ih _ (by omega) (i + 1) u30.1 u30.2 ls _ _ rfl (fun h => absurd h hp30_0) (by omega) (by omega) (fun h => absurd h hp30_0) (lv_sub hl [0, 6, 7] rfl) hP hD hS
  exact loop7 _ x1 fa fp ls _ _ rfl (fun h => h) (by omega) (Nat.le_refl _) (fun _ j h1 h2 => absurd h2 (by omega)) (lv_sub hl [0, 1, 2] rfl) hP hD hS
set_option maxHeartbeats 4000000 in
set_option maxRecDepth 100000 in
theorem g_Mod_readTypes (l : Launch) (g : tw_G) (sz : Nat) (h0 : Nat) (q : Nat → Nat) (rf : Int32) (n : Nat) (mm : Int32) (mb : Int32) (fa : Int32) (fp : Int32) (av : Nat) (ev : Nat) (wi : Int32) (mn : Nat) (tp : Int32) (tc : Int32) (sc : Int32) (nf : Nat) (fd : Nat) (me : Nat) (mp : Int32) (xn : Nat) (mt : Nat) (wh : Nat) (tq : Nat) (ig : Int32) (bs : Nat → Int32) (on : Nat → Int32) (tw : Nat → Int32) (ag : Nat) (an : Int32) (ak : Nat → Int32) (kt : Nat) (p1 l1 : Nat) (k6kt : kt < 620) (q1kt : on kt = nI p1) (q2kt : tw kt = nI l1) (q3kt : p1 + l1 ≤ 600) (hMT : MTY bs p1 (p1 + l1)) : Met l y_Mod_readTypes [.code y_Mod_readTypes b_Mod_readTypes 4 none] ({ frames := 4, cells := 0, slots := 0, locals := 94 }) (tw_P g [.ref h0, .int (nI kt)] [(h0, .inr (10, mob q rf n mm mb fa fp av ev wi mn tp tc sc nf fd me mp xn mt wh tq ag an ig)), ((q 2), aI g 600 bs), ((q 16), aI g 620 on), ((q 17), aI g 620 tw), ((q 50), aI g 600 ak)] sz) (tw_Qv g (fun (u : Nat × Int32 × (Nat → Int32)) => (u.1 ≤ 600) ∧ (∀ j, j < u.1 → KND (u.2.2 j)) ∧ (KND u.2.1)) (fun u : Nat × Int32 × (Nat → Int32) => [(h0, .inr (10, mob q rf n mm mb fa fp av ev wi mn tp tc sc nf fd me mp xn mt wh tq u.1 u.2.1 ig)), ((q 2), aI g 600 bs), ((q 16), aI g 620 on), ((q 17), aI g 620 tw), ((q 50), aI g 600 u.2.2)]) (va_A [(h0, .inr (10, mob q rf n mm mb fa fp av ev wi mn tp tc sc nf fd me mp xn mt wh tq ag an ig)), ((q 2), aI g 600 bs), ((q 16), aI g 620 on), ((q 17), aI g 620 tw), ((q 50), aI g 600 ak)] sz)) 0 0 (va_A [(h0, .inr (10, mob q rf n mm mb fa fp av ev wi mn tp tc sc nf fd me mp xn mt wh tq ag an ig)), ((q 2), aI g 600 bs), ((q 16), aI g 620 on), ((q 17), aI g 620 tw), ((q 50), aI g 600 ak)] sz) := by
  refine tw_metW (l := l) (g := g) (y := y_Mod_readTypes) (cc := b_Mod_readTypes) (maxL := 4) (ret := none) (rm := { frames := 4, cells := 0, slots := 0, locals := 94 }) (mc := 0) (ms := 0) (av := [.ref h0, .int (nI kt)]) (ws := [(h0, .inr (10, mob q rf n mm mb fa fp av ev wi mn tp tc sc nf fd me mp xn mt wh tq ag an ig)), ((q 2), aI g 600 bs), ((q 16), aI g 620 on), ((q 17), aI g 620 tw), ((q 50), aI g 600 ak)]) (sz := sz) (Qc := fun A => (tw_Qv g (fun (u : Nat × Int32 × (Nat → Int32)) => (u.1 ≤ 600) ∧ (∀ j, j < u.1 → KND (u.2.2 j)) ∧ (KND u.2.1)) (fun u : Nat × Int32 × (Nat → Int32) => [(h0, .inr (10, mob q rf n mm mb fa fp av ev wi mn tp tc sc nf fd me mp xn mt wh tq u.1 u.2.1 ig)), ((q 2), aI g 600 bs), ((q 16), aI g 620 on), ((q 17), aI g 620 tw), ((q 50), aI g 600 u.2.2)]) A)) (by decide) (Nat.le_of_ble_eq_true rfl) ?_
  intro p e s m below meth c ls H A E hB hK hZ hP hD hS hA hl
  obtain ⟨hx, hb, hml, hr, hown, hts, hlocks, hin⟩ := id E
  have hl : lv_has ls 4 [(0, .ref h0), (1, .int (nI kt))] := hl
  refine lv_aload_n hx hb d_Mod_readTypes_0 rfl (lv_at hl 0 rfl) ?_
  refine lv_iconst (v := 0) hx hb d_Mod_readTypes_1 (by decide) ?_
  refine va_put (D := g.1) (ci := 10) (v := .int 0) (ty := .int) (C := R_Mod) (T := F_Mod) (N := 61) hx hb hts in_Mod t_Mod t_Mod_ok n_Mod hown hK hP hD hS 0 rfl rfl 49 (by decide) (hts _ wd_1299) (fun _ h9 => h9) rfl (t_Mod_ok 49 (by decide)) rfl rfl (Nat.le_of_ble_eq_true rfl) d_Mod_readTypes_2 (fun H locs hP hD hS => ?_)
  have hP : va_P g.1 classes [(h0, .inr (10, mob q rf n mm mb fa fp av ev wi mn tp tc sc nf fd me mp xn mt wh tq 0 an ig)), ((q 2), aI g 600 bs), ((q 16), aI g 620 on), ((q 17), aI g 620 tw), ((q 50), aI g 600 ak)] H := hP
  have hD : va_D A [(h0, .inr (10, mob q rf n mm mb fa fp av ev wi mn tp tc sc nf fd me mp xn mt wh tq 0 an ig)), ((q 2), aI g 600 bs), ((q 16), aI g 620 on), ((q 17), aI g 620 tw), ((q 50), aI g 600 ak)] := hD
  refine lv_aload_n hx hb d_Mod_readTypes_5 rfl (lv_at hl 0 rfl) ?_
  refine lv_iload_n hx hb d_Mod_readTypes_6 rfl (lv_at hl 1 rfl) ?_
  refine tw_si (tw_runV (ws := [(h0, .inr (10, mob q rf n mm mb fa fp av ev wi mn tp tc sc nf fd me mp xn mt wh tq 0 an ig)), ((q 2), aI g 600 bs), ((q 16), aI g 620 on), ((q 17), aI g 620 tw), ((q 50), aI g 600 ak)]) (wc := [(h0, .inr (10, mob q rf n mm mb fa fp av ev wi mn tp tc sc nf fd me mp xn mt wh tq 0 an ig)), ((q 16), aI g 620 on), ((q 17), aI g 620 tw)]) (As := [.int (nI kt)]) (rest := []) E hB hK hZ (g_Mod_endOf l g H.size h0 q rf n mm mb fa fp av ev wi mn tp tc sc nf fd me mp xn mt wh tq 0 an ig on tw kt p1 l1 (by omega) q1kt q2kt q3kt) mc_Mod_endOf mi_Mod_endOf me_Mod_endOf wd_1536 hP hD hS hA [0, 2, 3] rfl (by decide) 0 rfl rfl rfl rfl rfl (by decide) rfl hl.1 rfl (Nat.le_of_ble_eq_true rfl) (by decide) d_Mod_readTypes_7) (fun r1 hr1 => ?_)
  have hB1 := hr1
  subst hB1
  refine lv_istore_n hx hb d_Mod_readTypes_10 rfl hl (by decide) rfl (fun ls hl => ?_)
  have hl : lv_has ls 4 [(2, .int (nI (p1 + l1))), (0, .ref h0), (1, .int (nI kt))] := hl
  refine lv_aload_n hx hb d_Mod_readTypes_11 rfl (lv_at hl 1 rfl) ?_
  refine va_get (D := g.1) (ci := 10) (v := .ref (q 16)) (C := R_Mod) (T := F_Mod) (N := 61) hx hb hts in_Mod hown hK hP 0 rfl rfl 16 (by decide) (hts _ wd_1266) (fun _ h9 => h9) rfl d_Mod_readTypes_12 ?_
  refine lv_iload_n hx hb d_Mod_readTypes_15 rfl (lv_at hl 2 rfl) ?_
  refine va_iald hx hb hK hP 2 0 rfl rfl (vp_in_nI (by omega) (by decide)) d_Mod_readTypes_16 ?_
  refine tw_ri (e2 := nI p1) (by rw [nI_clamp (by omega)]; exact q1kt) ?_
  refine lv_iconst (v := 1) hx hb d_Mod_readTypes_17 (by decide) ?_
  refine lv_iadd hx hb d_Mod_readTypes_18 ?_
  refine tw_ri (e2 := nI (p1 + 1)) (nI_add p1 1) ?_
  refine lv_istore_n hx hb d_Mod_readTypes_19 rfl hl (by decide) rfl (fun ls hl => ?_)
  have hl : lv_has ls 4 [(3, .int (nI (p1 + 1))), (2, .int (nI (p1 + l1))), (0, .ref h0), (1, .int (nI kt))] := hl
  have loop20 : ∀ (kq : Nat) (k : Nat) (ag9 : Nat) (ak9 : Nat → Int32) (ls : Array Slot) (H : Heap) (locs : List Loc) , p1 + l1 - k = kq → (hMX : MTX bs (p1 + l1) k) → (hak : ag9 ≤ k) → (hkk : ∀ j, j < ag9 → KND (ak9 j)) → lv_has ls 4 [(3, .int (nI k)), (2, .int (nI (p1 + l1))), (0, .ref h0), (1, .int (nI kt))] → va_P g.1 classes [(h0, .inr (10, mob q rf n mm mb fa fp av ev wi mn tp tc sc nf fd me mp xn mt wh tq ag9 an ig)), ((q 2), aI g 600 bs), ((q 16), aI g 620 on), ((q 17), aI g 620 tw), ((q 50), aI g 600 ak9)] H → va_D A [(h0, .inr (10, mob q rf n mm mb fa fp av ev wi mn tp tc sc nf fd me mp xn mt wh tq ag9 an ig)), ((q 2), aI g 600 bs), ((q 16), aI g 620 on), ((q 17), aI g 620 tw), ((q 50), aI g 600 ak9)] → va_S A s.heap H locs → W p l e ({ frames := 4, cells := 0, slots := 0, locals := 94 }) s m [.ref h0, .int (nI kt)].toArray below meth c H locs 0 0 (MQ below (tw_Qv g (fun (u : Nat × Int32 × (Nat → Int32)) => (u.1 ≤ 600) ∧ (∀ j, j < u.1 → KND (u.2.2 j)) ∧ (KND u.2.1)) (fun u : Nat × Int32 × (Nat → Int32) => [(h0, .inr (10, mob q rf n mm mb fa fp av ev wi mn tp tc sc nf fd me mp xn mt wh tq u.1 u.2.1 ig)), ((q 2), aI g 600 bs), ((q 16), aI g 620 on), ((q 17), aI g 620 tw), ((q 50), aI g 600 u.2.2)]) A) [.ref h0, .int (nI kt)].toArray s 0 0 A) (F0 m 20 ls []) := by
    intro kq
    induction kq using Nat.strongRecOn with
    | _ kq ih =>
      intro k ag9 ak9 ls H locs hk hMX hak hkk hl hP hD hS
      obtain ⟨f9, hf9⟩ := hMX
      have hky := mtc_lt hf9
      refine lv_aload_n hx hb d_Mod_readTypes_20 rfl (lv_at hl 2 rfl) ?_
      refine va_get (D := g.1) (ci := 10) (v := .ref (q 2)) (C := R_Mod) (T := F_Mod) (N := 61) hx hb hts in_Mod hown hK hP 0 rfl rfl 2 (by decide) (hts _ wd_1252) (fun _ h9 => h9) rfl d_Mod_readTypes_21 ?_
      refine lv_iload_n hx hb d_Mod_readTypes_24 rfl (lv_at hl 0 rfl) ?_
      refine va_iald hx hb hK hP 1 0 rfl rfl (vp_in_nI (by omega) (by decide)) d_Mod_readTypes_25 ?_
      refine tw_ri (e2 := bs k) (by rw [nI_clamp (by omega)]) ?_
      refine lv_bipush (v := 41) hx hb d_Mod_readTypes_26 (by decide) ?_
      refine lv_icmp_eq (tgt := 65) hx hb d_Mod_readTypes_28 (by decide) (fun h28 => ?_) (fun h28 => ?_)
      · have hke := mtc_end hf9 h28
        refine lv_aload_n hx hb d_Mod_readTypes_65 rfl (lv_at hl 2 rfl) ?_
        refine lv_aload_n hx hb d_Mod_readTypes_66 rfl (lv_at hl 2 rfl) ?_
        refine lv_iload_n hx hb d_Mod_readTypes_67 rfl (lv_at hl 0 rfl) ?_
        refine lv_iconst (v := 1) hx hb d_Mod_readTypes_68 (by decide) ?_
        refine lv_iadd hx hb d_Mod_readTypes_69 ?_
        refine tw_ri (e2 := nI (k + 1)) (nI_add k 1) ?_
        refine tw_si (tw_runV (ws := [(h0, .inr (10, mob q rf n mm mb fa fp av ev wi mn tp tc sc nf fd me mp xn mt wh tq ag9 an ig)), ((q 2), aI g 600 bs), ((q 16), aI g 620 on), ((q 17), aI g 620 tw), ((q 50), aI g 600 ak9)]) (wc := [(h0, .inr (10, mob q rf n mm mb fa fp av ev wi mn tp tc sc nf fd me mp xn mt wh tq ag9 an ig)), ((q 2), aI g 600 bs)]) (As := [.int (nI (k + 1))]) (rest := [.ref h0]) E hB hK hZ (g_Mod_kindAt l g H.size h0 q rf n mm mb fa fp av ev wi mn tp tc sc nf fd me mp xn mt wh tq ag9 an ig bs (k + 1) (by omega)) mc_Mod_kindAt mi_Mod_kindAt me_Mod_kindAt wd_1632 hP hD hS hA [0, 1] rfl (by decide) 0 rfl rfl rfl rfl rfl (by decide) rfl hl.1 rfl (Nat.le_of_ble_eq_true rfl) (by decide) d_Mod_readTypes_70) (fun r2 hr2 => ?_)
        have hB2 := hr2
        refine va_put (D := g.1) (ci := 10) (v := .int r2) (ty := .int) (C := R_Mod) (T := F_Mod) (N := 61) hx hb hts in_Mod t_Mod t_Mod_ok n_Mod hown hK hP hD hS 0 rfl rfl 51 (by decide) (hts _ wd_1301) (fun _ h9 => h9) rfl (t_Mod_ok 51 (by decide)) rfl rfl (Nat.le_of_ble_eq_true rfl) d_Mod_readTypes_73 (fun H locs hP hD hS => ?_)
        have hP : va_P g.1 classes [(h0, .inr (10, mob q rf n mm mb fa fp av ev wi mn tp tc sc nf fd me mp xn mt wh tq ag9 r2 ig)), ((q 2), aI g 600 bs), ((q 16), aI g 620 on), ((q 17), aI g 620 tw), ((q 50), aI g 600 ak9)] H := hP
        have hD : va_D A [(h0, .inr (10, mob q rf n mm mb fa fp av ev wi mn tp tc sc nf fd me mp xn mt wh tq ag9 r2 ig)), ((q 2), aI g 600 bs), ((q 16), aI g 620 on), ((q 17), aI g 620 tw), ((q 50), aI g 600 ak9)] := hD
        exact tw_vret E hS (ag9, r2, ak9) (⟨(by first | omega | (dsimp only <;> omega)), hkk, hB2⟩) hP hD d_Mod_readTypes_76
      · obtain ⟨rr, hrt, hr1, hr2, hrm⟩ := mtc_next hf9 h28
        refine lv_aload_n hx hb d_Mod_readTypes_31 rfl (lv_at hl 2 rfl) ?_
        refine va_get (D := g.1) (ci := 10) (v := .ref (q 50)) (C := R_Mod) (T := F_Mod) (N := 61) hx hb hts in_Mod hown hK hP 0 rfl rfl 50 (by decide) (hts _ wd_1300) (fun _ h9 => h9) rfl d_Mod_readTypes_32 ?_
        refine lv_aload_n hx hb d_Mod_readTypes_35 rfl (lv_at hl 2 rfl) ?_
        refine va_get (D := g.1) (ci := 10) (v := .int (nI ag9)) (C := R_Mod) (T := F_Mod) (N := 61) hx hb hts in_Mod hown hK hP 0 rfl rfl 49 (by decide) (hts _ wd_1299) (fun _ h9 => h9) rfl d_Mod_readTypes_36 ?_
        refine lv_aload_n hx hb d_Mod_readTypes_39 rfl (lv_at hl 2 rfl) ?_
        refine lv_iload_n hx hb d_Mod_readTypes_40 rfl (lv_at hl 0 rfl) ?_
        refine tw_si (tw_runV (ws := [(h0, .inr (10, mob q rf n mm mb fa fp av ev wi mn tp tc sc nf fd me mp xn mt wh tq ag9 an ig)), ((q 2), aI g 600 bs), ((q 16), aI g 620 on), ((q 17), aI g 620 tw), ((q 50), aI g 600 ak9)]) (wc := [(h0, .inr (10, mob q rf n mm mb fa fp av ev wi mn tp tc sc nf fd me mp xn mt wh tq ag9 an ig)), ((q 2), aI g 600 bs)]) (As := [.int (nI k)]) (rest := [.int (nI ag9), .ref (q 50)]) E hB hK hZ (g_Mod_kindAt l g H.size h0 q rf n mm mb fa fp av ev wi mn tp tc sc nf fd me mp xn mt wh tq ag9 an ig bs k (by omega)) mc_Mod_kindAt mi_Mod_kindAt me_Mod_kindAt wd_1632 hP hD hS hA [0, 1] rfl (by decide) 0 rfl rfl rfl rfl rfl (by decide) rfl hl.1 rfl (Nat.le_of_ble_eq_true rfl) (by decide) d_Mod_readTypes_41) (fun r3 hr3 => ?_)
        have hB3 := hr3
        refine va_iast hx hb hK hP hD hS 4 0 rfl rfl (vp_in_nI (by omega) (by decide)) d_Mod_readTypes_44 (fun H locs hP hD hS => ?_)
        have hP : va_P g.1 classes [(h0, .inr (10, mob q rf n mm mb fa fp av ev wi mn tp tc sc nf fd me mp xn mt wh tq ag9 an ig)), ((q 2), aI g 600 bs), ((q 16), aI g 620 on), ((q 17), aI g 620 tw), ((q 50), aI g 600 (upd ak9 (nI ag9).toNatClampNeg r3))] H := hP
        have hD : va_D A [(h0, .inr (10, mob q rf n mm mb fa fp av ev wi mn tp tc sc nf fd me mp xn mt wh tq ag9 an ig)), ((q 2), aI g 600 bs), ((q 16), aI g 620 on), ((q 17), aI g 620 tw), ((q 50), aI g 600 (upd ak9 (nI ag9).toNatClampNeg r3))] := hD
        have e9 : upd ak9 (nI ag9).toNatClampNeg r3 = upd ak9 ag9 r3 := by rw [nI_clamp (by omega)]
        rw [e9] at hP hD
        refine lv_aload_n hx hb d_Mod_readTypes_45 rfl (lv_at hl 2 rfl) ?_
        refine lv_dup hx hb d_Mod_readTypes_46 rfl ?_
        refine va_get (D := g.1) (ci := 10) (v := .int (nI ag9)) (C := R_Mod) (T := F_Mod) (N := 61) hx hb hts in_Mod hown hK hP 0 rfl rfl 49 (by decide) (hts _ wd_1299) (fun _ h9 => h9) rfl d_Mod_readTypes_47 ?_
        refine lv_iconst (v := 1) hx hb d_Mod_readTypes_50 (by decide) ?_
        refine lv_iadd hx hb d_Mod_readTypes_51 ?_
        refine tw_ri (e2 := nI (ag9 + 1)) (nI_add ag9 1) ?_
        refine va_put (D := g.1) (ci := 10) (v := .int (nI (ag9 + 1))) (ty := .int) (C := R_Mod) (T := F_Mod) (N := 61) hx hb hts in_Mod t_Mod t_Mod_ok n_Mod hown hK hP hD hS 0 rfl rfl 49 (by decide) (hts _ wd_1299) (fun _ h9 => h9) rfl (t_Mod_ok 49 (by decide)) rfl rfl (Nat.le_of_ble_eq_true rfl) d_Mod_readTypes_52 (fun H locs hP hD hS => ?_)
        have hP : va_P g.1 classes [(h0, .inr (10, mob q rf n mm mb fa fp av ev wi mn tp tc sc nf fd me mp xn mt wh tq (ag9 + 1) an ig)), ((q 2), aI g 600 bs), ((q 16), aI g 620 on), ((q 17), aI g 620 tw), ((q 50), aI g 600 (upd ak9 ag9 r3))] H := hP
        have hD : va_D A [(h0, .inr (10, mob q rf n mm mb fa fp av ev wi mn tp tc sc nf fd me mp xn mt wh tq (ag9 + 1) an ig)), ((q 2), aI g 600 bs), ((q 16), aI g 620 on), ((q 17), aI g 620 tw), ((q 50), aI g 600 (upd ak9 ag9 r3))] := hD
        refine lv_aload_n hx hb d_Mod_readTypes_55 rfl (lv_at hl 2 rfl) ?_
        refine lv_iload_n hx hb d_Mod_readTypes_56 rfl (lv_at hl 0 rfl) ?_
        refine lv_iload_n hx hb d_Mod_readTypes_57 rfl (lv_at hl 1 rfl) ?_
        refine tw_si (tw_runV (ws := [(h0, .inr (10, mob q rf n mm mb fa fp av ev wi mn tp tc sc nf fd me mp xn mt wh tq (ag9 + 1) an ig)), ((q 2), aI g 600 bs), ((q 16), aI g 620 on), ((q 17), aI g 620 tw), ((q 50), aI g 600 (upd ak9 ag9 r3))]) (wc := [(h0, .inr (10, mob q rf n mm mb fa fp av ev wi mn tp tc sc nf fd me mp xn mt wh tq (ag9 + 1) an ig)), ((q 2), aI g 600 bs)]) (As := [.int (nI k), .int (nI (p1 + l1))]) (rest := []) E hB hK hZ (g_Mod_typeEnd l g H.size h0 q rf n mm mb fa fp av ev wi mn tp tc sc nf fd me mp xn mt wh tq (ag9 + 1) an ig bs k (p1 + l1) (by omega) (by omega)) mc_Mod_typeEnd mi_Mod_typeEnd me_Mod_typeEnd wd_1559 hP hD hS hA [0, 1] rfl (by decide) 0 rfl rfl rfl rfl rfl (by decide) rfl hl.1 rfl (Nat.le_of_ble_eq_true rfl) (by decide) d_Mod_readTypes_58) (fun r4 hr4 => ?_)
        have hB4 := hr4
        have hrr : r4 = nI rr := hB4.trans hrt
        subst hrr
        refine lv_istore_n hx hb d_Mod_readTypes_61 rfl hl (by decide) rfl (fun ls hl => ?_)
        have hl : lv_has ls 4 [(3, .int (nI rr)), (2, .int (nI (p1 + l1))), (0, .ref h0), (1, .int (nI kt))] := hl
        refine lv_goto (tgt := 20) hx hb d_Mod_readTypes_62 (by decide) ?_
        have hP : va_P g.1 classes [(h0, .inr (10, mob q rf n mm mb fa fp av ev wi mn tp tc sc nf fd me mp xn mt wh tq (ag9 + 1) an ig)), ((q 2), aI g 600 bs), ((q 16), aI g 620 on), ((q 17), aI g 620 tw), ((q 50), aI g 600 (upd ak9 ag9 r3))] H := hP.sub [0, 1, 2, 3, 4] rfl
        have hD : va_D A [(h0, .inr (10, mob q rf n mm mb fa fp av ev wi mn tp tc sc nf fd me mp xn mt wh tq (ag9 + 1) an ig)), ((q 2), aI g 600 bs), ((q 16), aI g 620 on), ((q 17), aI g 620 tw), ((q 50), aI g 600 (upd ak9 ag9 r3))] := hD.sub [0, 1, 2, 3, 4] (by decide) rfl
        exact ih _ (by omega) rr (ag9 + 1) (upd ak9 ag9 r3) ls _ _ rfl hrm (by omega) (kn_put hkk hB3) (lv_sub hl [0, 1, 2, 3] rfl) hP hD hS
  exact loop20 _ (p1 + 1) 0 ak ls _ _ rfl hMT.2 (Nat.zero_le _) (fun j h => absurd h (Nat.not_lt_zero j)) (hl) hP hD hS
end
section
/-! The reference's machine: neither the first LOCAL nor the lowest of the stack is an H. -/
def NOW (nw : Nat → Int32) : Prop := ¬ nw 0 = 3 ∧ ¬ nw 64 = 3
theorem nw_two {nw : Nat → Int32} {t : Nat} (h : NOW nw) (h0 : t ≠ 0) (h3 : nw (64 + t - 1) = 3) : 2 ≤ t := by
  by_cases e : t = 1
  · subst e; exact absurd h3 h.2
  · omega
theorem NOW.put {nw : Nat → Int32} {i : Nat} {x : Int32} (h : NOW nw) (hx : ¬ x = 3) : NOW (upd nw i x) := by
  constructor
  · by_cases e : 0 = i
    · simp only [upd, if_pos e]; exact hx
    · simp only [upd, if_neg e]; exact h.1
  · by_cases e : 64 = i
    · simp only [upd, if_pos e]; exact hx
    · simp only [upd, if_neg e]; exact h.2
theorem NOW.put2 {nw : Nat → Int32} {i : Nat} {x : Int32} (h : NOW nw) (h0 : i ≠ 0) (h64 : i ≠ 64) : NOW (upd nw i x) := by
  constructor
  · simp only [upd, if_neg (Ne.symm h0)]; exact h.1
  · simp only [upd, if_neg (Ne.symm h64)]; exact h.2
theorem nw_l0 {nw : Nat → Int32} {l : Nat} (h : NOW nw) (h3 : nw l = 3) : 1 ≤ l := by
  by_cases e : l = 0
  · subst e; exact absurd h3 h.1
  · omega
theorem kn3 {r : Int32} (h : KND r) : ¬ r = 3 := by
  rcases h with rfl | rfl | rfl | rfl | rfl | rfl <;> decide
end
section
theorem d_Mod_fetch_0 : decode b_Mod_fetch 0 = .ok (.aload_n 0, 1) := by decide +kernel
theorem d_Mod_fetch_1 : decode b_Mod_fetch 1 = .ok (.iload_n 1, 1) := by decide +kernel
theorem d_Mod_fetch_2 : decode b_Mod_fetch 2 = .ok (.iload_n 2, 1) := by decide +kernel
theorem d_Mod_fetch_3 : decode b_Mod_fetch 3 = .ok (.invokevirtual 318, 3) := by decide +kernel
theorem d_Mod_fetch_6 : decode b_Mod_fetch 6 = .ok (.aload_n 0, 1) := by decide +kernel
theorem d_Mod_fetch_7 : decode b_Mod_fetch 7 = .ok (.getfield 147, 3) := by decide +kernel
theorem d_Mod_fetch_10 : decode b_Mod_fetch 10 = .ok (.ifCond .ne 23, 3) := by decide +kernel
theorem d_Mod_fetch_13 : decode b_Mod_fetch 13 = .ok (.aload_n 0, 1) := by decide +kernel
theorem d_Mod_fetch_14 : decode b_Mod_fetch 14 = .ok (.getfield 100, 3) := by decide +kernel
theorem d_Mod_fetch_17 : decode b_Mod_fetch 17 = .ok (.iload_n 1, 1) := by decide +kernel
theorem d_Mod_fetch_18 : decode b_Mod_fetch 18 = .ok (.iaload, 1) := by decide +kernel
theorem d_Mod_fetch_19 : decode b_Mod_fetch 19 = .ok (.iload_n 2, 1) := by decide +kernel
theorem d_Mod_fetch_20 : decode b_Mod_fetch 20 = .ok (.if_icmp .eq 13, 3) := by decide +kernel
theorem d_Mod_fetch_23 : decode b_Mod_fetch 23 = .ok (.aload_n 0, 1) := by decide +kernel
theorem d_Mod_fetch_24 : decode b_Mod_fetch 24 = .ok (.bipush 23, 2) := by decide +kernel
theorem d_Mod_fetch_26 : decode b_Mod_fetch 26 = .ok (.aload_n 0, 1) := by decide +kernel
theorem d_Mod_fetch_27 : decode b_Mod_fetch 27 = .ok (.getfield 309, 3) := by decide +kernel
theorem d_Mod_fetch_30 : decode b_Mod_fetch 30 = .ok (.invokevirtual 159, 3) := by decide +kernel
theorem d_Mod_fetch_33 : decode b_Mod_fetch 33 = .ok (.aload_n 0, 1) := by decide +kernel
theorem d_Mod_fetch_34 : decode b_Mod_fetch 34 = .ok (.iload_n 2, 1) := by decide +kernel
theorem d_Mod_fetch_35 : decode b_Mod_fetch 35 = .ok (.invokevirtual 321, 3) := by decide +kernel
theorem d_Mod_fetch_38 : decode b_Mod_fetch 38 = .ok (.return_, 1) := by decide +kernel
theorem d_Mod_give_0 : decode b_Mod_give 0 = .ok (.aload_n 0, 1) := by decide +kernel
theorem d_Mod_give_1 : decode b_Mod_give 1 = .ok (.getfield 147, 3) := by decide +kernel
theorem d_Mod_give_4 : decode b_Mod_give 4 = .ok (.ifCond .eq 4, 3) := by decide +kernel
theorem d_Mod_give_7 : decode b_Mod_give 7 = .ok (.return_, 1) := by decide +kernel
theorem d_Mod_give_8 : decode b_Mod_give 8 = .ok (.iload_n 1, 1) := by decide +kernel
theorem d_Mod_give_9 : decode b_Mod_give 9 = .ok (.iconst 2, 1) := by decide +kernel
theorem d_Mod_give_10 : decode b_Mod_give 10 = .ok (.if_icmp .ne 7, 3) := by decide +kernel
theorem d_Mod_give_13 : decode b_Mod_give 13 = .ok (.iconst 2, 1) := by decide +kernel
theorem d_Mod_give_14 : decode b_Mod_give 14 = .ok (.goto 4, 3) := by decide +kernel
theorem d_Mod_give_17 : decode b_Mod_give 17 = .ok (.iconst 1, 1) := by decide +kernel
theorem d_Mod_give_18 : decode b_Mod_give 18 = .ok (.istore_n 2, 1) := by decide +kernel
theorem d_Mod_give_19 : decode b_Mod_give 19 = .ok (.iload_n 1, 1) := by decide +kernel
theorem d_Mod_give_20 : decode b_Mod_give 20 = .ok (.bipush 9, 2) := by decide +kernel
theorem d_Mod_give_22 : decode b_Mod_give 22 = .ok (.if_icmp .lt 16, 3) := by decide +kernel
theorem d_Mod_give_25 : decode b_Mod_give 25 = .ok (.aload_n 0, 1) := by decide +kernel
theorem d_Mod_give_26 : decode b_Mod_give 26 = .ok (.bipush 23, 2) := by decide +kernel
theorem d_Mod_give_28 : decode b_Mod_give 28 = .ok (.aload_n 0, 1) := by decide +kernel
theorem d_Mod_give_29 : decode b_Mod_give 29 = .ok (.getfield 309, 3) := by decide +kernel
theorem d_Mod_give_32 : decode b_Mod_give 32 = .ok (.invokevirtual 159, 3) := by decide +kernel
theorem d_Mod_give_35 : decode b_Mod_give 35 = .ok (.goto 77, 3) := by decide +kernel
theorem d_Mod_give_38 : decode b_Mod_give 38 = .ok (.aload_n 0, 1) := by decide +kernel
theorem d_Mod_give_39 : decode b_Mod_give 39 = .ok (.getfield 312, 3) := by decide +kernel
theorem d_Mod_give_42 : decode b_Mod_give 42 = .ok (.iload_n 2, 1) := by decide +kernel
theorem d_Mod_give_43 : decode b_Mod_give 43 = .ok (.iadd, 1) := by decide +kernel
theorem d_Mod_give_44 : decode b_Mod_give 44 = .ok (.aload_n 0, 1) := by decide +kernel
theorem d_Mod_give_45 : decode b_Mod_give 45 = .ok (.getfield 65, 3) := by decide +kernel
theorem d_Mod_give_48 : decode b_Mod_give 48 = .ok (.aload_n 0, 1) := by decide +kernel
theorem d_Mod_give_49 : decode b_Mod_give 49 = .ok (.getfield 315, 3) := by decide +kernel
theorem d_Mod_give_52 : decode b_Mod_give 52 = .ok (.iaload, 1) := by decide +kernel
theorem d_Mod_give_53 : decode b_Mod_give 53 = .ok (.if_icmp .le 16, 3) := by decide +kernel
theorem d_Mod_give_56 : decode b_Mod_give 56 = .ok (.aload_n 0, 1) := by decide +kernel
theorem d_Mod_give_57 : decode b_Mod_give 57 = .ok (.bipush 22, 2) := by decide +kernel
theorem d_Mod_give_59 : decode b_Mod_give 59 = .ok (.aload_n 0, 1) := by decide +kernel
theorem d_Mod_give_60 : decode b_Mod_give 60 = .ok (.getfield 309, 3) := by decide +kernel
theorem d_Mod_give_63 : decode b_Mod_give 63 = .ok (.invokevirtual 159, 3) := by decide +kernel
theorem d_Mod_give_66 : decode b_Mod_give 66 = .ok (.goto 46, 3) := by decide +kernel
theorem d_Mod_give_69 : decode b_Mod_give 69 = .ok (.aload_n 0, 1) := by decide +kernel
theorem d_Mod_give_70 : decode b_Mod_give 70 = .ok (.getfield 100, 3) := by decide +kernel
theorem d_Mod_give_73 : decode b_Mod_give 73 = .ok (.bipush 64, 2) := by decide +kernel
theorem d_Mod_give_75 : decode b_Mod_give 75 = .ok (.aload_n 0, 1) := by decide +kernel
theorem d_Mod_give_76 : decode b_Mod_give 76 = .ok (.getfield 312, 3) := by decide +kernel
theorem d_Mod_give_79 : decode b_Mod_give 79 = .ok (.iadd, 1) := by decide +kernel
theorem d_Mod_give_80 : decode b_Mod_give 80 = .ok (.iload_n 1, 1) := by decide +kernel
theorem d_Mod_give_81 : decode b_Mod_give 81 = .ok (.iastore, 1) := by decide +kernel
theorem d_Mod_give_82 : decode b_Mod_give 82 = .ok (.iload_n 1, 1) := by decide +kernel
theorem d_Mod_give_83 : decode b_Mod_give 83 = .ok (.iconst 2, 1) := by decide +kernel
theorem d_Mod_give_84 : decode b_Mod_give 84 = .ok (.if_icmp .ne 18, 3) := by decide +kernel
theorem d_Mod_give_87 : decode b_Mod_give 87 = .ok (.aload_n 0, 1) := by decide +kernel
theorem d_Mod_give_88 : decode b_Mod_give 88 = .ok (.getfield 100, 3) := by decide +kernel
theorem d_Mod_give_91 : decode b_Mod_give 91 = .ok (.bipush 64, 2) := by decide +kernel
theorem d_Mod_give_93 : decode b_Mod_give 93 = .ok (.aload_n 0, 1) := by decide +kernel
theorem d_Mod_give_94 : decode b_Mod_give 94 = .ok (.getfield 312, 3) := by decide +kernel
theorem d_Mod_give_97 : decode b_Mod_give 97 = .ok (.iadd, 1) := by decide +kernel
theorem d_Mod_give_98 : decode b_Mod_give 98 = .ok (.iconst 1, 1) := by decide +kernel
theorem d_Mod_give_99 : decode b_Mod_give 99 = .ok (.iadd, 1) := by decide +kernel
theorem d_Mod_give_100 : decode b_Mod_give 100 = .ok (.iconst 3, 1) := by decide +kernel
theorem d_Mod_give_101 : decode b_Mod_give 101 = .ok (.iastore, 1) := by decide +kernel
theorem d_Mod_give_102 : decode b_Mod_give 102 = .ok (.aload_n 0, 1) := by decide +kernel
theorem d_Mod_give_103 : decode b_Mod_give 103 = .ok (.aload_n 0, 1) := by decide +kernel
theorem d_Mod_give_104 : decode b_Mod_give 104 = .ok (.getfield 312, 3) := by decide +kernel
theorem d_Mod_give_107 : decode b_Mod_give 107 = .ok (.iload_n 2, 1) := by decide +kernel
theorem d_Mod_give_108 : decode b_Mod_give 108 = .ok (.iadd, 1) := by decide +kernel
theorem d_Mod_give_109 : decode b_Mod_give 109 = .ok (.putfield 312, 3) := by decide +kernel
theorem d_Mod_give_112 : decode b_Mod_give 112 = .ok (.return_, 1) := by decide +kernel
theorem d_Mod_giveAnswer_0 : decode b_Mod_giveAnswer 0 = .ok (.iload_n 1, 1) := by decide +kernel
theorem d_Mod_giveAnswer_1 : decode b_Mod_giveAnswer 1 = .ok (.ifCond .eq 8, 3) := by decide +kernel
theorem d_Mod_giveAnswer_4 : decode b_Mod_giveAnswer 4 = .ok (.aload_n 0, 1) := by decide +kernel
theorem d_Mod_giveAnswer_5 : decode b_Mod_giveAnswer 5 = .ok (.iload_n 1, 1) := by decide +kernel
theorem d_Mod_giveAnswer_6 : decode b_Mod_giveAnswer 6 = .ok (.invokevirtual 321, 3) := by decide +kernel
theorem d_Mod_giveAnswer_9 : decode b_Mod_giveAnswer 9 = .ok (.return_, 1) := by decide +kernel
theorem d_Mod_needLocal_0 : decode b_Mod_needLocal 0 = .ok (.iload_n 1, 1) := by decide +kernel
theorem d_Mod_needLocal_1 : decode b_Mod_needLocal 1 = .ok (.aload_n 0, 1) := by decide +kernel
theorem d_Mod_needLocal_2 : decode b_Mod_needLocal 2 = .ok (.getfield 68, 3) := by decide +kernel
theorem d_Mod_needLocal_5 : decode b_Mod_needLocal 5 = .ok (.aload_n 0, 1) := by decide +kernel
theorem d_Mod_needLocal_6 : decode b_Mod_needLocal 6 = .ok (.getfield 315, 3) := by decide +kernel
theorem d_Mod_needLocal_9 : decode b_Mod_needLocal 9 = .ok (.iaload, 1) := by decide +kernel
theorem d_Mod_needLocal_10 : decode b_Mod_needLocal 10 = .ok (.if_icmp .ge 23, 3) := by decide +kernel
theorem d_Mod_needLocal_13 : decode b_Mod_needLocal 13 = .ok (.iload_n 2, 1) := by decide +kernel
theorem d_Mod_needLocal_14 : decode b_Mod_needLocal 14 = .ok (.iconst 2, 1) := by decide +kernel
theorem d_Mod_needLocal_15 : decode b_Mod_needLocal 15 = .ok (.if_icmp .ne 28, 3) := by decide +kernel
theorem d_Mod_needLocal_18 : decode b_Mod_needLocal 18 = .ok (.iload_n 1, 1) := by decide +kernel
theorem d_Mod_needLocal_19 : decode b_Mod_needLocal 19 = .ok (.iconst 1, 1) := by decide +kernel
theorem d_Mod_needLocal_20 : decode b_Mod_needLocal 20 = .ok (.iadd, 1) := by decide +kernel
theorem d_Mod_needLocal_21 : decode b_Mod_needLocal 21 = .ok (.aload_n 0, 1) := by decide +kernel
theorem d_Mod_needLocal_22 : decode b_Mod_needLocal 22 = .ok (.getfield 68, 3) := by decide +kernel
theorem d_Mod_needLocal_25 : decode b_Mod_needLocal 25 = .ok (.aload_n 0, 1) := by decide +kernel
theorem d_Mod_needLocal_26 : decode b_Mod_needLocal 26 = .ok (.getfield 315, 3) := by decide +kernel
theorem d_Mod_needLocal_29 : decode b_Mod_needLocal 29 = .ok (.iaload, 1) := by decide +kernel
theorem d_Mod_needLocal_30 : decode b_Mod_needLocal 30 = .ok (.if_icmp .lt 13, 3) := by decide +kernel
theorem d_Mod_needLocal_33 : decode b_Mod_needLocal 33 = .ok (.aload_n 0, 1) := by decide +kernel
theorem d_Mod_needLocal_34 : decode b_Mod_needLocal 34 = .ok (.bipush 21, 2) := by decide +kernel
theorem d_Mod_needLocal_36 : decode b_Mod_needLocal 36 = .ok (.aload_n 0, 1) := by decide +kernel
theorem d_Mod_needLocal_37 : decode b_Mod_needLocal 37 = .ok (.getfield 309, 3) := by decide +kernel
theorem d_Mod_needLocal_40 : decode b_Mod_needLocal 40 = .ok (.invokevirtual 159, 3) := by decide +kernel
theorem d_Mod_needLocal_43 : decode b_Mod_needLocal 43 = .ok (.return_, 1) := by decide +kernel
theorem d_Mod_refer_0 : decode b_Mod_refer 0 = .ok (.iload_n 1, 1) := by decide +kernel
theorem d_Mod_refer_1 : decode b_Mod_refer 1 = .ok (.ifCond .ne 13, 3) := by decide +kernel
theorem d_Mod_refer_4 : decode b_Mod_refer 4 = .ok (.aload_n 0, 1) := by decide +kernel
theorem d_Mod_refer_5 : decode b_Mod_refer 5 = .ok (.bipush 6, 2) := by decide +kernel
theorem d_Mod_refer_7 : decode b_Mod_refer 7 = .ok (.aload_n 0, 1) := by decide +kernel
theorem d_Mod_refer_8 : decode b_Mod_refer 8 = .ok (.getfield 309, 3) := by decide +kernel
theorem d_Mod_refer_11 : decode b_Mod_refer 11 = .ok (.invokevirtual 159, 3) := by decide +kernel
theorem d_Mod_refer_14 : decode b_Mod_refer 14 = .ok (.return_, 1) := by decide +kernel
theorem d_Mod_spoil_0 : decode b_Mod_spoil 0 = .ok (.aload_n 0, 1) := by decide +kernel
theorem d_Mod_spoil_1 : decode b_Mod_spoil 1 = .ok (.getfield 100, 3) := by decide +kernel
theorem d_Mod_spoil_4 : decode b_Mod_spoil 4 = .ok (.iload_n 1, 1) := by decide +kernel
theorem d_Mod_spoil_5 : decode b_Mod_spoil 5 = .ok (.iaload, 1) := by decide +kernel
theorem d_Mod_spoil_6 : decode b_Mod_spoil 6 = .ok (.iconst 2, 1) := by decide +kernel
theorem d_Mod_spoil_7 : decode b_Mod_spoil 7 = .ok (.if_icmp .ne 15, 3) := by decide +kernel
theorem d_Mod_spoil_10 : decode b_Mod_spoil 10 = .ok (.aload_n 0, 1) := by decide +kernel
theorem d_Mod_spoil_11 : decode b_Mod_spoil 11 = .ok (.getfield 100, 3) := by decide +kernel
theorem d_Mod_spoil_14 : decode b_Mod_spoil 14 = .ok (.iload_n 1, 1) := by decide +kernel
theorem d_Mod_spoil_15 : decode b_Mod_spoil 15 = .ok (.iconst 1, 1) := by decide +kernel
theorem d_Mod_spoil_16 : decode b_Mod_spoil 16 = .ok (.iadd, 1) := by decide +kernel
theorem d_Mod_spoil_17 : decode b_Mod_spoil 17 = .ok (.iconst 0, 1) := by decide +kernel
theorem d_Mod_spoil_18 : decode b_Mod_spoil 18 = .ok (.iastore, 1) := by decide +kernel
theorem d_Mod_spoil_19 : decode b_Mod_spoil 19 = .ok (.goto 22, 3) := by decide +kernel
theorem d_Mod_spoil_22 : decode b_Mod_spoil 22 = .ok (.aload_n 0, 1) := by decide +kernel
theorem d_Mod_spoil_23 : decode b_Mod_spoil 23 = .ok (.getfield 100, 3) := by decide +kernel
theorem d_Mod_spoil_26 : decode b_Mod_spoil 26 = .ok (.iload_n 1, 1) := by decide +kernel
theorem d_Mod_spoil_27 : decode b_Mod_spoil 27 = .ok (.iaload, 1) := by decide +kernel
theorem d_Mod_spoil_28 : decode b_Mod_spoil 28 = .ok (.iconst 3, 1) := by decide +kernel
theorem d_Mod_spoil_29 : decode b_Mod_spoil 29 = .ok (.if_icmp .ne 12, 3) := by decide +kernel
theorem d_Mod_spoil_32 : decode b_Mod_spoil 32 = .ok (.aload_n 0, 1) := by decide +kernel
theorem d_Mod_spoil_33 : decode b_Mod_spoil 33 = .ok (.getfield 100, 3) := by decide +kernel
theorem d_Mod_spoil_36 : decode b_Mod_spoil 36 = .ok (.iload_n 1, 1) := by decide +kernel
theorem d_Mod_spoil_37 : decode b_Mod_spoil 37 = .ok (.iconst 1, 1) := by decide +kernel
theorem d_Mod_spoil_38 : decode b_Mod_spoil 38 = .ok (.isub, 1) := by decide +kernel
theorem d_Mod_spoil_39 : decode b_Mod_spoil 39 = .ok (.iconst 0, 1) := by decide +kernel
theorem d_Mod_spoil_40 : decode b_Mod_spoil 40 = .ok (.iastore, 1) := by decide +kernel
theorem d_Mod_spoil_41 : decode b_Mod_spoil 41 = .ok (.return_, 1) := by decide +kernel
theorem d_Mod_store_0 : decode b_Mod_store 0 = .ok (.aload_n 0, 1) := by decide +kernel
theorem d_Mod_store_1 : decode b_Mod_store 1 = .ok (.iload_n 1, 1) := by decide +kernel
theorem d_Mod_store_2 : decode b_Mod_store 2 = .ok (.iload_n 2, 1) := by decide +kernel
theorem d_Mod_store_3 : decode b_Mod_store 3 = .ok (.invokevirtual 318, 3) := by decide +kernel
theorem d_Mod_store_6 : decode b_Mod_store 6 = .ok (.aload_n 0, 1) := by decide +kernel
theorem d_Mod_store_7 : decode b_Mod_store 7 = .ok (.iload_n 2, 1) := by decide +kernel
theorem d_Mod_store_8 : decode b_Mod_store 8 = .ok (.invokevirtual 324, 3) := by decide +kernel
theorem d_Mod_store_11 : decode b_Mod_store 11 = .ok (.aload_n 0, 1) := by decide +kernel
theorem d_Mod_store_12 : decode b_Mod_store 12 = .ok (.getfield 147, 3) := by decide +kernel
theorem d_Mod_store_15 : decode b_Mod_store 15 = .ok (.ifCond .eq 4, 3) := by decide +kernel
theorem d_Mod_store_18 : decode b_Mod_store 18 = .ok (.return_, 1) := by decide +kernel
theorem d_Mod_store_19 : decode b_Mod_store 19 = .ok (.aload_n 0, 1) := by decide +kernel
theorem d_Mod_store_20 : decode b_Mod_store 20 = .ok (.iload_n 1, 1) := by decide +kernel
theorem d_Mod_store_21 : decode b_Mod_store 21 = .ok (.invokevirtual 327, 3) := by decide +kernel
theorem d_Mod_store_24 : decode b_Mod_store 24 = .ok (.aload_n 0, 1) := by decide +kernel
theorem d_Mod_store_25 : decode b_Mod_store 25 = .ok (.getfield 100, 3) := by decide +kernel
theorem d_Mod_store_28 : decode b_Mod_store 28 = .ok (.iload_n 1, 1) := by decide +kernel
theorem d_Mod_store_29 : decode b_Mod_store 29 = .ok (.iload_n 2, 1) := by decide +kernel
theorem d_Mod_store_30 : decode b_Mod_store 30 = .ok (.iastore, 1) := by decide +kernel
theorem d_Mod_store_31 : decode b_Mod_store 31 = .ok (.iload_n 2, 1) := by decide +kernel
theorem d_Mod_store_32 : decode b_Mod_store 32 = .ok (.iconst 2, 1) := by decide +kernel
theorem d_Mod_store_33 : decode b_Mod_store 33 = .ok (.if_icmp .ne 33, 3) := by decide +kernel
theorem d_Mod_store_36 : decode b_Mod_store 36 = .ok (.aload_n 0, 1) := by decide +kernel
theorem d_Mod_store_37 : decode b_Mod_store 37 = .ok (.getfield 100, 3) := by decide +kernel
theorem d_Mod_store_40 : decode b_Mod_store 40 = .ok (.iload_n 1, 1) := by decide +kernel
theorem d_Mod_store_41 : decode b_Mod_store 41 = .ok (.iconst 1, 1) := by decide +kernel
theorem d_Mod_store_42 : decode b_Mod_store 42 = .ok (.iadd, 1) := by decide +kernel
theorem d_Mod_store_43 : decode b_Mod_store 43 = .ok (.iaload, 1) := by decide +kernel
theorem d_Mod_store_44 : decode b_Mod_store 44 = .ok (.iconst 2, 1) := by decide +kernel
theorem d_Mod_store_45 : decode b_Mod_store 45 = .ok (.if_icmp .ne 12, 3) := by decide +kernel
theorem d_Mod_store_48 : decode b_Mod_store 48 = .ok (.aload_n 0, 1) := by decide +kernel
theorem d_Mod_store_49 : decode b_Mod_store 49 = .ok (.getfield 100, 3) := by decide +kernel
theorem d_Mod_store_52 : decode b_Mod_store 52 = .ok (.iload_n 1, 1) := by decide +kernel
theorem d_Mod_store_53 : decode b_Mod_store 53 = .ok (.iconst 2, 1) := by decide +kernel
theorem d_Mod_store_54 : decode b_Mod_store 54 = .ok (.iadd, 1) := by decide +kernel
theorem d_Mod_store_55 : decode b_Mod_store 55 = .ok (.iconst 0, 1) := by decide +kernel
theorem d_Mod_store_56 : decode b_Mod_store 56 = .ok (.iastore, 1) := by decide +kernel
theorem d_Mod_store_57 : decode b_Mod_store 57 = .ok (.aload_n 0, 1) := by decide +kernel
theorem d_Mod_store_58 : decode b_Mod_store 58 = .ok (.getfield 100, 3) := by decide +kernel
theorem d_Mod_store_61 : decode b_Mod_store 61 = .ok (.iload_n 1, 1) := by decide +kernel
theorem d_Mod_store_62 : decode b_Mod_store 62 = .ok (.iconst 1, 1) := by decide +kernel
theorem d_Mod_store_63 : decode b_Mod_store 63 = .ok (.iadd, 1) := by decide +kernel
theorem d_Mod_store_64 : decode b_Mod_store 64 = .ok (.iconst 3, 1) := by decide +kernel
theorem d_Mod_store_65 : decode b_Mod_store 65 = .ok (.iastore, 1) := by decide +kernel
theorem d_Mod_store_66 : decode b_Mod_store 66 = .ok (.return_, 1) := by decide +kernel
theorem d_Mod_take_0 : decode b_Mod_take 0 = .ok (.aload_n 0, 1) := by decide +kernel
theorem d_Mod_take_1 : decode b_Mod_take 1 = .ok (.getfield 147, 3) := by decide +kernel
theorem d_Mod_take_4 : decode b_Mod_take 4 = .ok (.ifCond .eq 4, 3) := by decide +kernel
theorem d_Mod_take_7 : decode b_Mod_take 7 = .ok (.return_, 1) := by decide +kernel
theorem d_Mod_take_8 : decode b_Mod_take 8 = .ok (.iload_n 1, 1) := by decide +kernel
theorem d_Mod_take_9 : decode b_Mod_take 9 = .ok (.bipush 9, 2) := by decide +kernel
theorem d_Mod_take_11 : decode b_Mod_take 11 = .ok (.if_icmp .lt 16, 3) := by decide +kernel
theorem d_Mod_take_14 : decode b_Mod_take 14 = .ok (.aload_n 0, 1) := by decide +kernel
theorem d_Mod_take_15 : decode b_Mod_take 15 = .ok (.bipush 23, 2) := by decide +kernel
theorem d_Mod_take_17 : decode b_Mod_take 17 = .ok (.aload_n 0, 1) := by decide +kernel
theorem d_Mod_take_18 : decode b_Mod_take 18 = .ok (.getfield 309, 3) := by decide +kernel
theorem d_Mod_take_21 : decode b_Mod_take 21 = .ok (.invokevirtual 159, 3) := by decide +kernel
theorem d_Mod_take_24 : decode b_Mod_take 24 = .ok (.goto 87, 3) := by decide +kernel
theorem d_Mod_take_27 : decode b_Mod_take 27 = .ok (.aload_n 0, 1) := by decide +kernel
theorem d_Mod_take_28 : decode b_Mod_take 28 = .ok (.getfield 312, 3) := by decide +kernel
theorem d_Mod_take_31 : decode b_Mod_take 31 = .ok (.ifCond .ne 16, 3) := by decide +kernel
theorem d_Mod_take_34 : decode b_Mod_take 34 = .ok (.aload_n 0, 1) := by decide +kernel
theorem d_Mod_take_35 : decode b_Mod_take 35 = .ok (.bipush 22, 2) := by decide +kernel
theorem d_Mod_take_37 : decode b_Mod_take 37 = .ok (.aload_n 0, 1) := by decide +kernel
theorem d_Mod_take_38 : decode b_Mod_take 38 = .ok (.getfield 309, 3) := by decide +kernel
theorem d_Mod_take_41 : decode b_Mod_take 41 = .ok (.invokevirtual 159, 3) := by decide +kernel
theorem d_Mod_take_44 : decode b_Mod_take 44 = .ok (.goto 67, 3) := by decide +kernel
theorem d_Mod_take_47 : decode b_Mod_take 47 = .ok (.aload_n 0, 1) := by decide +kernel
theorem d_Mod_take_48 : decode b_Mod_take 48 = .ok (.getfield 100, 3) := by decide +kernel
theorem d_Mod_take_51 : decode b_Mod_take 51 = .ok (.bipush 64, 2) := by decide +kernel
theorem d_Mod_take_53 : decode b_Mod_take 53 = .ok (.aload_n 0, 1) := by decide +kernel
theorem d_Mod_take_54 : decode b_Mod_take 54 = .ok (.getfield 312, 3) := by decide +kernel
theorem d_Mod_take_57 : decode b_Mod_take 57 = .ok (.iadd, 1) := by decide +kernel
theorem d_Mod_take_58 : decode b_Mod_take 58 = .ok (.iconst 1, 1) := by decide +kernel
theorem d_Mod_take_59 : decode b_Mod_take 59 = .ok (.isub, 1) := by decide +kernel
theorem d_Mod_take_60 : decode b_Mod_take 60 = .ok (.iaload, 1) := by decide +kernel
theorem d_Mod_take_61 : decode b_Mod_take 61 = .ok (.iload_n 1, 1) := by decide +kernel
theorem d_Mod_take_62 : decode b_Mod_take 62 = .ok (.iconst 2, 1) := by decide +kernel
theorem d_Mod_take_63 : decode b_Mod_take 63 = .ok (.if_icmp .ne 7, 3) := by decide +kernel
theorem d_Mod_take_66 : decode b_Mod_take 66 = .ok (.iconst 3, 1) := by decide +kernel
theorem d_Mod_take_67 : decode b_Mod_take 67 = .ok (.goto 4, 3) := by decide +kernel
theorem d_Mod_take_70 : decode b_Mod_take 70 = .ok (.iload_n 1, 1) := by decide +kernel
theorem d_Mod_take_71 : decode b_Mod_take 71 = .ok (.if_icmp .eq 16, 3) := by decide +kernel
theorem d_Mod_take_74 : decode b_Mod_take 74 = .ok (.aload_n 0, 1) := by decide +kernel
theorem d_Mod_take_75 : decode b_Mod_take 75 = .ok (.bipush 23, 2) := by decide +kernel
theorem d_Mod_take_77 : decode b_Mod_take 77 = .ok (.aload_n 0, 1) := by decide +kernel
theorem d_Mod_take_78 : decode b_Mod_take 78 = .ok (.getfield 309, 3) := by decide +kernel
theorem d_Mod_take_81 : decode b_Mod_take 81 = .ok (.invokevirtual 159, 3) := by decide +kernel
theorem d_Mod_take_84 : decode b_Mod_take 84 = .ok (.goto 27, 3) := by decide +kernel
theorem d_Mod_take_87 : decode b_Mod_take 87 = .ok (.aload_n 0, 1) := by decide +kernel
theorem d_Mod_take_88 : decode b_Mod_take 88 = .ok (.iload_n 1, 1) := by decide +kernel
theorem d_Mod_take_89 : decode b_Mod_take 89 = .ok (.iconst 2, 1) := by decide +kernel
theorem d_Mod_take_90 : decode b_Mod_take 90 = .ok (.if_icmp .ne 12, 3) := by decide +kernel
theorem d_Mod_take_93 : decode b_Mod_take 93 = .ok (.aload_n 0, 1) := by decide +kernel
theorem d_Mod_take_94 : decode b_Mod_take 94 = .ok (.getfield 312, 3) := by decide +kernel
theorem d_Mod_take_97 : decode b_Mod_take 97 = .ok (.iconst 2, 1) := by decide +kernel
theorem d_Mod_take_98 : decode b_Mod_take 98 = .ok (.isub, 1) := by decide +kernel
theorem d_Mod_take_99 : decode b_Mod_take 99 = .ok (.goto 9, 3) := by decide +kernel
theorem d_Mod_take_102 : decode b_Mod_take 102 = .ok (.aload_n 0, 1) := by decide +kernel
theorem d_Mod_take_103 : decode b_Mod_take 103 = .ok (.getfield 312, 3) := by decide +kernel
theorem d_Mod_take_106 : decode b_Mod_take 106 = .ok (.iconst 1, 1) := by decide +kernel
theorem d_Mod_take_107 : decode b_Mod_take 107 = .ok (.isub, 1) := by decide +kernel
theorem d_Mod_take_108 : decode b_Mod_take 108 = .ok (.putfield 312, 3) := by decide +kernel
theorem d_Mod_take_111 : decode b_Mod_take 111 = .ok (.return_, 1) := by decide +kernel
theorem d_Mod_takeSingle_0 : decode b_Mod_takeSingle 0 = .ok (.aload_n 0, 1) := by decide +kernel
theorem d_Mod_takeSingle_1 : decode b_Mod_takeSingle 1 = .ok (.getfield 147, 3) := by decide +kernel
theorem d_Mod_takeSingle_4 : decode b_Mod_takeSingle 4 = .ok (.ifCond .ne 20, 3) := by decide +kernel
theorem d_Mod_takeSingle_7 : decode b_Mod_takeSingle 7 = .ok (.aload_n 0, 1) := by decide +kernel
theorem d_Mod_takeSingle_8 : decode b_Mod_takeSingle 8 = .ok (.getfield 312, 3) := by decide +kernel
theorem d_Mod_takeSingle_11 : decode b_Mod_takeSingle 11 = .ok (.ifCond .ne 13, 3) := by decide +kernel
theorem d_Mod_takeSingle_14 : decode b_Mod_takeSingle 14 = .ok (.aload_n 0, 1) := by decide +kernel
theorem d_Mod_takeSingle_15 : decode b_Mod_takeSingle 15 = .ok (.bipush 22, 2) := by decide +kernel
theorem d_Mod_takeSingle_17 : decode b_Mod_takeSingle 17 = .ok (.aload_n 0, 1) := by decide +kernel
theorem d_Mod_takeSingle_18 : decode b_Mod_takeSingle 18 = .ok (.getfield 309, 3) := by decide +kernel
theorem d_Mod_takeSingle_21 : decode b_Mod_takeSingle 21 = .ok (.invokevirtual 159, 3) := by decide +kernel
theorem d_Mod_takeSingle_24 : decode b_Mod_takeSingle 24 = .ok (.aload_n 0, 1) := by decide +kernel
theorem d_Mod_takeSingle_25 : decode b_Mod_takeSingle 25 = .ok (.getfield 147, 3) := by decide +kernel
theorem d_Mod_takeSingle_28 : decode b_Mod_takeSingle 28 = .ok (.ifCond .ne 20, 3) := by decide +kernel
theorem d_Mod_takeSingle_31 : decode b_Mod_takeSingle 31 = .ok (.aload_n 0, 1) := by decide +kernel
theorem d_Mod_takeSingle_32 : decode b_Mod_takeSingle 32 = .ok (.getfield 100, 3) := by decide +kernel
theorem d_Mod_takeSingle_35 : decode b_Mod_takeSingle 35 = .ok (.bipush 64, 2) := by decide +kernel
theorem d_Mod_takeSingle_37 : decode b_Mod_takeSingle 37 = .ok (.aload_n 0, 1) := by decide +kernel
theorem d_Mod_takeSingle_38 : decode b_Mod_takeSingle 38 = .ok (.getfield 312, 3) := by decide +kernel
theorem d_Mod_takeSingle_41 : decode b_Mod_takeSingle 41 = .ok (.iadd, 1) := by decide +kernel
theorem d_Mod_takeSingle_42 : decode b_Mod_takeSingle 42 = .ok (.iconst 1, 1) := by decide +kernel
theorem d_Mod_takeSingle_43 : decode b_Mod_takeSingle 43 = .ok (.isub, 1) := by decide +kernel
theorem d_Mod_takeSingle_44 : decode b_Mod_takeSingle 44 = .ok (.iaload, 1) := by decide +kernel
theorem d_Mod_takeSingle_45 : decode b_Mod_takeSingle 45 = .ok (.goto 4, 3) := by decide +kernel
theorem d_Mod_takeSingle_48 : decode b_Mod_takeSingle 48 = .ok (.iconst 0, 1) := by decide +kernel
theorem d_Mod_takeSingle_49 : decode b_Mod_takeSingle 49 = .ok (.istore_n 1, 1) := by decide +kernel
theorem d_Mod_takeSingle_50 : decode b_Mod_takeSingle 50 = .ok (.aload_n 0, 1) := by decide +kernel
theorem d_Mod_takeSingle_51 : decode b_Mod_takeSingle 51 = .ok (.getfield 147, 3) := by decide +kernel
theorem d_Mod_takeSingle_54 : decode b_Mod_takeSingle 54 = .ok (.ifCond .ne 18, 3) := by decide +kernel
theorem d_Mod_takeSingle_57 : decode b_Mod_takeSingle 57 = .ok (.iload_n 1, 1) := by decide +kernel
theorem d_Mod_takeSingle_58 : decode b_Mod_takeSingle 58 = .ok (.iconst 3, 1) := by decide +kernel
theorem d_Mod_takeSingle_59 : decode b_Mod_takeSingle 59 = .ok (.if_icmp .ne 13, 3) := by decide +kernel
theorem d_Mod_takeSingle_62 : decode b_Mod_takeSingle 62 = .ok (.aload_n 0, 1) := by decide +kernel
theorem d_Mod_takeSingle_63 : decode b_Mod_takeSingle 63 = .ok (.bipush 23, 2) := by decide +kernel
theorem d_Mod_takeSingle_65 : decode b_Mod_takeSingle 65 = .ok (.aload_n 0, 1) := by decide +kernel
theorem d_Mod_takeSingle_66 : decode b_Mod_takeSingle 66 = .ok (.getfield 309, 3) := by decide +kernel
theorem d_Mod_takeSingle_69 : decode b_Mod_takeSingle 69 = .ok (.invokevirtual 159, 3) := by decide +kernel
theorem d_Mod_takeSingle_72 : decode b_Mod_takeSingle 72 = .ok (.aload_n 0, 1) := by decide +kernel
theorem d_Mod_takeSingle_73 : decode b_Mod_takeSingle 73 = .ok (.aload_n 0, 1) := by decide +kernel
theorem d_Mod_takeSingle_74 : decode b_Mod_takeSingle 74 = .ok (.getfield 147, 3) := by decide +kernel
theorem d_Mod_takeSingle_77 : decode b_Mod_takeSingle 77 = .ok (.ifCond .ne 12, 3) := by decide +kernel
theorem d_Mod_takeSingle_80 : decode b_Mod_takeSingle 80 = .ok (.aload_n 0, 1) := by decide +kernel
theorem d_Mod_takeSingle_81 : decode b_Mod_takeSingle 81 = .ok (.getfield 312, 3) := by decide +kernel
theorem d_Mod_takeSingle_84 : decode b_Mod_takeSingle 84 = .ok (.iconst 1, 1) := by decide +kernel
theorem d_Mod_takeSingle_85 : decode b_Mod_takeSingle 85 = .ok (.isub, 1) := by decide +kernel
theorem d_Mod_takeSingle_86 : decode b_Mod_takeSingle 86 = .ok (.goto 7, 3) := by decide +kernel
theorem d_Mod_takeSingle_89 : decode b_Mod_takeSingle 89 = .ok (.aload_n 0, 1) := by decide +kernel
theorem d_Mod_takeSingle_90 : decode b_Mod_takeSingle 90 = .ok (.getfield 312, 3) := by decide +kernel
theorem d_Mod_takeSingle_93 : decode b_Mod_takeSingle 93 = .ok (.putfield 312, 3) := by decide +kernel
theorem d_Mod_takeSingle_96 : decode b_Mod_takeSingle 96 = .ok (.iload_n 1, 1) := by decide +kernel
theorem d_Mod_takeSingle_97 : decode b_Mod_takeSingle 97 = .ok (.ireturn, 1) := by decide +kernel
end
