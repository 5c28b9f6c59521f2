set_option maxHeartbeats 4000000 in
set_option maxRecDepth 100000 in
theorem g_Mod_rule (l : Launch) (g : tw_G) (sz : Nat) (h0 : Nat) (q : Nat → Nat) (mm : Int32) (mb : Int32) (fa : Int32) (fp : Int32) (av : Nat) (ev : Nat) (wi : Int32) (mn : Nat) (tp : Int32) (tc : Int32) (sc : Int32) (nf : Nat) (fd : Nat) (me : Nat) (mp : Int32) (xn : Nat) (mt : Nat) (wh : Nat) (tq : Nat) (ag : Nat) (an : Int32) (ig : Int32) (bs : Nat → Int32) (rf : Int32) (n : Nat) (ru : Nat → Int32) (rs : Nat → Int32) (rt : Nat → Int32) (al : Int32) (k9 : Int32) (hn6 : n ≤ 600) (hbs : BYT bs) (hru : ∀ i, i < 2 → ∃ c, c ≤ 6 ∧ ru i = nI c) (hrs : ∀ i, i < 12 → ∃ c, c ≤ 40 ∧ rs i = nI c) : Met l y_Mod_rule [.code y_Mod_rule b_Mod_rule 7 (some .int)] ({ frames := 1, cells := 0, slots := 0, locals := 22 }) (tw_P g [.ref h0, .int al, .int k9] [(h0, .inr (10, mob q rf n mm mb fa fp av ev wi mn tp tc sc nf fd me mp xn mt wh tq ag an ig)), ((q 2), aI g 600 bs), ((q 3), aI g 2 ru), ((q 4), aI g 12 rs), ((q 5), aI g 480 rt)] sz) (tw_Qi g (fun (r : Int32) (u : Int32 × Nat × (Nat → Int32) × (Nat → Int32) × (Nat → Int32)) => (RUP u.1 r n u.2.1 bs ru rs u.2.2.1 u.2.2.2.1 al k9)) (fun u : Int32 × Nat × (Nat → Int32) × (Nat → Int32) × (Nat → Int32) => [(h0, .inr (10, mob q u.1 u.2.1 mm mb fa fp av ev wi mn tp tc sc nf fd me mp xn mt wh tq ag an ig)), ((q 2), aI g 600 bs), ((q 3), aI g 2 u.2.2.1), ((q 4), aI g 12 u.2.2.2.1), ((q 5), aI g 480 u.2.2.2.2)]) (va_A [(h0, .inr (10, mob q rf n mm mb fa fp av ev wi mn tp tc sc nf fd me mp xn mt wh tq ag an ig)), ((q 2), aI g 600 bs), ((q 3), aI g 2 ru), ((q 4), aI g 12 rs), ((q 5), aI g 480 rt)] sz)) 0 0 (va_A [(h0, .inr (10, mob q rf n mm mb fa fp av ev wi mn tp tc sc nf fd me mp xn mt wh tq ag an ig)), ((q 2), aI g 600 bs), ((q 3), aI g 2 ru), ((q 4), aI g 12 rs), ((q 5), aI g 480 rt)] sz) := by
  refine tw_metW (l := l) (g := g) (y := y_Mod_rule) (cc := b_Mod_rule) (maxL := 7) (ret := (some .int)) (rm := { frames := 1, cells := 0, slots := 0, locals := 22 }) (mc := 0) (ms := 0) (av := [.ref h0, .int al, .int k9]) (ws := [(h0, .inr (10, mob q rf n mm mb fa fp av ev wi mn tp tc sc nf fd me mp xn mt wh tq ag an ig)), ((q 2), aI g 600 bs), ((q 3), aI g 2 ru), ((q 4), aI g 12 rs), ((q 5), aI g 480 rt)]) (sz := sz) (Qc := fun A => (tw_Qi g (fun (r : Int32) (u : Int32 × Nat × (Nat → Int32) × (Nat → Int32) × (Nat → Int32)) => (RUP u.1 r n u.2.1 bs ru rs u.2.2.1 u.2.2.2.1 al k9)) (fun u : Int32 × Nat × (Nat → Int32) × (Nat → Int32) × (Nat → Int32) => [(h0, .inr (10, mob q u.1 u.2.1 mm mb fa fp av ev wi mn tp tc sc nf fd me mp xn mt wh tq ag an ig)), ((q 2), aI g 600 bs), ((q 3), aI g 2 u.2.2.1), ((q 4), aI g 12 u.2.2.2.1), ((q 5), aI g 480 u.2.2.2.2)]) A)) (by decide) (Nat.le_of_ble_eq_true rfl) ?_
  intro p e s m below meth c ls H A E hB hK hZ hP hD hS hA hl
  obtain ⟨hx, hb, hml, hr, hown, hts, hlocks, hin⟩ := id E
  have hl : lv_has ls 7 [(0, .ref h0), (1, .int al), (2, .int k9)] := hl
  refine lv_iload_n hx hb d_Mod_rule_0 rfl (lv_at hl 1 rfl) ?_
  refine lv_if_eq (tgt := 8) hx hb d_Mod_rule_1 (by decide) (fun h1 => ?_) (fun h1 => ?_)
  · have hso : so_ al = 0 := if_pos h1
    obtain ⟨c9, hc6, ec⟩ := hru 0 (by decide)
    refine lv_iconst (v := 0) hx hb d_Mod_rule_8 (by decide) ?_
    refine lv_istore_n hx hb d_Mod_rule_9 rfl hl (by decide) rfl (fun ls hl => ?_)
    have hl : lv_has ls 7 [(3, .int 0), (0, .ref h0), (1, .int al), (2, .int k9)] := hl
    refine lv_iload_n hx hb d_Mod_rule_10 rfl (lv_at hl 3 rfl) ?_
    refine lv_iconst (v := 1) hx hb d_Mod_rule_11 (by decide) ?_
    refine lv_bipush (v := 40) hx hb d_Mod_rule_12 (by decide) ?_
    refine tw_si (tw_runS (ws := [(h0, .inr (10, mob q rf n mm mb fa fp av ev wi mn tp tc sc nf fd me mp xn mt wh tq ag an ig)), ((q 2), aI g 600 bs), ((q 3), aI g 2 ru), ((q 4), aI g 12 rs), ((q 5), aI g 480 rt)]) (wc := []) (As := [.int k9, .int 1, .int 40]) (rest := []) E hB hK hZ (c_Mod_isIn l g H.size k9 1 40) mc_Mod_isIn ms_Mod_isIn wd_1443 hP hD hS hA [] rfl (by decide) rfl rfl (by decide) rfl hl.1 rfl (Nat.le_of_ble_eq_true rfl) (by decide) d_Mod_rule_14) (fun r1 hr1 => ?_)
    obtain rfl : r1 = is_in k9 1 40 := hr1
    refine lv_if_eq (tgt := 32) hx hb d_Mod_rule_17 (by decide) (fun h17 => ?_) (fun h17 => ?_)
    · refine lv_iconst (v := 0) hx hb d_Mod_rule_32 (by decide) ?_
      refine lv_istore hx hb d_Mod_rule_33 hl (by decide) rfl (fun ls hl => ?_)
      have hl : lv_has ls 7 [(4, .int 0), (3, .int 0), (0, .ref h0), (1, .int al), (2, .int k9)] := hl
      refine lv_aload_n hx hb d_Mod_rule_35 rfl (lv_at hl 2 rfl) ?_
      refine va_get (D := g.1) (ci := 10) (v := .int (nI n)) (C := R_Mod) (T := F_Mod) (N := 61) hx hb hts in_Mod hown hK hP 0 rfl rfl 1 (by decide) (hts _ wd_1251) (fun _ h9 => h9) rfl d_Mod_rule_36 ?_
      refine lv_iload_n hx hb d_Mod_rule_39 rfl (lv_at hl 4 rfl) ?_
      refine lv_isub hx hb d_Mod_rule_40 ?_
      refine tw_ri (e2 := (nI n) - k9) rfl ?_
      refine lv_istore hx hb d_Mod_rule_41 hl (by decide) rfl (fun ls hl => ?_)
      have hl : lv_has ls 7 [(5, .int ((nI n) - k9)), (4, .int 0), (3, .int 0), (0, .ref h0), (1, .int al), (2, .int k9)] := hl
      refine lv_iload hx hb d_Mod_rule_43 (lv_at hl 1 rfl) ?_
      refine lv_if_eq (tgt := 79) hx hb d_Mod_rule_45 (by decide) (fun h45 => ?_) (fun h45 => ?_)
      · refine lv_aload_n hx hb d_Mod_rule_79 rfl (lv_at hl 3 rfl) ?_
        refine lv_iload hx hb d_Mod_rule_80 (lv_at hl 1 rfl) ?_
        refine lv_if_ne (tgt := 89) hx hb d_Mod_rule_82 (by decide) (fun h82 => ?_) (fun h82 => ?_)
        · first | exact absurd h82 (by decide) | exact absurd (by decide) h82
        · refine lv_iconst (v := 1) hx hb d_Mod_rule_85 (by decide) ?_
          refine lv_goto (tgt := 105) hx hb d_Mod_rule_86 (by decide) ?_
          refine tw_wi (wr := [((q 2), aI g 600 bs), ((q 3), aI g 2 ru), ((q 4), aI g 12 rs), ((q 5), aI g 480 rt)]) (tw_runV (ws := [(h0, .inr (10, mob q rf n mm mb fa fp av ev wi mn tp tc sc nf fd me mp xn mt wh tq ag an ig)), ((q 2), aI g 600 bs), ((q 3), aI g 2 ru), ((q 4), aI g 12 rs), ((q 5), aI g 480 rt)]) (wc := [(h0, .inr (10, mob q rf n mm mb fa fp av ev wi mn tp tc sc nf fd me mp xn mt wh tq ag an ig))]) (As := [.int 1]) (rest := []) E hB hK hZ (g_Mod_refused l g H.size h0 q n mm mb fa fp av ev wi mn tp tc sc nf fd me mp xn mt wh tq ag an ig rf 1) mc_Mod_refused mi_Mod_refused me_Mod_refused wd_1446 hP hD hS hA [0] rfl (by decide) 0 rfl rfl rfl rfl rfl (by decide) rfl hl.1 rfl (Nat.le_of_ble_eq_true rfl) (by decide) d_Mod_rule_105) hP hD hS hA [0] [1, 2, 3, 4] rfl rfl (by decide) (by decide) (fun r2 u3 H locs hr2 hP hD hS => ?_)
          try dsimp only at hr2
          have hP : va_P g.1 classes [((q 2), aI g 600 bs), ((q 3), aI g 2 ru), ((q 4), aI g 12 rs), ((q 5), aI g 480 rt), (h0, .inr (10, mob q u3 n mm mb fa fp av ev wi mn tp tc sc nf fd me mp xn mt wh tq ag an ig))] H := hP
          have hD : va_D A [((q 2), aI g 600 bs), ((q 3), aI g 2 ru), ((q 4), aI g 12 rs), ((q 5), aI g 480 rt), (h0, .inr (10, mob q u3 n mm mb fa fp av ev wi mn tp tc sc nf fd me mp xn mt wh tq ag an ig))] := hD
          have hP : va_P g.1 classes [(h0, .inr (10, mob q u3 n mm mb fa fp av ev wi mn tp tc sc nf fd me mp xn mt wh tq ag an ig)), ((q 2), aI g 600 bs), ((q 3), aI g 2 ru), ((q 4), aI g 12 rs), ((q 5), aI g 480 rt)] H := hP.sub [4, 0, 1, 2, 3] rfl
          have hD : va_D A [(h0, .inr (10, mob q u3 n mm mb fa fp av ev wi mn tp tc sc nf fd me mp xn mt wh tq ag an ig)), ((q 2), aI g 600 bs), ((q 3), aI g 2 ru), ((q 4), aI g 12 rs), ((q 5), aI g 480 rt)] := hD.sub [4, 0, 1, 2, 3] (by decide) rfl
          obtain ⟨hB3, hp3_0⟩ := hr2
          have hrr105 : r2 = 1 := hB3.2.trans (by decide)
          subst hrr105
          refine lv_if_eq (tgt := 113) hx hb d_Mod_rule_108 (by decide) (fun h108 => ?_) (fun h108 => ?_)
          · first | exact absurd h108 (by decide) | exact absurd (by decide) h108
          · refine lv_iconst (v := 0) hx hb d_Mod_rule_111 (by decide) ?_
            exact tw_iret E hS (u3, n, ru, rs, rt) (Or.inl ⟨hp3_0, (ru_n1 h17), rfl, rfl, rfl⟩) hP hD d_Mod_rule_112
      · first | exact absurd h45 (by decide) | exact absurd (by decide) h45
    · obtain ⟨q1, hke, hq1, hq4⟩ := ru_k h17
      subst hke
      refine lv_iload_n hx hb d_Mod_rule_20 rfl (lv_at hl 3 rfl) ?_
      refine lv_aload_n hx hb d_Mod_rule_21 rfl (lv_at hl 1 rfl) ?_
      refine va_get (D := g.1) (ci := 10) (v := .int (nI n)) (C := R_Mod) (T := F_Mod) (N := 61) hx hb hts in_Mod hown hK hP 0 rfl rfl 1 (by decide) (hts _ wd_1251) (fun _ h9 => h9) rfl d_Mod_rule_22 ?_
      refine lv_icmp_gt (tgt := 32) hx hb d_Mod_rule_25 (by decide) (fun h25 => ?_) (fun h25 => ?_)
      · have h25 := tn_lt h25 (by omega) (by omega)
        refine lv_iconst (v := 0) hx hb d_Mod_rule_32 (by decide) ?_
        refine lv_istore hx hb d_Mod_rule_33 hl (by decide) rfl (fun ls hl => ?_)
        have hl : lv_has ls 7 [(4, .int 0), (3, .int 0), (0, .ref h0), (1, .int al), (2, .int (nI q1))] := hl
        refine lv_aload_n hx hb d_Mod_rule_35 rfl (lv_at hl 2 rfl) ?_
        refine va_get (D := g.1) (ci := 10) (v := .int (nI n)) (C := R_Mod) (T := F_Mod) (N := 61) hx hb hts in_Mod hown hK hP 0 rfl rfl 1 (by decide) (hts _ wd_1251) (fun _ h9 => h9) rfl d_Mod_rule_36 ?_
        refine lv_iload_n hx hb d_Mod_rule_39 rfl (lv_at hl 4 rfl) ?_
        refine lv_isub hx hb d_Mod_rule_40 ?_
        refine tw_ri (e2 := (nI n) - (nI q1)) rfl ?_
        refine lv_istore hx hb d_Mod_rule_41 hl (by decide) rfl (fun ls hl => ?_)
        have hl : lv_has ls 7 [(5, .int ((nI n) - (nI q1))), (4, .int 0), (3, .int 0), (0, .ref h0), (1, .int al), (2, .int (nI q1))] := hl
        refine lv_iload hx hb d_Mod_rule_43 (lv_at hl 1 rfl) ?_
        refine lv_if_eq (tgt := 79) hx hb d_Mod_rule_45 (by decide) (fun h45 => ?_) (fun h45 => ?_)
        · refine lv_aload_n hx hb d_Mod_rule_79 rfl (lv_at hl 3 rfl) ?_
          refine lv_iload hx hb d_Mod_rule_80 (lv_at hl 1 rfl) ?_
          refine lv_if_ne (tgt := 89) hx hb d_Mod_rule_82 (by decide) (fun h82 => ?_) (fun h82 => ?_)
          · first | exact absurd h82 (by decide) | exact absurd (by decide) h82
          · refine lv_iconst (v := 1) hx hb d_Mod_rule_85 (by decide) ?_
            refine lv_goto (tgt := 105) hx hb d_Mod_rule_86 (by decide) ?_
            refine tw_wi (wr := [((q 2), aI g 600 bs), ((q 3), aI g 2 ru), ((q 4), aI g 12 rs), ((q 5), aI g 480 rt)]) (tw_runV (ws := [(h0, .inr (10, mob q rf n mm mb fa fp av ev wi mn tp tc sc nf fd me mp xn mt wh tq ag an ig)), ((q 2), aI g 600 bs), ((q 3), aI g 2 ru), ((q 4), aI g 12 rs), ((q 5), aI g 480 rt)]) (wc := [(h0, .inr (10, mob q rf n mm mb fa fp av ev wi mn tp tc sc nf fd me mp xn mt wh tq ag an ig))]) (As := [.int 1]) (rest := []) E hB hK hZ (g_Mod_refused l g H.size h0 q n mm mb fa fp av ev wi mn tp tc sc nf fd me mp xn mt wh tq ag an ig rf 1) mc_Mod_refused mi_Mod_refused me_Mod_refused wd_1446 hP hD hS hA [0] rfl (by decide) 0 rfl rfl rfl rfl rfl (by decide) rfl hl.1 rfl (Nat.le_of_ble_eq_true rfl) (by decide) d_Mod_rule_105) hP hD hS hA [0] [1, 2, 3, 4] rfl rfl (by decide) (by decide) (fun r4 u5 H locs hr4 hP hD hS => ?_)
            try dsimp only at hr4
            have hP : va_P g.1 classes [((q 2), aI g 600 bs), ((q 3), aI g 2 ru), ((q 4), aI g 12 rs), ((q 5), aI g 480 rt), (h0, .inr (10, mob q u5 n mm mb fa fp av ev wi mn tp tc sc nf fd me mp xn mt wh tq ag an ig))] H := hP
            have hD : va_D A [((q 2), aI g 600 bs), ((q 3), aI g 2 ru), ((q 4), aI g 12 rs), ((q 5), aI g 480 rt), (h0, .inr (10, mob q u5 n mm mb fa fp av ev wi mn tp tc sc nf fd me mp xn mt wh tq ag an ig))] := hD
            have hP : va_P g.1 classes [(h0, .inr (10, mob q u5 n mm mb fa fp av ev wi mn tp tc sc nf fd me mp xn mt wh tq ag an ig)), ((q 2), aI g 600 bs), ((q 3), aI g 2 ru), ((q 4), aI g 12 rs), ((q 5), aI g 480 rt)] H := hP.sub [4, 0, 1, 2, 3] rfl
            have hD : va_D A [(h0, .inr (10, mob q u5 n mm mb fa fp av ev wi mn tp tc sc nf fd me mp xn mt wh tq ag an ig)), ((q 2), aI g 600 bs), ((q 3), aI g 2 ru), ((q 4), aI g 12 rs), ((q 5), aI g 480 rt)] := hD.sub [4, 0, 1, 2, 3] (by decide) rfl
            obtain ⟨hB5, hp5_0⟩ := hr4
            have hrr105 : r4 = 1 := hB5.2.trans (by decide)
            subst hrr105
            refine lv_if_eq (tgt := 113) hx hb d_Mod_rule_108 (by decide) (fun h108 => ?_) (fun h108 => ?_)
            · first | exact absurd h108 (by decide) | exact absurd (by decide) h108
            · refine lv_iconst (v := 0) hx hb d_Mod_rule_111 (by decide) ?_
              exact tw_iret E hS (u5, n, ru, rs, rt) (Or.inl ⟨hp5_0, (ru_n2 h25), rfl, rfl, rfl⟩) hP hD d_Mod_rule_112
        · first | exact absurd h45 (by decide) | exact absurd (by decide) h45
      · have h25 := tn_nlt h25 (by omega) (by omega)
        refine lv_iconst (v := 1) hx hb d_Mod_rule_28 (by decide) ?_
        refine lv_goto (tgt := 33) hx hb d_Mod_rule_29 (by decide) ?_
        refine lv_istore hx hb d_Mod_rule_33 hl (by decide) rfl (fun ls hl => ?_)
        have hl : lv_has ls 7 [(4, .int 1), (3, .int 0), (0, .ref h0), (1, .int al), (2, .int (nI q1))] := hl
        refine lv_aload_n hx hb d_Mod_rule_35 rfl (lv_at hl 2 rfl) ?_
        refine va_get (D := g.1) (ci := 10) (v := .int (nI n)) (C := R_Mod) (T := F_Mod) (N := 61) hx hb hts in_Mod hown hK hP 0 rfl rfl 1 (by decide) (hts _ wd_1251) (fun _ h9 => h9) rfl d_Mod_rule_36 ?_
        refine lv_iload_n hx hb d_Mod_rule_39 rfl (lv_at hl 4 rfl) ?_
        refine lv_isub hx hb d_Mod_rule_40 ?_
        refine tw_ri (e2 := nI (n - q1)) (pk_sub h25) ?_
        refine lv_istore hx hb d_Mod_rule_41 hl (by decide) rfl (fun ls hl => ?_)
        have hl : lv_has ls 7 [(5, .int (nI (n - q1))), (4, .int 1), (3, .int 0), (0, .ref h0), (1, .int al), (2, .int (nI q1))] := hl
        have loop43 : ∀ (kq : Nat) (s9 : Int32) (j : Nat) (ls : Array Slot) (H : Heap) (locs : List Loc) , n - j = kq → (hj1 : n - q1 ≤ j) → (hj2 : j ≤ n) → (hsj : RSJ bs n q1 j s9) → lv_has ls 7 [(5, .int (nI j)), (4, .int s9), (3, .int 0), (0, .ref h0), (1, .int al), (2, .int (nI q1))] → va_P g.1 classes [(h0, .inr (10, mob q rf n mm mb fa fp av ev wi mn tp tc sc nf fd me mp xn mt wh tq ag an ig)), ((q 2), aI g 600 bs), ((q 3), aI g 2 ru), ((q 4), aI g 12 rs), ((q 5), aI g 480 rt)] H → va_D A [(h0, .inr (10, mob q rf n mm mb fa fp av ev wi mn tp tc sc nf fd me mp xn mt wh tq ag an ig)), ((q 2), aI g 600 bs), ((q 3), aI g 2 ru), ((q 4), aI g 12 rs), ((q 5), aI g 480 rt)] → va_S A s.heap H locs → W p l e ({ frames := 1, cells := 0, slots := 0, locals := 22 }) s m [.ref h0, .int al, .int (nI q1)].toArray below meth c H locs 0 0 (MQ below (tw_Qi g (fun (r : Int32) (u : Int32 × Nat × (Nat → Int32) × (Nat → Int32) × (Nat → Int32)) => (RUP u.1 r n u.2.1 bs ru rs u.2.2.1 u.2.2.2.1 al (nI q1))) (fun u : Int32 × Nat × (Nat → Int32) × (Nat → Int32) × (Nat → Int32) => [(h0, .inr (10, mob q u.1 u.2.1 mm mb fa fp av ev wi mn tp tc sc nf fd me mp xn mt wh tq ag an ig)), ((q 2), aI g 600 bs), ((q 3), aI g 2 u.2.2.1), ((q 4), aI g 12 u.2.2.2.1), ((q 5), aI g 480 u.2.2.2.2)]) A) [.ref h0, .int al, .int (nI q1)].toArray s 0 0 A) (F0 m 43 ls []) := by
          intro kq
          induction kq using Nat.strongRecOn with
          | _ kq ih =>
            intro s9 j ls H locs hk hj1 hj2 hsj hl hP hD hS
            refine lv_iload hx hb d_Mod_rule_43 (lv_at hl 1 rfl) ?_
            refine lv_if_eq (tgt := 79) hx hb d_Mod_rule_45 (by decide) (fun h45 => ?_) (fun h45 => ?_)
            · refine lv_aload_n hx hb d_Mod_rule_79 rfl (lv_at hl 3 rfl) ?_
              refine lv_iload hx hb d_Mod_rule_80 (lv_at hl 1 rfl) ?_
              refine lv_if_ne (tgt := 89) hx hb d_Mod_rule_82 (by decide) (fun h82 => ?_) (fun h82 => ?_)
              · exact absurd h45 h82
              · refine lv_iconst (v := 1) hx hb d_Mod_rule_85 (by decide) ?_
                refine lv_goto (tgt := 105) hx hb d_Mod_rule_86 (by decide) ?_
                refine tw_wi (wr := [((q 2), aI g 600 bs), ((q 3), aI g 2 ru), ((q 4), aI g 12 rs), ((q 5), aI g 480 rt)]) (tw_runV (ws := [(h0, .inr (10, mob q rf n mm mb fa fp av ev wi mn tp tc sc nf fd me mp xn mt wh tq ag an ig)), ((q 2), aI g 600 bs), ((q 3), aI g 2 ru), ((q 4), aI g 12 rs), ((q 5), aI g 480 rt)]) (wc := [(h0, .inr (10, mob q rf n mm mb fa fp av ev wi mn tp tc sc nf fd me mp xn mt wh tq ag an ig))]) (As := [.int 1]) (rest := []) E hB hK hZ (g_Mod_refused l g H.size h0 q n mm mb fa fp av ev wi mn tp tc sc nf fd me mp xn mt wh tq ag an ig rf 1) mc_Mod_refused mi_Mod_refused me_Mod_refused wd_1446 hP hD hS hA [0] rfl (by decide) 0 rfl rfl rfl rfl rfl (by decide) rfl hl.1 rfl (Nat.le_of_ble_eq_true rfl) (by decide) d_Mod_rule_105) hP hD hS hA [0] [1, 2, 3, 4] rfl rfl (by decide) (by decide) (fun r6 u7 H locs hr6 hP hD hS => ?_)
                try dsimp only at hr6
                have hP : va_P g.1 classes [((q 2), aI g 600 bs), ((q 3), aI g 2 ru), ((q 4), aI g 12 rs), ((q 5), aI g 480 rt), (h0, .inr (10, mob q u7 n mm mb fa fp av ev wi mn tp tc sc nf fd me mp xn mt wh tq ag an ig))] H := hP
                have hD : va_D A [((q 2), aI g 600 bs), ((q 3), aI g 2 ru), ((q 4), aI g 12 rs), ((q 5), aI g 480 rt), (h0, .inr (10, mob q u7 n mm mb fa fp av ev wi mn tp tc sc nf fd me mp xn mt wh tq ag an ig))] := hD
                have hP : va_P g.1 classes [(h0, .inr (10, mob q u7 n mm mb fa fp av ev wi mn tp tc sc nf fd me mp xn mt wh tq ag an ig)), ((q 2), aI g 600 bs), ((q 3), aI g 2 ru), ((q 4), aI g 12 rs), ((q 5), aI g 480 rt)] H := hP.sub [4, 0, 1, 2, 3] rfl
                have hD : va_D A [(h0, .inr (10, mob q u7 n mm mb fa fp av ev wi mn tp tc sc nf fd me mp xn mt wh tq ag an ig)), ((q 2), aI g 600 bs), ((q 3), aI g 2 ru), ((q 4), aI g 12 rs), ((q 5), aI g 480 rt)] := hD.sub [4, 0, 1, 2, 3] (by decide) rfl
                obtain ⟨hB7, hp7_0⟩ := hr6
                have hrr105 : r6 = 1 := hB7.2.trans (by decide)
                subst hrr105
                refine lv_if_eq (tgt := 113) hx hb d_Mod_rule_108 (by decide) (fun h108 => ?_) (fun h108 => ?_)
                · first | exact absurd h108 (by decide) | exact absurd (by decide) h108
                · refine lv_iconst (v := 0) hx hb d_Mod_rule_111 (by decide) ?_
                  exact tw_iret E hS (u7, n, ru, rs, rt) (Or.inl ⟨hp7_0, (ru_n3 hsj h45), rfl, rfl, rfl⟩) hP hD d_Mod_rule_112
            · refine lv_iload hx hb d_Mod_rule_48 (lv_at hl 0 rfl) ?_
              refine lv_aload_n hx hb d_Mod_rule_50 rfl (lv_at hl 3 rfl) ?_
              refine va_get (D := g.1) (ci := 10) (v := .int (nI n)) (C := R_Mod) (T := F_Mod) (N := 61) hx hb hts in_Mod hown hK hP 0 rfl rfl 1 (by decide) (hts _ wd_1251) (fun _ h9 => h9) rfl d_Mod_rule_51 ?_
              refine lv_icmp_ge (tgt := 79) hx hb d_Mod_rule_54 (by decide) (fun h54 => ?_) (fun h54 => ?_)
              · have h54 := tn_le h54 (by omega) (by omega)
                refine lv_aload_n hx hb d_Mod_rule_79 rfl (lv_at hl 3 rfl) ?_
                refine lv_iload hx hb d_Mod_rule_80 (lv_at hl 1 rfl) ?_
                refine lv_if_ne (tgt := 89) hx hb d_Mod_rule_82 (by decide) (fun h82 => ?_) (fun h82 => ?_)
                · refine lv_aload_n hx hb d_Mod_rule_89 rfl (lv_at hl 3 rfl) ?_
                  refine va_get (D := g.1) (ci := 10) (v := .ref (q 3)) (C := R_Mod) (T := F_Mod) (N := 61) hx hb hts in_Mod hown hK hP 0 rfl rfl 3 (by decide) (hts _ wd_1253) (fun _ h9 => h9) rfl d_Mod_rule_90 ?_
                  refine lv_iload_n hx hb d_Mod_rule_93 rfl (lv_at hl 2 rfl) ?_
                  refine va_iald hx hb hK hP 2 0 rfl rfl (vp_in_nI (n := 0) (by decide) (by decide)) d_Mod_rule_94 ?_
                  refine tw_ri (e2 := nI c9) ec ?_
                  refine lv_bipush (v := 6) hx hb d_Mod_rule_95 (by decide) ?_
                  refine lv_icmp_ne (tgt := 104) hx hb d_Mod_rule_97 (by decide) (fun h97 => ?_) (fun h97 => ?_)
                  · have h97 := tn_ne (b := 6) h97
                    refine lv_iconst (v := 0) hx hb d_Mod_rule_104 (by decide) ?_
                    refine tw_wi (wr := [((q 2), aI g 600 bs), ((q 3), aI g 2 ru), ((q 4), aI g 12 rs), ((q 5), aI g 480 rt)]) (tw_runV (ws := [(h0, .inr (10, mob q rf n mm mb fa fp av ev wi mn tp tc sc nf fd me mp xn mt wh tq ag an ig)), ((q 2), aI g 600 bs), ((q 3), aI g 2 ru), ((q 4), aI g 12 rs), ((q 5), aI g 480 rt)]) (wc := [(h0, .inr (10, mob q rf n mm mb fa fp av ev wi mn tp tc sc nf fd me mp xn mt wh tq ag an ig))]) (As := [.int 0]) (rest := []) E hB hK hZ (g_Mod_refused l g H.size h0 q n mm mb fa fp av ev wi mn tp tc sc nf fd me mp xn mt wh tq ag an ig rf 0) mc_Mod_refused mi_Mod_refused me_Mod_refused wd_1446 hP hD hS hA [0] rfl (by decide) 0 rfl rfl rfl rfl rfl (by decide) rfl hl.1 rfl (Nat.le_of_ble_eq_true rfl) (by decide) d_Mod_rule_105) hP hD hS hA [0] [1, 2, 3, 4] rfl rfl (by decide) (by decide) (fun r8 u9 H locs hr8 hP hD hS => ?_)
                    try dsimp only at hr8
                    have hP : va_P g.1 classes [((q 2), aI g 600 bs), ((q 3), aI g 2 ru), ((q 4), aI g 12 rs), ((q 5), aI g 480 rt), (h0, .inr (10, mob q u9 n mm mb fa fp av ev wi mn tp tc sc nf fd me mp xn mt wh tq ag an ig))] H := hP
                    have hD : va_D A [((q 2), aI g 600 bs), ((q 3), aI g 2 ru), ((q 4), aI g 12 rs), ((q 5), aI g 480 rt), (h0, .inr (10, mob q u9 n mm mb fa fp av ev wi mn tp tc sc nf fd me mp xn mt wh tq ag an ig))] := hD
                    have hP : va_P g.1 classes [(h0, .inr (10, mob q u9 n mm mb fa fp av ev wi mn tp tc sc nf fd me mp xn mt wh tq ag an ig)), ((q 2), aI g 600 bs), ((q 3), aI g 2 ru), ((q 4), aI g 12 rs), ((q 5), aI g 480 rt)] H := hP.sub [4, 0, 1, 2, 3] rfl
                    have hD : va_D A [(h0, .inr (10, mob q u9 n mm mb fa fp av ev wi mn tp tc sc nf fd me mp xn mt wh tq ag an ig)), ((q 2), aI g 600 bs), ((q 3), aI g 2 ru), ((q 4), aI g 12 rs), ((q 5), aI g 480 rt)] := hD.sub [4, 0, 1, 2, 3] (by decide) rfl
                    obtain ⟨hB9, hp9_0⟩ := hr8
                    have hrr105 : r8 = 0 := hB9.2.trans (by decide)
                    subst hrr105
                    refine lv_if_eq (tgt := 113) hx hb d_Mod_rule_108 (by decide) (fun h108 => ?_) (fun h108 => ?_)
                    · refine lv_bipush (v := 6) hx hb d_Mod_rule_113 (by decide) ?_
                      refine lv_iload_n hx hb d_Mod_rule_115 rfl (lv_at hl 2 rfl) ?_
                      refine lv_imul hx hb d_Mod_rule_116 ?_
                      refine tw_ri (e2 := 0) (by decide) ?_
                      refine lv_aload_n hx hb d_Mod_rule_117 rfl (lv_at hl 3 rfl) ?_
                      refine va_get (D := g.1) (ci := 10) (v := .ref (q 3)) (C := R_Mod) (T := F_Mod) (N := 61) hx hb hts in_Mod hown hK hP 0 rfl rfl 3 (by decide) (hts _ wd_1253) (fun _ h9 => h9) rfl d_Mod_rule_118 ?_
                      refine lv_iload_n hx hb d_Mod_rule_121 rfl (lv_at hl 2 rfl) ?_
                      refine va_iald hx hb hK hP 2 0 rfl rfl (vp_in_nI (n := 0) (by decide) (by decide)) d_Mod_rule_122 ?_
                      refine tw_ri (e2 := nI c9) ec ?_
                      refine lv_iadd hx hb d_Mod_rule_123 ?_
                      refine tw_ri (e2 := nI (0 + c9)) (nI_add 0 c9) ?_
                      refine lv_istore hx hb d_Mod_rule_124 hl (by decide) rfl (fun ls hl => ?_)
                      have hl : lv_has ls 7 [(5, .int (nI (0 + c9))), (4, .int s9), (3, .int 0), (0, .ref h0), (1, .int al), (2, .int (nI q1))] := hl
                      refine lv_aload_n hx hb d_Mod_rule_126 rfl (lv_at hl 3 rfl) ?_
                      refine va_get (D := g.1) (ci := 10) (v := .ref (q 4)) (C := R_Mod) (T := F_Mod) (N := 61) hx hb hts in_Mod hown hK hP 0 rfl rfl 4 (by decide) (hts _ wd_1254) (fun _ h9 => h9) rfl d_Mod_rule_127 ?_
                      refine lv_iload hx hb d_Mod_rule_130 (lv_at hl 0 rfl) ?_
                      refine lv_iload_n hx hb d_Mod_rule_132 rfl (lv_at hl 5 rfl) ?_
                      refine va_iast hx hb hK hP hD hS 3 0 rfl rfl (vp_in_nI (by omega) (by decide)) d_Mod_rule_133 (fun H locs hP hD hS => ?_)
                      have hP : va_P g.1 classes [(h0, .inr (10, mob q u9 n mm mb fa fp av ev wi mn tp tc sc nf fd me mp xn mt wh tq ag an ig)), ((q 2), aI g 600 bs), ((q 3), aI g 2 ru), ((q 4), aI g 12 (upd rs (nI (0 + c9)).toNatClampNeg (nI q1))), ((q 5), aI g 480 rt)] H := hP
                      have hD : va_D A [(h0, .inr (10, mob q u9 n mm mb fa fp av ev wi mn tp tc sc nf fd me mp xn mt wh tq ag an ig)), ((q 2), aI g 600 bs), ((q 3), aI g 2 ru), ((q 4), aI g 12 (upd rs (nI (0 + c9)).toNatClampNeg (nI q1))), ((q 5), aI g 480 rt)] := hD
                      have e9 : upd rs (nI (0 + c9)).toNatClampNeg (nI q1) = upd rs (0 + c9) (nI q1) := by rw [nI_clamp (by omega)]
                      rw [e9] at hP hD
                      refine lv_iconst (v := 0) hx hb d_Mod_rule_134 (by decide) ?_
                      refine lv_istore hx hb d_Mod_rule_135 hl (by decide) rfl (fun ls hl => ?_)
                      have hl : lv_has ls 7 [(6, .int 0), (5, .int (nI (0 + c9))), (4, .int s9), (3, .int 0), (0, .ref h0), (1, .int al), (2, .int (nI q1))] := hl
                      have loop137 : ∀ (kq : Nat) (i : Nat) (rt9 : Nat → Int32) (ls : Array Slot) (H : Heap) (locs : List Loc) , q1 - i = kq → (hi : i ≤ q1) → lv_has ls 7 [(6, .int (nI i)), (5, .int (nI (0 + c9))), (4, .int s9), (3, .int 0), (0, .ref h0), (1, .int al), (2, .int (nI q1))] → va_P g.1 classes [(h0, .inr (10, mob q u9 n mm mb fa fp av ev wi mn tp tc sc nf fd me mp xn mt wh tq ag an ig)), ((q 2), aI g 600 bs), ((q 3), aI g 2 ru), ((q 4), aI g 12 (upd rs (0 + c9) (nI q1))), ((q 5), aI g 480 rt9)] H → va_D A [(h0, .inr (10, mob q u9 n mm mb fa fp av ev wi mn tp tc sc nf fd me mp xn mt wh tq ag an ig)), ((q 2), aI g 600 bs), ((q 3), aI g 2 ru), ((q 4), aI g 12 (upd rs (0 + c9) (nI q1))), ((q 5), aI g 480 rt9)] → va_S A s.heap H locs → W p l e ({ frames := 1, cells := 0, slots := 0, locals := 22 }) s m [.ref h0, .int al, .int (nI q1)].toArray below meth c H locs 0 0 (MQ below (tw_Qi g (fun (r : Int32) (u : Int32 × Nat × (Nat → Int32) × (Nat → Int32) × (Nat → Int32)) => (RUP u.1 r n u.2.1 bs ru rs u.2.2.1 u.2.2.2.1 al (nI q1))) (fun u : Int32 × Nat × (Nat → Int32) × (Nat → Int32) × (Nat → Int32) => [(h0, .inr (10, mob q u.1 u.2.1 mm mb fa fp av ev wi mn tp tc sc nf fd me mp xn mt wh tq ag an ig)), ((q 2), aI g 600 bs), ((q 3), aI g 2 u.2.2.1), ((q 4), aI g 12 u.2.2.2.1), ((q 5), aI g 480 u.2.2.2.2)]) A) [.ref h0, .int al, .int (nI q1)].toArray s 0 0 A) (F0 m 137 ls []) := by
                        intro kq
                        induction kq using Nat.strongRecOn with
                        | _ kq ih137 =>
                          intro i rt9 ls H locs hk137 hi hl hP hD hS
                          refine lv_iload hx hb d_Mod_rule_137 (lv_at hl 0 rfl) ?_
                          refine lv_iload_n hx hb d_Mod_rule_139 rfl (lv_at hl 6 rfl) ?_
                          refine lv_icmp_ge (tgt := 176) hx hb d_Mod_rule_140 (by decide) (fun h140 => ?_) (fun h140 => ?_)
                          · refine lv_aload_n hx hb d_Mod_rule_176 rfl (lv_at hl 4 rfl) ?_
                            refine lv_aload_n hx hb d_Mod_rule_177 rfl (lv_at hl 4 rfl) ?_
                            refine va_get (D := g.1) (ci := 10) (v := .int (nI n)) (C := R_Mod) (T := F_Mod) (N := 61) hx hb hts in_Mod hown hK hP 0 rfl rfl 1 (by decide) (hts _ wd_1251) (fun _ h9 => h9) rfl d_Mod_rule_178 ?_
                            refine lv_iload_n hx hb d_Mod_rule_181 rfl (lv_at hl 6 rfl) ?_
                            refine lv_isub hx hb d_Mod_rule_182 ?_
                            refine tw_ri (e2 := nI (n - q1)) (pk_sub h25) ?_
                            refine va_put (D := g.1) (ci := 10) (v := .int (nI (n - q1))) (ty := .int) (C := R_Mod) (T := F_Mod) (N := 61) hx hb hts in_Mod t_Mod t_Mod_ok n_Mod hown hK hP hD hS 0 rfl rfl 1 (by decide) (hts _ wd_1251) (fun _ h9 => h9) rfl (t_Mod_ok 1 (by decide)) rfl rfl (Nat.le_of_ble_eq_true rfl) d_Mod_rule_183 (fun H locs hP hD hS => ?_)
                            have hP : va_P g.1 classes [(h0, .inr (10, mob q u9 (n - q1) mm mb fa fp av ev wi mn tp tc sc nf fd me mp xn mt wh tq ag an ig)), ((q 2), aI g 600 bs), ((q 3), aI g 2 ru), ((q 4), aI g 12 (upd rs (0 + c9) (nI q1))), ((q 5), aI g 480 rt9)] H := hP
                            have hD : va_D A [(h0, .inr (10, mob q u9 (n - q1) mm mb fa fp av ev wi mn tp tc sc nf fd me mp xn mt wh tq ag an ig)), ((q 2), aI g 600 bs), ((q 3), aI g 2 ru), ((q 4), aI g 12 (upd rs (0 + c9) (nI q1))), ((q 5), aI g 480 rt9)] := hD
                            refine lv_aload_n hx hb d_Mod_rule_186 rfl (lv_at hl 4 rfl) ?_
                            refine va_get (D := g.1) (ci := 10) (v := .ref (q 3)) (C := R_Mod) (T := F_Mod) (N := 61) hx hb hts in_Mod hown hK hP 0 rfl rfl 3 (by decide) (hts _ wd_1253) (fun _ h9 => h9) rfl d_Mod_rule_187 ?_
                            refine lv_iload_n hx hb d_Mod_rule_190 rfl (lv_at hl 3 rfl) ?_
                            refine lv_dup2_11 hx hb d_Mod_rule_191 rfl rfl ?_
                            refine va_iald hx hb hK hP 2 0 rfl rfl (vp_in_nI (n := 0) (by decide) (by decide)) d_Mod_rule_192 ?_
                            refine tw_ri (e2 := nI c9) ec ?_
                            refine lv_iconst (v := 1) hx hb d_Mod_rule_193 (by decide) ?_
                            refine lv_iadd hx hb d_Mod_rule_194 ?_
                            refine tw_ri (e2 := nI (c9 + 1)) (nI_add c9 1) ?_
                            refine va_iast hx hb hK hP hD hS 2 0 rfl rfl (vp_in_nI (n := 0) (by decide) (by decide)) d_Mod_rule_195 (fun H locs hP hD hS => ?_)
                            have hP : va_P g.1 classes [(h0, .inr (10, mob q u9 (n - q1) mm mb fa fp av ev wi mn tp tc sc nf fd me mp xn mt wh tq ag an ig)), ((q 2), aI g 600 bs), ((q 3), aI g 2 (upd ru (0 : Int32).toNatClampNeg (nI (c9 + 1)))), ((q 4), aI g 12 (upd rs (0 + c9) (nI q1))), ((q 5), aI g 480 rt9)] H := hP
                            have hD : va_D A [(h0, .inr (10, mob q u9 (n - q1) mm mb fa fp av ev wi mn tp tc sc nf fd me mp xn mt wh tq ag an ig)), ((q 2), aI g 600 bs), ((q 3), aI g 2 (upd ru (0 : Int32).toNatClampNeg (nI (c9 + 1)))), ((q 4), aI g 12 (upd rs (0 + c9) (nI q1))), ((q 5), aI g 480 rt9)] := hD
                            have e9 : upd ru (0 : Int32).toNatClampNeg (nI (c9 + 1)) = upd ru 0 (nI (c9 + 1)) := rfl
                            rw [e9] at hP hD
                            refine lv_aload_n hx hb d_Mod_rule_196 rfl (lv_at hl 4 rfl) ?_
                            refine va_get (D := g.1) (ci := 10) (v := .ref (q 3)) (C := R_Mod) (T := F_Mod) (N := 61) hx hb hts in_Mod hown hK hP 0 rfl rfl 3 (by decide) (hts _ wd_1253) (fun _ h9 => h9) rfl d_Mod_rule_197 ?_
                            refine lv_iload_n hx hb d_Mod_rule_200 rfl (lv_at hl 3 rfl) ?_
                            refine va_iald hx hb hK hP 2 0 rfl rfl (vp_in_nI (n := 0) (by decide) (by decide)) d_Mod_rule_201 ?_
                            refine tw_ri (e2 := nI (c9 + 1)) (if_pos rfl) ?_
                            exact tw_iret E hS (u9, n - q1, upd ru 0 (nI (c9 + 1)), upd rs (0 + c9) (nI q1), rt9) (by unfold RUP; rw [hso]; exact Or.inr (Or.inr ⟨hp9_0, q1, c9, rfl, h25, ru_y hsj h45 (by omega) hq1 hq4 h25, ec, by omega, rfl, rfl, rfl, hq4, rfl⟩)) hP hD d_Mod_rule_202
                          · have h140 := tn_nle h140 (by omega) (by omega)
                            refine lv_aload_n hx hb d_Mod_rule_143 rfl (lv_at hl 4 rfl) ?_
                            refine va_get (D := g.1) (ci := 10) (v := .ref (q 5)) (C := R_Mod) (T := F_Mod) (N := 61) hx hb hts in_Mod hown hK hP 0 rfl rfl 5 (by decide) (hts _ wd_1255) (fun _ h9 => h9) rfl d_Mod_rule_144 ?_
                            refine lv_bipush (v := 40) hx hb d_Mod_rule_147 (by decide) ?_
                            refine lv_iload hx hb d_Mod_rule_149 (lv_at hl 1 rfl) ?_
                            refine lv_imul hx hb d_Mod_rule_151 ?_
                            refine tw_ri (e2 := nI (40 * (0 + c9))) (pk_mul 40 _) ?_
                            refine lv_iload hx hb d_Mod_rule_152 (lv_at hl 0 rfl) ?_
                            refine lv_iadd hx hb d_Mod_rule_154 ?_
                            refine tw_ri (e2 := nI (40 * (0 + c9) + i)) (nI_add _ _) ?_
                            refine lv_aload_n hx hb d_Mod_rule_155 rfl (lv_at hl 4 rfl) ?_
                            refine va_get (D := g.1) (ci := 10) (v := .ref (q 2)) (C := R_Mod) (T := F_Mod) (N := 61) hx hb hts in_Mod hown hK hP 0 rfl rfl 2 (by decide) (hts _ wd_1252) (fun _ h9 => h9) rfl d_Mod_rule_156 ?_
                            refine lv_aload_n hx hb d_Mod_rule_159 rfl (lv_at hl 4 rfl) ?_
                            refine va_get (D := g.1) (ci := 10) (v := .int (nI n)) (C := R_Mod) (T := F_Mod) (N := 61) hx hb hts in_Mod hown hK hP 0 rfl rfl 1 (by decide) (hts _ wd_1251) (fun _ h9 => h9) rfl d_Mod_rule_160 ?_
                            refine lv_iload_n hx hb d_Mod_rule_163 rfl (lv_at hl 6 rfl) ?_
                            refine lv_isub hx hb d_Mod_rule_164 ?_
                            refine tw_ri (e2 := nI (n - q1)) (pk_sub h25) ?_
                            refine lv_iload hx hb d_Mod_rule_165 (lv_at hl 0 rfl) ?_
                            refine lv_iadd hx hb d_Mod_rule_167 ?_
                            refine tw_ri (e2 := nI (n - q1 + i)) (nI_add _ _) ?_
                            refine va_iald hx hb hK hP 1 0 rfl rfl (vp_in_nI (by omega) (by decide)) d_Mod_rule_168 ?_
                            obtain ⟨x10, ex10⟩ : ∃ z : Int32, bs ((nI (n - q1 + i)).toNatClampNeg) = z := ⟨_, rfl⟩
                            refine tw_ri (e2 := x10) ex10 ?_
                            refine va_iast hx hb hK hP hD hS 4 0 rfl rfl (vp_in_nI (by omega) (by decide)) d_Mod_rule_169 (fun H locs hP hD hS => ?_)
                            have hP : va_P g.1 classes [(h0, .inr (10, mob q u9 n mm mb fa fp av ev wi mn tp tc sc nf fd me mp xn mt wh tq ag an ig)), ((q 2), aI g 600 bs), ((q 3), aI g 2 ru), ((q 4), aI g 12 (upd rs (0 + c9) (nI q1))), ((q 5), aI g 480 (upd rt9 (nI (40 * (0 + c9) + i)).toNatClampNeg x10))] H := hP
                            have hD : va_D A [(h0, .inr (10, mob q u9 n mm mb fa fp av ev wi mn tp tc sc nf fd me mp xn mt wh tq ag an ig)), ((q 2), aI g 600 bs), ((q 3), aI g 2 ru), ((q 4), aI g 12 (upd rs (0 + c9) (nI q1))), ((q 5), aI g 480 (upd rt9 (nI (40 * (0 + c9) + i)).toNatClampNeg x10))] := hD
                            refine lv_iinc (k := 0) (v := nI (i + 1)) hx hb d_Mod_rule_170 hl rfl ((nI_succ i).symm) (by decide) rfl (fun ls hl => ?_)
                            have hl : lv_has ls 7 [(6, .int (nI (i + 1))), (5, .int (nI (0 + c9))), (4, .int s9), (3, .int 0), (0, .ref h0), (1, .int al), (2, .int (nI q1))] := hl
                            refine lv_goto (tgt := 137) hx hb d_Mod_rule_173 (by decide) ?_
                            have hP : va_P g.1 classes [(h0, .inr (10, mob q u9 n mm mb fa fp av ev wi mn tp tc sc nf fd me mp xn mt wh tq ag an ig)), ((q 2), aI g 600 bs), ((q 3), aI g 2 ru), ((q 4), aI g 12 (upd rs (0 + c9) (nI q1))), ((q 5), aI g 480 (upd rt9 (nI (40 * (0 + c9) + i)).toNatClampNeg x10))] H := hP.sub [0, 1, 2, 3, 4] rfl
                            have hD : va_D A [(h0, .inr (10, mob q u9 n mm mb fa fp av ev wi mn tp tc sc nf fd me mp xn mt wh tq ag an ig)), ((q 2), aI g 600 bs), ((q 3), aI g 2 ru), ((q 4), aI g 12 (upd rs (0 + c9) (nI q1))), ((q 5), aI g 480 (upd rt9 (nI (40 * (0 + c9) + i)).toNatClampNeg x10))] := hD.sub [0, 1, 2, 3, 4] (by decide) rfl
                            exact ih137 _ (by omega) (i + 1) (upd rt9 (nI (40 * (0 + c9) + i)).toNatClampNeg x10) ls _ _ rfl (by omega) (lv_sub hl [0, 1, 2, 3, 4, 5, 6] rfl) hP hD hS
                      exact loop137 _ 0 rt ls _ _ rfl (Nat.zero_le _) (hl) hP hD hS
                    · first | exact absurd h108 (by decide) | exact absurd (by decide) h108
                  · refine lv_iconst (v := 2) hx hb d_Mod_rule_100 (by decide) ?_
                    refine lv_goto (tgt := 105) hx hb d_Mod_rule_101 (by decide) ?_
                    refine tw_wi (wr := [((q 2), aI g 600 bs), ((q 3), aI g 2 ru), ((q 4), aI g 12 rs), ((q 5), aI g 480 rt)]) (tw_runV (ws := [(h0, .inr (10, mob q rf n mm mb fa fp av ev wi mn tp tc sc nf fd me mp xn mt wh tq ag an ig)), ((q 2), aI g 600 bs), ((q 3), aI g 2 ru), ((q 4), aI g 12 rs), ((q 5), aI g 480 rt)]) (wc := [(h0, .inr (10, mob q rf n mm mb fa fp av ev wi mn tp tc sc nf fd me mp xn mt wh tq ag an ig))]) (As := [.int 2]) (rest := []) E hB hK hZ (g_Mod_refused l g H.size h0 q n mm mb fa fp av ev wi mn tp tc sc nf fd me mp xn mt wh tq ag an ig rf 2) mc_Mod_refused mi_Mod_refused me_Mod_refused wd_1446 hP hD hS hA [0] rfl (by decide) 0 rfl rfl rfl rfl rfl (by decide) rfl hl.1 rfl (Nat.le_of_ble_eq_true rfl) (by decide) d_Mod_rule_105) hP hD hS hA [0] [1, 2, 3, 4] rfl rfl (by decide) (by decide) (fun r11 u12 H locs hr11 hP hD hS => ?_)
                    try dsimp only at hr11
                    have hP : va_P g.1 classes [((q 2), aI g 600 bs), ((q 3), aI g 2 ru), ((q 4), aI g 12 rs), ((q 5), aI g 480 rt), (h0, .inr (10, mob q u12 n mm mb fa fp av ev wi mn tp tc sc nf fd me mp xn mt wh tq ag an ig))] H := hP
                    have hD : va_D A [((q 2), aI g 600 bs), ((q 3), aI g 2 ru), ((q 4), aI g 12 rs), ((q 5), aI g 480 rt), (h0, .inr (10, mob q u12 n mm mb fa fp av ev wi mn tp tc sc nf fd me mp xn mt wh tq ag an ig))] := hD
                    have hP : va_P g.1 classes [(h0, .inr (10, mob q u12 n mm mb fa fp av ev wi mn tp tc sc nf fd me mp xn mt wh tq ag an ig)), ((q 2), aI g 600 bs), ((q 3), aI g 2 ru), ((q 4), aI g 12 rs), ((q 5), aI g 480 rt)] H := hP.sub [4, 0, 1, 2, 3] rfl
                    have hD : va_D A [(h0, .inr (10, mob q u12 n mm mb fa fp av ev wi mn tp tc sc nf fd me mp xn mt wh tq ag an ig)), ((q 2), aI g 600 bs), ((q 3), aI g 2 ru), ((q 4), aI g 12 rs), ((q 5), aI g 480 rt)] := hD.sub [4, 0, 1, 2, 3] (by decide) rfl
                    obtain ⟨hB12, hp12_0⟩ := hr11
                    have hrr105 : r11 = 1 := hB12.2.trans (by decide)
                    subst hrr105
                    refine lv_if_eq (tgt := 113) hx hb d_Mod_rule_108 (by decide) (fun h108 => ?_) (fun h108 => ?_)
                    · first | exact absurd h108 (by decide) | exact absurd (by decide) h108
                    · refine lv_iconst (v := 0) hx hb d_Mod_rule_111 (by decide) ?_
                      exact tw_iret E hS (u12, n, ru, rs, rt) (by unfold RUP; rw [hso]; exact Or.inr (Or.inl ⟨hp12_0, ru_y hsj h45 (by omega) hq1 hq4 h25, ec.trans h97, rfl, rfl, rfl⟩)) hP hD d_Mod_rule_112
                · exact absurd h82 h45
              · have h54 := tn_nle h54 (by omega) (by omega)
                refine lv_aload_n hx hb d_Mod_rule_57 rfl (lv_at hl 3 rfl) ?_
                refine va_get (D := g.1) (ci := 10) (v := .ref (q 2)) (C := R_Mod) (T := F_Mod) (N := 61) hx hb hts in_Mod hown hK hP 0 rfl rfl 2 (by decide) (hts _ wd_1252) (fun _ h9 => h9) rfl d_Mod_rule_58 ?_
                refine lv_iload hx hb d_Mod_rule_61 (lv_at hl 0 rfl) ?_
                refine va_iald hx hb hK hP 1 0 rfl rfl (vp_in_nI (by omega) (by decide)) d_Mod_rule_63 ?_
                refine tw_ri (e2 := nI (bt bs j)) (by rw [nI_clamp (by omega)]; exact bt_eq hbs (by omega)) ?_
                refine lv_bipush (v := 33) hx hb d_Mod_rule_64 (by decide) ?_
                refine lv_bipush (v := 126) hx hb d_Mod_rule_66 (by decide) ?_
                refine tw_si (tw_runS (ws := [(h0, .inr (10, mob q rf n mm mb fa fp av ev wi mn tp tc sc nf fd me mp xn mt wh tq ag an ig)), ((q 2), aI g 600 bs), ((q 3), aI g 2 ru), ((q 4), aI g 12 rs), ((q 5), aI g 480 rt)]) (wc := []) (As := [.int (nI (bt bs j)), .int 33, .int 126]) (rest := []) E hB hK hZ (c_Mod_isIn l g H.size (nI (bt bs j)) 33 126) mc_Mod_isIn ms_Mod_isIn wd_1443 hP hD hS hA [] rfl (by decide) rfl rfl (by decide) rfl hl.1 rfl (Nat.le_of_ble_eq_true rfl) (by decide) d_Mod_rule_68) (fun r13 hr13 => ?_)
                obtain rfl : r13 = is_in (nI (bt bs j)) 33 126 := hr13
                refine lv_istore hx hb d_Mod_rule_71 hl (by decide) rfl (fun ls hl => ?_)
                have hl : lv_has ls 7 [(4, .int (is_in (nI (bt bs j)) 33 126)), (5, .int (nI j)), (3, .int 0), (0, .ref h0), (1, .int al), (2, .int (nI q1))] := hl
                refine lv_iinc (k := 1) (v := nI (j + 1)) hx hb d_Mod_rule_73 hl rfl ((nI_succ j).symm) (by decide) rfl (fun ls hl => ?_)
                have hl : lv_has ls 7 [(5, .int (nI (j + 1))), (4, .int (is_in (nI (bt bs j)) 33 126)), (3, .int 0), (0, .ref h0), (1, .int al), (2, .int (nI q1))] := hl
                refine lv_goto (tgt := 43) hx hb d_Mod_rule_76 (by decide) ?_
                have hP : va_P g.1 classes [(h0, .inr (10, mob q rf n mm mb fa fp av ev wi mn tp tc sc nf fd me mp xn mt wh tq ag an ig)), ((q 2), aI g 600 bs), ((q 3), aI g 2 ru), ((q 4), aI g 12 rs), ((q 5), aI g 480 rt)] H := hP.sub [0, 1, 2, 3, 4] rfl
                have hD : va_D A [(h0, .inr (10, mob q rf n mm mb fa fp av ev wi mn tp tc sc nf fd me mp xn mt wh tq ag an ig)), ((q 2), aI g 600 bs), ((q 3), aI g 2 ru), ((q 4), aI g 12 rs), ((q 5), aI g 480 rt)] := hD.sub [0, 1, 2, 3, 4] (by decide) rfl
                exact ih _ (by omega) (is_in (nI (bt bs j)) 33 126) (j + 1) ls _ _ rfl (by omega) (by omega) (ru_step hsj h45 hj1 h54 (bt_lt hbs (by omega))) (lv_sub hl [0, 1, 2, 3, 4, 5] rfl) hP hD hS
        exact loop43 _ 1 (n - q1) ls _ _ rfl (Nat.le_refl _) (by omega) (Or.inl ⟨rfl, fun i h1 h2 => absurd h2 (by omega)⟩) (hl) hP hD hS
  · have hso : so_ al = 1 := if_neg h1
    obtain ⟨c9, hc6, ec⟩ := hru 1 (by decide)
    refine lv_iconst (v := 1) hx hb d_Mod_rule_4 (by decide) ?_
    refine lv_goto (tgt := 9) hx hb d_Mod_rule_5 (by decide) ?_
    refine lv_istore_n hx hb d_Mod_rule_9 rfl hl (by decide) rfl (fun ls hl => ?_)
    have hl : lv_has ls 7 [(3, .int 1), (0, .ref h0), (1, .int al), (2, .int k9)] := hl
    refine lv_iload_n hx hb d_Mod_rule_10 rfl (lv_at hl 3 rfl) ?_
    refine lv_iconst (v := 1) hx hb d_Mod_rule_11 (by decide) ?_
    refine lv_bipush (v := 40) hx hb d_Mod_rule_12 (by decide) ?_
    refine tw_si (tw_runS (ws := [(h0, .inr (10, mob q rf n mm mb fa fp av ev wi mn tp tc sc nf fd me mp xn mt wh tq ag an ig)), ((q 2), aI g 600 bs), ((q 3), aI g 2 ru), ((q 4), aI g 12 rs), ((q 5), aI g 480 rt)]) (wc := []) (As := [.int k9, .int 1, .int 40]) (rest := []) E hB hK hZ (c_Mod_isIn l g H.size k9 1 40) mc_Mod_isIn ms_Mod_isIn wd_1443 hP hD hS hA [] rfl (by decide) rfl rfl (by decide) rfl hl.1 rfl (Nat.le_of_ble_eq_true rfl) (by decide) d_Mod_rule_14) (fun r14 hr14 => ?_)
    obtain rfl : r14 = is_in k9 1 40 := hr14
    refine lv_if_eq (tgt := 32) hx hb d_Mod_rule_17 (by decide) (fun h17 => ?_) (fun h17 => ?_)
    · refine lv_iconst (v := 0) hx hb d_Mod_rule_32 (by decide) ?_
      refine lv_istore hx hb d_Mod_rule_33 hl (by decide) rfl (fun ls hl => ?_)
      have hl : lv_has ls 7 [(4, .int 0), (3, .int 1), (0, .ref h0), (1, .int al), (2, .int k9)] := hl
      refine lv_aload_n hx hb d_Mod_rule_35 rfl (lv_at hl 2 rfl) ?_
      refine va_get (D := g.1) (ci := 10) (v := .int (nI n)) (C := R_Mod) (T := F_Mod) (N := 61) hx hb hts in_Mod hown hK hP 0 rfl rfl 1 (by decide) (hts _ wd_1251) (fun _ h9 => h9) rfl d_Mod_rule_36 ?_
      refine lv_iload_n hx hb d_Mod_rule_39 rfl (lv_at hl 4 rfl) ?_
      refine lv_isub hx hb d_Mod_rule_40 ?_
      refine tw_ri (e2 := (nI n) - k9) rfl ?_
      refine lv_istore hx hb d_Mod_rule_41 hl (by decide) rfl (fun ls hl => ?_)
      have hl : lv_has ls 7 [(5, .int ((nI n) - k9)), (4, .int 0), (3, .int 1), (0, .ref h0), (1, .int al), (2, .int k9)] := hl
      refine lv_iload hx hb d_Mod_rule_43 (lv_at hl 1 rfl) ?_
      refine lv_if_eq (tgt := 79) hx hb d_Mod_rule_45 (by decide) (fun h45 => ?_) (fun h45 => ?_)
      · refine lv_aload_n hx hb d_Mod_rule_79 rfl (lv_at hl 3 rfl) ?_
        refine lv_iload hx hb d_Mod_rule_80 (lv_at hl 1 rfl) ?_
        refine lv_if_ne (tgt := 89) hx hb d_Mod_rule_82 (by decide) (fun h82 => ?_) (fun h82 => ?_)
        · first | exact absurd h82 (by decide) | exact absurd (by decide) h82
        · refine lv_iconst (v := 1) hx hb d_Mod_rule_85 (by decide) ?_
          refine lv_goto (tgt := 105) hx hb d_Mod_rule_86 (by decide) ?_
          refine tw_wi (wr := [((q 2), aI g 600 bs), ((q 3), aI g 2 ru), ((q 4), aI g 12 rs), ((q 5), aI g 480 rt)]) (tw_runV (ws := [(h0, .inr (10, mob q rf n mm mb fa fp av ev wi mn tp tc sc nf fd me mp xn mt wh tq ag an ig)), ((q 2), aI g 600 bs), ((q 3), aI g 2 ru), ((q 4), aI g 12 rs), ((q 5), aI g 480 rt)]) (wc := [(h0, .inr (10, mob q rf n mm mb fa fp av ev wi mn tp tc sc nf fd me mp xn mt wh tq ag an ig))]) (As := [.int 1]) (rest := []) E hB hK hZ (g_Mod_refused l g H.size h0 q n mm mb fa fp av ev wi mn tp tc sc nf fd me mp xn mt wh tq ag an ig rf 1) mc_Mod_refused mi_Mod_refused me_Mod_refused wd_1446 hP hD hS hA [0] rfl (by decide) 0 rfl rfl rfl rfl rfl (by decide) rfl hl.1 rfl (Nat.le_of_ble_eq_true rfl) (by decide) d_Mod_rule_105) hP hD hS hA [0] [1, 2, 3, 4] rfl rfl (by decide) (by decide) (fun r15 u16 H locs hr15 hP hD hS => ?_)
          try dsimp only at hr15
          have hP : va_P g.1 classes [((q 2), aI g 600 bs), ((q 3), aI g 2 ru), ((q 4), aI g 12 rs), ((q 5), aI g 480 rt), (h0, .inr (10, mob q u16 n mm mb fa fp av ev wi mn tp tc sc nf fd me mp xn mt wh tq ag an ig))] H := hP
          have hD : va_D A [((q 2), aI g 600 bs), ((q 3), aI g 2 ru), ((q 4), aI g 12 rs), ((q 5), aI g 480 rt), (h0, .inr (10, mob q u16 n mm mb fa fp av ev wi mn tp tc sc nf fd me mp xn mt wh tq ag an ig))] := hD
          have hP : va_P g.1 classes [(h0, .inr (10, mob q u16 n mm mb fa fp av ev wi mn tp tc sc nf fd me mp xn mt wh tq ag an ig)), ((q 2), aI g 600 bs), ((q 3), aI g 2 ru), ((q 4), aI g 12 rs), ((q 5), aI g 480 rt)] H := hP.sub [4, 0, 1, 2, 3] rfl
          have hD : va_D A [(h0, .inr (10, mob q u16 n mm mb fa fp av ev wi mn tp tc sc nf fd me mp xn mt wh tq ag an ig)), ((q 2), aI g 600 bs), ((q 3), aI g 2 ru), ((q 4), aI g 12 rs), ((q 5), aI g 480 rt)] := hD.sub [4, 0, 1, 2, 3] (by decide) rfl
          obtain ⟨hB16, hp16_0⟩ := hr15
          have hrr105 : r15 = 1 := hB16.2.trans (by decide)
          subst hrr105
          refine lv_if_eq (tgt := 113) hx hb d_Mod_rule_108 (by decide) (fun h108 => ?_) (fun h108 => ?_)
          · first | exact absurd h108 (by decide) | exact absurd (by decide) h108
          · refine lv_iconst (v := 0) hx hb d_Mod_rule_111 (by decide) ?_
            exact tw_iret E hS (u16, n, ru, rs, rt) (Or.inl ⟨hp16_0, (ru_n1 h17), rfl, rfl, rfl⟩) hP hD d_Mod_rule_112
      · first | exact absurd h45 (by decide) | exact absurd (by decide) h45
    · obtain ⟨q1, hke, hq1, hq4⟩ := ru_k h17
      subst hke
      refine lv_iload_n hx hb d_Mod_rule_20 rfl (lv_at hl 3 rfl) ?_
      refine lv_aload_n hx hb d_Mod_rule_21 rfl (lv_at hl 1 rfl) ?_
      refine va_get (D := g.1) (ci := 10) (v := .int (nI n)) (C := R_Mod) (T := F_Mod) (N := 61) hx hb hts in_Mod hown hK hP 0 rfl rfl 1 (by decide) (hts _ wd_1251) (fun _ h9 => h9) rfl d_Mod_rule_22 ?_
      refine lv_icmp_gt (tgt := 32) hx hb d_Mod_rule_25 (by decide) (fun h25 => ?_) (fun h25 => ?_)
      · have h25 := tn_lt h25 (by omega) (by omega)
        refine lv_iconst (v := 0) hx hb d_Mod_rule_32 (by decide) ?_
        refine lv_istore hx hb d_Mod_rule_33 hl (by decide) rfl (fun ls hl => ?_)
        have hl : lv_has ls 7 [(4, .int 0), (3, .int 1), (0, .ref h0), (1, .int al), (2, .int (nI q1))] := hl
        refine lv_aload_n hx hb d_Mod_rule_35 rfl (lv_at hl 2 rfl) ?_
        refine va_get (D := g.1) (ci := 10) (v := .int (nI n)) (C := R_Mod) (T := F_Mod) (N := 61) hx hb hts in_Mod hown hK hP 0 rfl rfl 1 (by decide) (hts _ wd_1251) (fun _ h9 => h9) rfl d_Mod_rule_36 ?_
        refine lv_iload_n hx hb d_Mod_rule_39 rfl (lv_at hl 4 rfl) ?_
        refine lv_isub hx hb d_Mod_rule_40 ?_
        refine tw_ri (e2 := (nI n) - (nI q1)) rfl ?_
        refine lv_istore hx hb d_Mod_rule_41 hl (by decide) rfl (fun ls hl => ?_)
        have hl : lv_has ls 7 [(5, .int ((nI n) - (nI q1))), (4, .int 0), (3, .int 1), (0, .ref h0), (1, .int al), (2, .int (nI q1))] := hl
        refine lv_iload hx hb d_Mod_rule_43 (lv_at hl 1 rfl) ?_
        refine lv_if_eq (tgt := 79) hx hb d_Mod_rule_45 (by decide) (fun h45 => ?_) (fun h45 => ?_)
        · refine lv_aload_n hx hb d_Mod_rule_79 rfl (lv_at hl 3 rfl) ?_
          refine lv_iload hx hb d_Mod_rule_80 (lv_at hl 1 rfl) ?_
          refine lv_if_ne (tgt := 89) hx hb d_Mod_rule_82 (by decide) (fun h82 => ?_) (fun h82 => ?_)
          · first | exact absurd h82 (by decide) | exact absurd (by decide) h82
          · refine lv_iconst (v := 1) hx hb d_Mod_rule_85 (by decide) ?_
            refine lv_goto (tgt := 105) hx hb d_Mod_rule_86 (by decide) ?_
            refine tw_wi (wr := [((q 2), aI g 600 bs), ((q 3), aI g 2 ru), ((q 4), aI g 12 rs), ((q 5), aI g 480 rt)]) (tw_runV (ws := [(h0, .inr (10, mob q rf n mm mb fa fp av ev wi mn tp tc sc nf fd me mp xn mt wh tq ag an ig)), ((q 2), aI g 600 bs), ((q 3), aI g 2 ru), ((q 4), aI g 12 rs), ((q 5), aI g 480 rt)]) (wc := [(h0, .inr (10, mob q rf n mm mb fa fp av ev wi mn tp tc sc nf fd me mp xn mt wh tq ag an ig))]) (As := [.int 1]) (rest := []) E hB hK hZ (g_Mod_refused l g H.size h0 q n mm mb fa fp av ev wi mn tp tc sc nf fd me mp xn mt wh tq ag an ig rf 1) mc_Mod_refused mi_Mod_refused me_Mod_refused wd_1446 hP hD hS hA [0] rfl (by decide) 0 rfl rfl rfl rfl rfl (by decide) rfl hl.1 rfl (Nat.le_of_ble_eq_true rfl) (by decide) d_Mod_rule_105) hP hD hS hA [0] [1, 2, 3, 4] rfl rfl (by decide) (by decide) (fun r17 u18 H locs hr17 hP hD hS => ?_)
            try dsimp only at hr17
            have hP : va_P g.1 classes [((q 2), aI g 600 bs), ((q 3), aI g 2 ru), ((q 4), aI g 12 rs), ((q 5), aI g 480 rt), (h0, .inr (10, mob q u18 n mm mb fa fp av ev wi mn tp tc sc nf fd me mp xn mt wh tq ag an ig))] H := hP
            have hD : va_D A [((q 2), aI g 600 bs), ((q 3), aI g 2 ru), ((q 4), aI g 12 rs), ((q 5), aI g 480 rt), (h0, .inr (10, mob q u18 n mm mb fa fp av ev wi mn tp tc sc nf fd me mp xn mt wh tq ag an ig))] := hD
            have hP : va_P g.1 classes [(h0, .inr (10, mob q u18 n mm mb fa fp av ev wi mn tp tc sc nf fd me mp xn mt wh tq ag an ig)), ((q 2), aI g 600 bs), ((q 3), aI g 2 ru), ((q 4), aI g 12 rs), ((q 5), aI g 480 rt)] H := hP.sub [4, 0, 1, 2, 3] rfl
            have hD : va_D A [(h0, .inr (10, mob q u18 n mm mb fa fp av ev wi mn tp tc sc nf fd me mp xn mt wh tq ag an ig)), ((q 2), aI g 600 bs), ((q 3), aI g 2 ru), ((q 4), aI g 12 rs), ((q 5), aI g 480 rt)] := hD.sub [4, 0, 1, 2, 3] (by decide) rfl
            obtain ⟨hB18, hp18_0⟩ := hr17
            have hrr105 : r17 = 1 := hB18.2.trans (by decide)
            subst hrr105
            refine lv_if_eq (tgt := 113) hx hb d_Mod_rule_108 (by decide) (fun h108 => ?_) (fun h108 => ?_)
            · first | exact absurd h108 (by decide) | exact absurd (by decide) h108
            · refine lv_iconst (v := 0) hx hb d_Mod_rule_111 (by decide) ?_
              exact tw_iret E hS (u18, n, ru, rs, rt) (Or.inl ⟨hp18_0, (ru_n2 h25), rfl, rfl, rfl⟩) hP hD d_Mod_rule_112
        · first | exact absurd h45 (by decide) | exact absurd (by decide) h45
      · have h25 := tn_nlt h25 (by omega) (by omega)
        refine lv_iconst (v := 1) hx hb d_Mod_rule_28 (by decide) ?_
        refine lv_goto (tgt := 33) hx hb d_Mod_rule_29 (by decide) ?_
        refine lv_istore hx hb d_Mod_rule_33 hl (by decide) rfl (fun ls hl => ?_)
        have hl : lv_has ls 7 [(4, .int 1), (3, .int 1), (0, .ref h0), (1, .int al), (2, .int (nI q1))] := hl
        refine lv_aload_n hx hb d_Mod_rule_35 rfl (lv_at hl 2 rfl) ?_
        refine va_get (D := g.1) (ci := 10) (v := .int (nI n)) (C := R_Mod) (T := F_Mod) (N := 61) hx hb hts in_Mod hown hK hP 0 rfl rfl 1 (by decide) (hts _ wd_1251) (fun _ h9 => h9) rfl d_Mod_rule_36 ?_
        refine lv_iload_n hx hb d_Mod_rule_39 rfl (lv_at hl 4 rfl) ?_
        refine lv_isub hx hb d_Mod_rule_40 ?_
        refine tw_ri (e2 := nI (n - q1)) (pk_sub h25) ?_
        refine lv_istore hx hb d_Mod_rule_41 hl (by decide) rfl (fun ls hl => ?_)
        have hl : lv_has ls 7 [(5, .int (nI (n - q1))), (4, .int 1), (3, .int 1), (0, .ref h0), (1, .int al), (2, .int (nI q1))] := hl
        have loop43 : ∀ (kq : Nat) (s9 : Int32) (j : Nat) (ls : Array Slot) (H : Heap) (locs : List Loc) , n - j = kq → (hj1 : n - q1 ≤ j) → (hj2 : j ≤ n) → (hsj : RSJ bs n q1 j s9) → lv_has ls 7 [(5, .int (nI j)), (4, .int s9), (3, .int 1), (0, .ref h0), (1, .int al), (2, .int (nI q1))] → va_P g.1 classes [(h0, .inr (10, mob q rf n mm mb fa fp av ev wi mn tp tc sc nf fd me mp xn mt wh tq ag an ig)), ((q 2), aI g 600 bs), ((q 3), aI g 2 ru), ((q 4), aI g 12 rs), ((q 5), aI g 480 rt)] H → va_D A [(h0, .inr (10, mob q rf n mm mb fa fp av ev wi mn tp tc sc nf fd me mp xn mt wh tq ag an ig)), ((q 2), aI g 600 bs), ((q 3), aI g 2 ru), ((q 4), aI g 12 rs), ((q 5), aI g 480 rt)] → va_S A s.heap H locs → W p l e ({ frames := 1, cells := 0, slots := 0, locals := 22 }) s m [.ref h0, .int al, .int (nI q1)].toArray below meth c H locs 0 0 (MQ below (tw_Qi g (fun (r : Int32) (u : Int32 × Nat × (Nat → Int32) × (Nat → Int32) × (Nat → Int32)) => (RUP u.1 r n u.2.1 bs ru rs u.2.2.1 u.2.2.2.1 al (nI q1))) (fun u : Int32 × Nat × (Nat → Int32) × (Nat → Int32) × (Nat → Int32) => [(h0, .inr (10, mob q u.1 u.2.1 mm mb fa fp av ev wi mn tp tc sc nf fd me mp xn mt wh tq ag an ig)), ((q 2), aI g 600 bs), ((q 3), aI g 2 u.2.2.1), ((q 4), aI g 12 u.2.2.2.1), ((q 5), aI g 480 u.2.2.2.2)]) A) [.ref h0, .int al, .int (nI q1)].toArray s 0 0 A) (F0 m 43 ls []) := by
          intro kq
          induction kq using Nat.strongRecOn with
          | _ kq ih =>
            intro s9 j ls H locs hk hj1 hj2 hsj hl hP hD hS
            refine lv_iload hx hb d_Mod_rule_43 (lv_at hl 1 rfl) ?_
            refine lv_if_eq (tgt := 79) hx hb d_Mod_rule_45 (by decide) (fun h45 => ?_) (fun h45 => ?_)
            · refine lv_aload_n hx hb d_Mod_rule_79 rfl (lv_at hl 3 rfl) ?_
              refine lv_iload hx hb d_Mod_rule_80 (lv_at hl 1 rfl) ?_
              refine lv_if_ne (tgt := 89) hx hb d_Mod_rule_82 (by decide) (fun h82 => ?_) (fun h82 => ?_)
              · exact absurd h45 h82
              · refine lv_iconst (v := 1) hx hb d_Mod_rule_85 (by decide) ?_
                refine lv_goto (tgt := 105) hx hb d_Mod_rule_86 (by decide) ?_
                refine tw_wi (wr := [((q 2), aI g 600 bs), ((q 3), aI g 2 ru), ((q 4), aI g 12 rs), ((q 5), aI g 480 rt)]) (tw_runV (ws := [(h0, .inr (10, mob q rf n mm mb fa fp av ev wi mn tp tc sc nf fd me mp xn mt wh tq ag an ig)), ((q 2), aI g 600 bs), ((q 3), aI g 2 ru), ((q 4), aI g 12 rs), ((q 5), aI g 480 rt)]) (wc := [(h0, .inr (10, mob q rf n mm mb fa fp av ev wi mn tp tc sc nf fd me mp xn mt wh tq ag an ig))]) (As := [.int 1]) (rest := []) E hB hK hZ (g_Mod_refused l g H.size h0 q n mm mb fa fp av ev wi mn tp tc sc nf fd me mp xn mt wh tq ag an ig rf 1) mc_Mod_refused mi_Mod_refused me_Mod_refused wd_1446 hP hD hS hA [0] rfl (by decide) 0 rfl rfl rfl rfl rfl (by decide) rfl hl.1 rfl (Nat.le_of_ble_eq_true rfl) (by decide) d_Mod_rule_105) hP hD hS hA [0] [1, 2, 3, 4] rfl rfl (by decide) (by decide) (fun r19 u20 H locs hr19 hP hD hS => ?_)
                try dsimp only at hr19
                have hP : va_P g.1 classes [((q 2), aI g 600 bs), ((q 3), aI g 2 ru), ((q 4), aI g 12 rs), ((q 5), aI g 480 rt), (h0, .inr (10, mob q u20 n mm mb fa fp av ev wi mn tp tc sc nf fd me mp xn mt wh tq ag an ig))] H := hP
                have hD : va_D A [((q 2), aI g 600 bs), ((q 3), aI g 2 ru), ((q 4), aI g 12 rs), ((q 5), aI g 480 rt), (h0, .inr (10, mob q u20 n mm mb fa fp av ev wi mn tp tc sc nf fd me mp xn mt wh tq ag an ig))] := hD
                have hP : va_P g.1 classes [(h0, .inr (10, mob q u20 n mm mb fa fp av ev wi mn tp tc sc nf fd me mp xn mt wh tq ag an ig)), ((q 2), aI g 600 bs), ((q 3), aI g 2 ru), ((q 4), aI g 12 rs), ((q 5), aI g 480 rt)] H := hP.sub [4, 0, 1, 2, 3] rfl
                have hD : va_D A [(h0, .inr (10, mob q u20 n mm mb fa fp av ev wi mn tp tc sc nf fd me mp xn mt wh tq ag an ig)), ((q 2), aI g 600 bs), ((q 3), aI g 2 ru), ((q 4), aI g 12 rs), ((q 5), aI g 480 rt)] := hD.sub [4, 0, 1, 2, 3] (by decide) rfl
                obtain ⟨hB20, hp20_0⟩ := hr19
                have hrr105 : r19 = 1 := hB20.2.trans (by decide)
                subst hrr105
                refine lv_if_eq (tgt := 113) hx hb d_Mod_rule_108 (by decide) (fun h108 => ?_) (fun h108 => ?_)
                · first | exact absurd h108 (by decide) | exact absurd (by decide) h108
                · refine lv_iconst (v := 0) hx hb d_Mod_rule_111 (by decide) ?_
                  exact tw_iret E hS (u20, n, ru, rs, rt) (Or.inl ⟨hp20_0, (ru_n3 hsj h45), rfl, rfl, rfl⟩) hP hD d_Mod_rule_112
            · refine lv_iload hx hb d_Mod_rule_48 (lv_at hl 0 rfl) ?_
              refine lv_aload_n hx hb d_Mod_rule_50 rfl (lv_at hl 3 rfl) ?_
              refine va_get (D := g.1) (ci := 10) (v := .int (nI n)) (C := R_Mod) (T := F_Mod) (N := 61) hx hb hts in_Mod hown hK hP 0 rfl rfl 1 (by decide) (hts _ wd_1251) (fun _ h9 => h9) rfl d_Mod_rule_51 ?_
              refine lv_icmp_ge (tgt := 79) hx hb d_Mod_rule_54 (by decide) (fun h54 => ?_) (fun h54 => ?_)
              · have h54 := tn_le h54 (by omega) (by omega)
                refine lv_aload_n hx hb d_Mod_rule_79 rfl (lv_at hl 3 rfl) ?_
                refine lv_iload hx hb d_Mod_rule_80 (lv_at hl 1 rfl) ?_
                refine lv_if_ne (tgt := 89) hx hb d_Mod_rule_82 (by decide) (fun h82 => ?_) (fun h82 => ?_)
                · refine lv_aload_n hx hb d_Mod_rule_89 rfl (lv_at hl 3 rfl) ?_
                  refine va_get (D := g.1) (ci := 10) (v := .ref (q 3)) (C := R_Mod) (T := F_Mod) (N := 61) hx hb hts in_Mod hown hK hP 0 rfl rfl 3 (by decide) (hts _ wd_1253) (fun _ h9 => h9) rfl d_Mod_rule_90 ?_
                  refine lv_iload_n hx hb d_Mod_rule_93 rfl (lv_at hl 2 rfl) ?_
                  refine va_iald hx hb hK hP 2 0 rfl rfl (vp_in_nI (n := 1) (by decide) (by decide)) d_Mod_rule_94 ?_
                  refine tw_ri (e2 := nI c9) ec ?_
                  refine lv_bipush (v := 6) hx hb d_Mod_rule_95 (by decide) ?_
                  refine lv_icmp_ne (tgt := 104) hx hb d_Mod_rule_97 (by decide) (fun h97 => ?_) (fun h97 => ?_)
                  · have h97 := tn_ne (b := 6) h97
                    refine lv_iconst (v := 0) hx hb d_Mod_rule_104 (by decide) ?_
                    refine tw_wi (wr := [((q 2), aI g 600 bs), ((q 3), aI g 2 ru), ((q 4), aI g 12 rs), ((q 5), aI g 480 rt)]) (tw_runV (ws := [(h0, .inr (10, mob q rf n mm mb fa fp av ev wi mn tp tc sc nf fd me mp xn mt wh tq ag an ig)), ((q 2), aI g 600 bs), ((q 3), aI g 2 ru), ((q 4), aI g 12 rs), ((q 5), aI g 480 rt)]) (wc := [(h0, .inr (10, mob q rf n mm mb fa fp av ev wi mn tp tc sc nf fd me mp xn mt wh tq ag an ig))]) (As := [.int 0]) (rest := []) E hB hK hZ (g_Mod_refused l g H.size h0 q n mm mb fa fp av ev wi mn tp tc sc nf fd me mp xn mt wh tq ag an ig rf 0) mc_Mod_refused mi_Mod_refused me_Mod_refused wd_1446 hP hD hS hA [0] rfl (by decide) 0 rfl rfl rfl rfl rfl (by decide) rfl hl.1 rfl (Nat.le_of_ble_eq_true rfl) (by decide) d_Mod_rule_105) hP hD hS hA [0] [1, 2, 3, 4] rfl rfl (by decide) (by decide) (fun r21 u22 H locs hr21 hP hD hS => ?_)
                    try dsimp only at hr21
                    have hP : va_P g.1 classes [((q 2), aI g 600 bs), ((q 3), aI g 2 ru), ((q 4), aI g 12 rs), ((q 5), aI g 480 rt), (h0, .inr (10, mob q u22 n mm mb fa fp av ev wi mn tp tc sc nf fd me mp xn mt wh tq ag an ig))] H := hP
                    have hD : va_D A [((q 2), aI g 600 bs), ((q 3), aI g 2 ru), ((q 4), aI g 12 rs), ((q 5), aI g 480 rt), (h0, .inr (10, mob q u22 n mm mb fa fp av ev wi mn tp tc sc nf fd me mp xn mt wh tq ag an ig))] := hD
                    have hP : va_P g.1 classes [(h0, .inr (10, mob q u22 n mm mb fa fp av ev wi mn tp tc sc nf fd me mp xn mt wh tq ag an ig)), ((q 2), aI g 600 bs), ((q 3), aI g 2 ru), ((q 4), aI g 12 rs), ((q 5), aI g 480 rt)] H := hP.sub [4, 0, 1, 2, 3] rfl
                    have hD : va_D A [(h0, .inr (10, mob q u22 n mm mb fa fp av ev wi mn tp tc sc nf fd me mp xn mt wh tq ag an ig)), ((q 2), aI g 600 bs), ((q 3), aI g 2 ru), ((q 4), aI g 12 rs), ((q 5), aI g 480 rt)] := hD.sub [4, 0, 1, 2, 3] (by decide) rfl
                    obtain ⟨hB22, hp22_0⟩ := hr21
                    have hrr105 : r21 = 0 := hB22.2.trans (by decide)
                    subst hrr105
                    refine lv_if_eq (tgt := 113) hx hb d_Mod_rule_108 (by decide) (fun h108 => ?_) (fun h108 => ?_)
                    · refine lv_bipush (v := 6) hx hb d_Mod_rule_113 (by decide) ?_
                      refine lv_iload_n hx hb d_Mod_rule_115 rfl (lv_at hl 2 rfl) ?_
                      refine lv_imul hx hb d_Mod_rule_116 ?_
                      refine tw_ri (e2 := 6) (by decide) ?_
                      refine lv_aload_n hx hb d_Mod_rule_117 rfl (lv_at hl 3 rfl) ?_
                      refine va_get (D := g.1) (ci := 10) (v := .ref (q 3)) (C := R_Mod) (T := F_Mod) (N := 61) hx hb hts in_Mod hown hK hP 0 rfl rfl 3 (by decide) (hts _ wd_1253) (fun _ h9 => h9) rfl d_Mod_rule_118 ?_
                      refine lv_iload_n hx hb d_Mod_rule_121 rfl (lv_at hl 2 rfl) ?_
                      refine va_iald hx hb hK hP 2 0 rfl rfl (vp_in_nI (n := 1) (by decide) (by decide)) d_Mod_rule_122 ?_
                      refine tw_ri (e2 := nI c9) ec ?_
                      refine lv_iadd hx hb d_Mod_rule_123 ?_
                      refine tw_ri (e2 := nI (6 + c9)) (nI_add 6 c9) ?_
                      refine lv_istore hx hb d_Mod_rule_124 hl (by decide) rfl (fun ls hl => ?_)
                      have hl : lv_has ls 7 [(5, .int (nI (6 + c9))), (4, .int s9), (3, .int 1), (0, .ref h0), (1, .int al), (2, .int (nI q1))] := hl
                      refine lv_aload_n hx hb d_Mod_rule_126 rfl (lv_at hl 3 rfl) ?_
                      refine va_get (D := g.1) (ci := 10) (v := .ref (q 4)) (C := R_Mod) (T := F_Mod) (N := 61) hx hb hts in_Mod hown hK hP 0 rfl rfl 4 (by decide) (hts _ wd_1254) (fun _ h9 => h9) rfl d_Mod_rule_127 ?_
                      refine lv_iload hx hb d_Mod_rule_130 (lv_at hl 0 rfl) ?_
                      refine lv_iload_n hx hb d_Mod_rule_132 rfl (lv_at hl 5 rfl) ?_
                      refine va_iast hx hb hK hP hD hS 3 0 rfl rfl (vp_in_nI (by omega) (by decide)) d_Mod_rule_133 (fun H locs hP hD hS => ?_)
                      have hP : va_P g.1 classes [(h0, .inr (10, mob q u22 n mm mb fa fp av ev wi mn tp tc sc nf fd me mp xn mt wh tq ag an ig)), ((q 2), aI g 600 bs), ((q 3), aI g 2 ru), ((q 4), aI g 12 (upd rs (nI (6 + c9)).toNatClampNeg (nI q1))), ((q 5), aI g 480 rt)] H := hP
                      have hD : va_D A [(h0, .inr (10, mob q u22 n mm mb fa fp av ev wi mn tp tc sc nf fd me mp xn mt wh tq ag an ig)), ((q 2), aI g 600 bs), ((q 3), aI g 2 ru), ((q 4), aI g 12 (upd rs (nI (6 + c9)).toNatClampNeg (nI q1))), ((q 5), aI g 480 rt)] := hD
                      have e9 : upd rs (nI (6 + c9)).toNatClampNeg (nI q1) = upd rs (6 + c9) (nI q1) := by rw [nI_clamp (by omega)]
                      rw [e9] at hP hD
                      refine lv_iconst (v := 0) hx hb d_Mod_rule_134 (by decide) ?_
                      refine lv_istore hx hb d_Mod_rule_135 hl (by decide) rfl (fun ls hl => ?_)
                      have hl : lv_has ls 7 [(6, .int 0), (5, .int (nI (6 + c9))), (4, .int s9), (3, .int 1), (0, .ref h0), (1, .int al), (2, .int (nI q1))] := hl
                      have loop137 : ∀ (kq : Nat) (i : Nat) (rt9 : Nat → Int32) (ls : Array Slot) (H : Heap) (locs : List Loc) , q1 - i = kq → (hi : i ≤ q1) → lv_has ls 7 [(6, .int (nI i)), (5, .int (nI (6 + c9))), (4, .int s9), (3, .int 1), (0, .ref h0), (1, .int al), (2, .int (nI q1))] → va_P g.1 classes [(h0, .inr (10, mob q u22 n mm mb fa fp av ev wi mn tp tc sc nf fd me mp xn mt wh tq ag an ig)), ((q 2), aI g 600 bs), ((q 3), aI g 2 ru), ((q 4), aI g 12 (upd rs (6 + c9) (nI q1))), ((q 5), aI g 480 rt9)] H → va_D A [(h0, .inr (10, mob q u22 n mm mb fa fp av ev wi mn tp tc sc nf fd me mp xn mt wh tq ag an ig)), ((q 2), aI g 600 bs), ((q 3), aI g 2 ru), ((q 4), aI g 12 (upd rs (6 + c9) (nI q1))), ((q 5), aI g 480 rt9)] → va_S A s.heap H locs → W p l e ({ frames := 1, cells := 0, slots := 0, locals := 22 }) s m [.ref h0, .int al, .int (nI q1)].toArray below meth c H locs 0 0 (MQ below (tw_Qi g (fun (r : Int32) (u : Int32 × Nat × (Nat → Int32) × (Nat → Int32) × (Nat → Int32)) => (RUP u.1 r n u.2.1 bs ru rs u.2.2.1 u.2.2.2.1 al (nI q1))) (fun u : Int32 × Nat × (Nat → Int32) × (Nat → Int32) × (Nat → Int32) => [(h0, .inr (10, mob q u.1 u.2.1 mm mb fa fp av ev wi mn tp tc sc nf fd me mp xn mt wh tq ag an ig)), ((q 2), aI g 600 bs), ((q 3), aI g 2 u.2.2.1), ((q 4), aI g 12 u.2.2.2.1), ((q 5), aI g 480 u.2.2.2.2)]) A) [.ref h0, .int al, .int (nI q1)].toArray s 0 0 A) (F0 m 137 ls []) := by
                        intro kq
                        induction kq using Nat.strongRecOn with
                        | _ kq ih137 =>
                          intro i rt9 ls H locs hk137 hi hl hP hD hS
                          refine lv_iload hx hb d_Mod_rule_137 (lv_at hl 0 rfl) ?_
                          refine lv_iload_n hx hb d_Mod_rule_139 rfl (lv_at hl 6 rfl) ?_
                          refine lv_icmp_ge (tgt := 176) hx hb d_Mod_rule_140 (by decide) (fun h140 => ?_) (fun h140 => ?_)
                          · refine lv_aload_n hx hb d_Mod_rule_176 rfl (lv_at hl 4 rfl) ?_
                            refine lv_aload_n hx hb d_Mod_rule_177 rfl (lv_at hl 4 rfl) ?_
                            refine va_get (D := g.1) (ci := 10) (v := .int (nI n)) (C := R_Mod) (T := F_Mod) (N := 61) hx hb hts in_Mod hown hK hP 0 rfl rfl 1 (by decide) (hts _ wd_1251) (fun _ h9 => h9) rfl d_Mod_rule_178 ?_
                            refine lv_iload_n hx hb d_Mod_rule_181 rfl (lv_at hl 6 rfl) ?_
                            refine lv_isub hx hb d_Mod_rule_182 ?_
                            refine tw_ri (e2 := nI (n - q1)) (pk_sub h25) ?_
                            refine va_put (D := g.1) (ci := 10) (v := .int (nI (n - q1))) (ty := .int) (C := R_Mod) (T := F_Mod) (N := 61) hx hb hts in_Mod t_Mod t_Mod_ok n_Mod hown hK hP hD hS 0 rfl rfl 1 (by decide) (hts _ wd_1251) (fun _ h9 => h9) rfl (t_Mod_ok 1 (by decide)) rfl rfl (Nat.le_of_ble_eq_true rfl) d_Mod_rule_183 (fun H locs hP hD hS => ?_)
                            have hP : va_P g.1 classes [(h0, .inr (10, mob q u22 (n - q1) mm mb fa fp av ev wi mn tp tc sc nf fd me mp xn mt wh tq ag an ig)), ((q 2), aI g 600 bs), ((q 3), aI g 2 ru), ((q 4), aI g 12 (upd rs (6 + c9) (nI q1))), ((q 5), aI g 480 rt9)] H := hP
                            have hD : va_D A [(h0, .inr (10, mob q u22 (n - q1) mm mb fa fp av ev wi mn tp tc sc nf fd me mp xn mt wh tq ag an ig)), ((q 2), aI g 600 bs), ((q 3), aI g 2 ru), ((q 4), aI g 12 (upd rs (6 + c9) (nI q1))), ((q 5), aI g 480 rt9)] := hD
                            refine lv_aload_n hx hb d_Mod_rule_186 rfl (lv_at hl 4 rfl) ?_
                            refine va_get (D := g.1) (ci := 10) (v := .ref (q 3)) (C := R_Mod) (T := F_Mod) (N := 61) hx hb hts in_Mod hown hK hP 0 rfl rfl 3 (by decide) (hts _ wd_1253) (fun _ h9 => h9) rfl d_Mod_rule_187 ?_
                            refine lv_iload_n hx hb d_Mod_rule_190 rfl (lv_at hl 3 rfl) ?_
                            refine lv_dup2_11 hx hb d_Mod_rule_191 rfl rfl ?_
                            refine va_iald hx hb hK hP 2 0 rfl rfl (vp_in_nI (n := 1) (by decide) (by decide)) d_Mod_rule_192 ?_
                            refine tw_ri (e2 := nI c9) ec ?_
                            refine lv_iconst (v := 1) hx hb d_Mod_rule_193 (by decide) ?_
                            refine lv_iadd hx hb d_Mod_rule_194 ?_
                            refine tw_ri (e2 := nI (c9 + 1)) (nI_add c9 1) ?_
                            refine va_iast hx hb hK hP hD hS 2 0 rfl rfl (vp_in_nI (n := 1) (by decide) (by decide)) d_Mod_rule_195 (fun H locs hP hD hS => ?_)
                            have hP : va_P g.1 classes [(h0, .inr (10, mob q u22 (n - q1) mm mb fa fp av ev wi mn tp tc sc nf fd me mp xn mt wh tq ag an ig)), ((q 2), aI g 600 bs), ((q 3), aI g 2 (upd ru (1 : Int32).toNatClampNeg (nI (c9 + 1)))), ((q 4), aI g 12 (upd rs (6 + c9) (nI q1))), ((q 5), aI g 480 rt9)] H := hP
                            have hD : va_D A [(h0, .inr (10, mob q u22 (n - q1) mm mb fa fp av ev wi mn tp tc sc nf fd me mp xn mt wh tq ag an ig)), ((q 2), aI g 600 bs), ((q 3), aI g 2 (upd ru (1 : Int32).toNatClampNeg (nI (c9 + 1)))), ((q 4), aI g 12 (upd rs (6 + c9) (nI q1))), ((q 5), aI g 480 rt9)] := hD
                            have e9 : upd ru (1 : Int32).toNatClampNeg (nI (c9 + 1)) = upd ru 1 (nI (c9 + 1)) := rfl
                            rw [e9] at hP hD
                            refine lv_aload_n hx hb d_Mod_rule_196 rfl (lv_at hl 4 rfl) ?_
                            refine va_get (D := g.1) (ci := 10) (v := .ref (q 3)) (C := R_Mod) (T := F_Mod) (N := 61) hx hb hts in_Mod hown hK hP 0 rfl rfl 3 (by decide) (hts _ wd_1253) (fun _ h9 => h9) rfl d_Mod_rule_197 ?_
                            refine lv_iload_n hx hb d_Mod_rule_200 rfl (lv_at hl 3 rfl) ?_
                            refine va_iald hx hb hK hP 2 0 rfl rfl (vp_in_nI (n := 1) (by decide) (by decide)) d_Mod_rule_201 ?_
                            refine tw_ri (e2 := nI (c9 + 1)) (if_pos rfl) ?_
                            exact tw_iret E hS (u22, n - q1, upd ru 1 (nI (c9 + 1)), upd rs (6 + c9) (nI q1), rt9) (by unfold RUP; rw [hso]; exact Or.inr (Or.inr ⟨hp22_0, q1, c9, rfl, h25, ru_y hsj h45 (by omega) hq1 hq4 h25, ec, by omega, rfl, rfl, rfl, hq4, rfl⟩)) hP hD d_Mod_rule_202
                          · have h140 := tn_nle h140 (by omega) (by omega)
                            refine lv_aload_n hx hb d_Mod_rule_143 rfl (lv_at hl 4 rfl) ?_
                            refine va_get (D := g.1) (ci := 10) (v := .ref (q 5)) (C := R_Mod) (T := F_Mod) (N := 61) hx hb hts in_Mod hown hK hP 0 rfl rfl 5 (by decide) (hts _ wd_1255) (fun _ h9 => h9) rfl d_Mod_rule_144 ?_
                            refine lv_bipush (v := 40) hx hb d_Mod_rule_147 (by decide) ?_
                            refine lv_iload hx hb d_Mod_rule_149 (lv_at hl 1 rfl) ?_
                            refine lv_imul hx hb d_Mod_rule_151 ?_
                            refine tw_ri (e2 := nI (40 * (6 + c9))) (pk_mul 40 _) ?_
                            refine lv_iload hx hb d_Mod_rule_152 (lv_at hl 0 rfl) ?_
                            refine lv_iadd hx hb d_Mod_rule_154 ?_
                            refine tw_ri (e2 := nI (40 * (6 + c9) + i)) (nI_add _ _) ?_
                            refine lv_aload_n hx hb d_Mod_rule_155 rfl (lv_at hl 4 rfl) ?_
                            refine va_get (D := g.1) (ci := 10) (v := .ref (q 2)) (C := R_Mod) (T := F_Mod) (N := 61) hx hb hts in_Mod hown hK hP 0 rfl rfl 2 (by decide) (hts _ wd_1252) (fun _ h9 => h9) rfl d_Mod_rule_156 ?_
                            refine lv_aload_n hx hb d_Mod_rule_159 rfl (lv_at hl 4 rfl) ?_
                            refine va_get (D := g.1) (ci := 10) (v := .int (nI n)) (C := R_Mod) (T := F_Mod) (N := 61) hx hb hts in_Mod hown hK hP 0 rfl rfl 1 (by decide) (hts _ wd_1251) (fun _ h9 => h9) rfl d_Mod_rule_160 ?_
                            refine lv_iload_n hx hb d_Mod_rule_163 rfl (lv_at hl 6 rfl) ?_
                            refine lv_isub hx hb d_Mod_rule_164 ?_
                            refine tw_ri (e2 := nI (n - q1)) (pk_sub h25) ?_
                            refine lv_iload hx hb d_Mod_rule_165 (lv_at hl 0 rfl) ?_
                            refine lv_iadd hx hb d_Mod_rule_167 ?_
                            refine tw_ri (e2 := nI (n - q1 + i)) (nI_add _ _) ?_
                            refine va_iald hx hb hK hP 1 0 rfl rfl (vp_in_nI (by omega) (by decide)) d_Mod_rule_168 ?_
                            obtain ⟨x23, ex23⟩ : ∃ z : Int32, bs ((nI (n - q1 + i)).toNatClampNeg) = z := ⟨_, rfl⟩
                            refine tw_ri (e2 := x23) ex23 ?_
                            refine va_iast hx hb hK hP hD hS 4 0 rfl rfl (vp_in_nI (by omega) (by decide)) d_Mod_rule_169 (fun H locs hP hD hS => ?_)
                            have hP : va_P g.1 classes [(h0, .inr (10, mob q u22 n mm mb fa fp av ev wi mn tp tc sc nf fd me mp xn mt wh tq ag an ig)), ((q 2), aI g 600 bs), ((q 3), aI g 2 ru), ((q 4), aI g 12 (upd rs (6 + c9) (nI q1))), ((q 5), aI g 480 (upd rt9 (nI (40 * (6 + c9) + i)).toNatClampNeg x23))] H := hP
                            have hD : va_D A [(h0, .inr (10, mob q u22 n mm mb fa fp av ev wi mn tp tc sc nf fd me mp xn mt wh tq ag an ig)), ((q 2), aI g 600 bs), ((q 3), aI g 2 ru), ((q 4), aI g 12 (upd rs (6 + c9) (nI q1))), ((q 5), aI g 480 (upd rt9 (nI (40 * (6 + c9) + i)).toNatClampNeg x23))] := hD
                            refine lv_iinc (k := 0) (v := nI (i + 1)) hx hb d_Mod_rule_170 hl rfl ((nI_succ i).symm) (by decide) rfl (fun ls hl => ?_)
                            have hl : lv_has ls 7 [(6, .int (nI (i + 1))), (5, .int (nI (6 + c9))), (4, .int s9), (3, .int 1), (0, .ref h0), (1, .int al), (2, .int (nI q1))] := hl
                            refine lv_goto (tgt := 137) hx hb d_Mod_rule_173 (by decide) ?_
                            have hP : va_P g.1 classes [(h0, .inr (10, mob q u22 n mm mb fa fp av ev wi mn tp tc sc nf fd me mp xn mt wh tq ag an ig)), ((q 2), aI g 600 bs), ((q 3), aI g 2 ru), ((q 4), aI g 12 (upd rs (6 + c9) (nI q1))), ((q 5), aI g 480 (upd rt9 (nI (40 * (6 + c9) + i)).toNatClampNeg x23))] H := hP.sub [0, 1, 2, 3, 4] rfl
                            have hD : va_D A [(h0, .inr (10, mob q u22 n mm mb fa fp av ev wi mn tp tc sc nf fd me mp xn mt wh tq ag an ig)), ((q 2), aI g 600 bs), ((q 3), aI g 2 ru), ((q 4), aI g 12 (upd rs (6 + c9) (nI q1))), ((q 5), aI g 480 (upd rt9 (nI (40 * (6 + c9) + i)).toNatClampNeg x23))] := hD.sub [0, 1, 2, 3, 4] (by decide) rfl
                            exact ih137 _ (by omega) (i + 1) (upd rt9 (nI (40 * (6 + c9) + i)).toNatClampNeg x23) ls _ _ rfl (by omega) (lv_sub hl [0, 1, 2, 3, 4, 5, 6] rfl) hP hD hS
                      exact loop137 _ 0 rt ls _ _ rfl (Nat.zero_le _) (hl) hP hD hS
                    · first | exact absurd h108 (by decide) | exact absurd (by decide) h108
                  · refine lv_iconst (v := 2) hx hb d_Mod_rule_100 (by decide) ?_
                    refine lv_goto (tgt := 105) hx hb d_Mod_rule_101 (by decide) ?_
                    refine tw_wi (wr := [((q 2), aI g 600 bs), ((q 3), aI g 2 ru), ((q 4), aI g 12 rs), ((q 5), aI g 480 rt)]) (tw_runV (ws := [(h0, .inr (10, mob q rf n mm mb fa fp av ev wi mn tp tc sc nf fd me mp xn mt wh tq ag an ig)), ((q 2), aI g 600 bs), ((q 3), aI g 2 ru), ((q 4), aI g 12 rs), ((q 5), aI g 480 rt)]) (wc := [(h0, .inr (10, mob q rf n mm mb fa fp av ev wi mn tp tc sc nf fd me mp xn mt wh tq ag an ig))]) (As := [.int 2]) (rest := []) E hB hK hZ (g_Mod_refused l g H.size h0 q n mm mb fa fp av ev wi mn tp tc sc nf fd me mp xn mt wh tq ag an ig rf 2) mc_Mod_refused mi_Mod_refused me_Mod_refused wd_1446 hP hD hS hA [0] rfl (by decide) 0 rfl rfl rfl rfl rfl (by decide) rfl hl.1 rfl (Nat.le_of_ble_eq_true rfl) (by decide) d_Mod_rule_105) hP hD hS hA [0] [1, 2, 3, 4] rfl rfl (by decide) (by decide) (fun r24 u25 H locs hr24 hP hD hS => ?_)
                    try dsimp only at hr24
                    have hP : va_P g.1 classes [((q 2), aI g 600 bs), ((q 3), aI g 2 ru), ((q 4), aI g 12 rs), ((q 5), aI g 480 rt), (h0, .inr (10, mob q u25 n mm mb fa fp av ev wi mn tp tc sc nf fd me mp xn mt wh tq ag an ig))] H := hP
                    have hD : va_D A [((q 2), aI g 600 bs), ((q 3), aI g 2 ru), ((q 4), aI g 12 rs), ((q 5), aI g 480 rt), (h0, .inr (10, mob q u25 n mm mb fa fp av ev wi mn tp tc sc nf fd me mp xn mt wh tq ag an ig))] := hD
                    have hP : va_P g.1 classes [(h0, .inr (10, mob q u25 n mm mb fa fp av ev wi mn tp tc sc nf fd me mp xn mt wh tq ag an ig)), ((q 2), aI g 600 bs), ((q 3), aI g 2 ru), ((q 4), aI g 12 rs), ((q 5), aI g 480 rt)] H := hP.sub [4, 0, 1, 2, 3] rfl
                    have hD : va_D A [(h0, .inr (10, mob q u25 n mm mb fa fp av ev wi mn tp tc sc nf fd me mp xn mt wh tq ag an ig)), ((q 2), aI g 600 bs), ((q 3), aI g 2 ru), ((q 4), aI g 12 rs), ((q 5), aI g 480 rt)] := hD.sub [4, 0, 1, 2, 3] (by decide) rfl
                    obtain ⟨hB25, hp25_0⟩ := hr24
                    have hrr105 : r24 = 1 := hB25.2.trans (by decide)
                    subst hrr105
                    refine lv_if_eq (tgt := 113) hx hb d_Mod_rule_108 (by decide) (fun h108 => ?_) (fun h108 => ?_)
                    · first | exact absurd h108 (by decide) | exact absurd (by decide) h108
                    · refine lv_iconst (v := 0) hx hb d_Mod_rule_111 (by decide) ?_
                      exact tw_iret E hS (u25, n, ru, rs, rt) (by unfold RUP; rw [hso]; exact Or.inr (Or.inl ⟨hp25_0, ru_y hsj h45 (by omega) hq1 hq4 h25, ec.trans h97, rfl, rfl, rfl⟩)) hP hD d_Mod_rule_112
                · exact absurd h82 h45
              · have h54 := tn_nle h54 (by omega) (by omega)
                refine lv_aload_n hx hb d_Mod_rule_57 rfl (lv_at hl 3 rfl) ?_
                refine va_get (D := g.1) (ci := 10) (v := .ref (q 2)) (C := R_Mod) (T := F_Mod) (N := 61) hx hb hts in_Mod hown hK hP 0 rfl rfl 2 (by decide) (hts _ wd_1252) (fun _ h9 => h9) rfl d_Mod_rule_58 ?_
                refine lv_iload hx hb d_Mod_rule_61 (lv_at hl 0 rfl) ?_
                refine va_iald hx hb hK hP 1 0 rfl rfl (vp_in_nI (by omega) (by decide)) d_Mod_rule_63 ?_
                refine tw_ri (e2 := nI (bt bs j)) (by rw [nI_clamp (by omega)]; exact bt_eq hbs (by omega)) ?_
                refine lv_bipush (v := 33) hx hb d_Mod_rule_64 (by decide) ?_
                refine lv_bipush (v := 126) hx hb d_Mod_rule_66 (by decide) ?_
                refine tw_si (tw_runS (ws := [(h0, .inr (10, mob q rf n mm mb fa fp av ev wi mn tp tc sc nf fd me mp xn mt wh tq ag an ig)), ((q 2), aI g 600 bs), ((q 3), aI g 2 ru), ((q 4), aI g 12 rs), ((q 5), aI g 480 rt)]) (wc := []) (As := [.int (nI (bt bs j)), .int 33, .int 126]) (rest := []) E hB hK hZ (c_Mod_isIn l g H.size (nI (bt bs j)) 33 126) mc_Mod_isIn ms_Mod_isIn wd_1443 hP hD hS hA [] rfl (by decide) rfl rfl (by decide) rfl hl.1 rfl (Nat.le_of_ble_eq_true rfl) (by decide) d_Mod_rule_68) (fun r26 hr26 => ?_)
                obtain rfl : r26 = is_in (nI (bt bs j)) 33 126 := hr26
                refine lv_istore hx hb d_Mod_rule_71 hl (by decide) rfl (fun ls hl => ?_)
                have hl : lv_has ls 7 [(4, .int (is_in (nI (bt bs j)) 33 126)), (5, .int (nI j)), (3, .int 1), (0, .ref h0), (1, .int al), (2, .int (nI q1))] := hl
                refine lv_iinc (k := 1) (v := nI (j + 1)) hx hb d_Mod_rule_73 hl rfl ((nI_succ j).symm) (by decide) rfl (fun ls hl => ?_)
                have hl : lv_has ls 7 [(5, .int (nI (j + 1))), (4, .int (is_in (nI (bt bs j)) 33 126)), (3, .int 1), (0, .ref h0), (1, .int al), (2, .int (nI q1))] := hl
                refine lv_goto (tgt := 43) hx hb d_Mod_rule_76 (by decide) ?_
                have hP : va_P g.1 classes [(h0, .inr (10, mob q rf n mm mb fa fp av ev wi mn tp tc sc nf fd me mp xn mt wh tq ag an ig)), ((q 2), aI g 600 bs), ((q 3), aI g 2 ru), ((q 4), aI g 12 rs), ((q 5), aI g 480 rt)] H := hP.sub [0, 1, 2, 3, 4] rfl
                have hD : va_D A [(h0, .inr (10, mob q rf n mm mb fa fp av ev wi mn tp tc sc nf fd me mp xn mt wh tq ag an ig)), ((q 2), aI g 600 bs), ((q 3), aI g 2 ru), ((q 4), aI g 12 rs), ((q 5), aI g 480 rt)] := hD.sub [0, 1, 2, 3, 4] (by decide) rfl
                exact ih _ (by omega) (is_in (nI (bt bs j)) 33 126) (j + 1) ls _ _ rfl (by omega) (by omega) (ru_step hsj h45 hj1 h54 (bt_lt hbs (by omega))) (lv_sub hl [0, 1, 2, 3, 4, 5] rfl) hP hD hS
        exact loop43 _ 1 (n - q1) ls _ _ rfl (Nat.le_refl _) (by omega) (Or.inl ⟨rfl, fun i h1 h2 => absurd h2 (by omega)⟩) (hl) hP hD hS
