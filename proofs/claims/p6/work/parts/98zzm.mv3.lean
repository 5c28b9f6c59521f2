section
set_option maxHeartbeats 4000000 in
set_option maxRecDepth 100000 in
theorem g_Mod_simple (l : Launch) (g : tw_G) (sz : Nat) (h0 : Nat) (q : Nat → Nat) (rf : Int32) (n : Nat) (mm : Int32) (mb : Int32) (av : Nat) (ev : Nat) (wi : Int32) (mn : Nat) (tp : Int32) (tc : Int32) (sc : Int32) (nf : Nat) (fd : Nat) (me : Nat) (mp : Int32) (xn : Nat) (mt : Nat) (wh : Nat) (ag : Nat) (an : Int32) (ig : Int32) (bs : Nat → Int32) (tg : Nat → Int32) (sk : Nat → Int32) (lo : Nat → Int32) (fa : Int32) (fp : Int32) (tq : Nat) (nw : Nat → Int32) (cn : Nat) (s1 o1 n1 : Nat) (hNW : NOW nw) (htq : tq ≤ 64) (hmt : mt < 160) (hsk : sk mt = nI s1) (hs64 : s1 ≤ 64) (hlo : lo mt = nI o1) (ho64 : o1 ≤ 64) (hmn : mn ≤ 620) (hbs : BYT bs) (hcn : cn < 256) (hwh : wh < 600) (hfo : fof (nI cn) = nI n1) (hn1 : n1 ≤ 2) (hn6 : wh + n1 < 600) : Met l y_Mod_simple [.code y_Mod_simple b_Mod_simple 3 (some .boolean)] ({ frames := 3, cells := 0, slots := 0, locals := 66 }) (tw_P g [.ref h0, .int (nI cn)] [(h0, .inr (10, mob q rf n mm mb fa fp av ev wi mn tp tc sc nf fd me mp xn mt wh tq ag an ig)), ((q 2), aI g 600 bs), ((q 14), aI g 620 tg), ((q 32), aI g 160 sk), ((q 33), aI g 160 lo), ((q 47), aI g 128 nw)] sz) (tw_Qi g (fun (r : Int32) (u : Int32 × Int32 × Nat × (Nat → Int32)) => (r = 0 ∨ r = 1) ∧ (u.1 = 0 → fa = 0) ∧ (u.2.2.1 ≤ 64) ∧ (NOW u.2.2.2)) (fun u : Int32 × Int32 × Nat × (Nat → Int32) => [(h0, .inr (10, mob q rf n mm mb u.1 u.2.1 av ev wi mn tp tc sc nf fd me mp xn mt wh u.2.2.1 ag an ig)), ((q 2), aI g 600 bs), ((q 14), aI g 620 tg), ((q 32), aI g 160 sk), ((q 33), aI g 160 lo), ((q 47), aI g 128 u.2.2.2)]) (va_A [(h0, .inr (10, mob q rf n mm mb fa fp av ev wi mn tp tc sc nf fd me mp xn mt wh tq ag an ig)), ((q 2), aI g 600 bs), ((q 14), aI g 620 tg), ((q 32), aI g 160 sk), ((q 33), aI g 160 lo), ((q 47), aI g 128 nw)] sz)) 0 0 (va_A [(h0, .inr (10, mob q rf n mm mb fa fp av ev wi mn tp tc sc nf fd me mp xn mt wh tq ag an ig)), ((q 2), aI g 600 bs), ((q 14), aI g 620 tg), ((q 32), aI g 160 sk), ((q 33), aI g 160 lo), ((q 47), aI g 128 nw)] sz) := by
  refine tw_metW (l := l) (g := g) (y := y_Mod_simple) (cc := b_Mod_simple) (maxL := 3) (ret := (some .boolean)) (rm := { frames := 3, cells := 0, slots := 0, locals := 66 }) (mc := 0) (ms := 0) (av := [.ref h0, .int (nI cn)]) (ws := [(h0, .inr (10, mob q rf n mm mb fa fp av ev wi mn tp tc sc nf fd me mp xn mt wh tq ag an ig)), ((q 2), aI g 600 bs), ((q 14), aI g 620 tg), ((q 32), aI g 160 sk), ((q 33), aI g 160 lo), ((q 47), aI g 128 nw)]) (sz := sz) (Qc := fun A => (tw_Qi g (fun (r : Int32) (u : Int32 × Int32 × Nat × (Nat → Int32)) => (r = 0 ∨ r = 1) ∧ (u.1 = 0 → fa = 0) ∧ (u.2.2.1 ≤ 64) ∧ (NOW u.2.2.2)) (fun u : Int32 × Int32 × Nat × (Nat → Int32) => [(h0, .inr (10, mob q rf n mm mb u.1 u.2.1 av ev wi mn tp tc sc nf fd me mp xn mt wh u.2.2.1 ag an ig)), ((q 2), aI g 600 bs), ((q 14), aI g 620 tg), ((q 32), aI g 160 sk), ((q 33), aI g 160 lo), ((q 47), aI g 128 u.2.2.2)]) A)) (by decide) (Nat.le_of_ble_eq_true rfl) ?_
  intro p e s m below meth c ls H A E hB hK hZ hP hD hS hA hl
  obtain ⟨hx, hb, hml, hr, hown, hts, hlocks, hin⟩ := id E
  have hl : lv_has ls 3 [(0, .ref h0), (1, .int (nI cn))] := hl
  refine lv_aload_n hx hb d_Mod_simple_0 rfl (lv_at hl 0 rfl) ?_
  refine va_get (D := g.1) (ci := 10) (v := .int (nI wh)) (C := R_Mod) (T := F_Mod) (N := 61) hx hb hts in_Mod hown hK hP 0 rfl rfl 45 (by decide) (hts _ wd_1295) (fun _ h9 => h9) rfl d_Mod_simple_1 ?_
  refine lv_iconst (v := 1) hx hb d_Mod_simple_4 (by decide) ?_
  refine lv_iadd hx hb d_Mod_simple_5 ?_
  refine tw_ri (e2 := nI (wh + 1)) (nI_add wh 1) ?_
  refine lv_sipush (v := 600) hx hb d_Mod_simple_6 (by decide) ?_
  refine lv_icmp_ge (tgt := 26) hx hb d_Mod_simple_9 (by decide) (fun h9 => ?_) (fun h9 => ?_)
  · refine lv_iconst (v := 0) hx hb d_Mod_simple_26 (by decide) ?_
    refine lv_istore_n hx hb d_Mod_simple_27 rfl hl (by decide) rfl (fun ls hl => ?_)
    have hl : lv_has ls 3 [(2, .int 0), (0, .ref h0), (1, .int (nI cn))] := hl
    refine lv_iload_n hx hb d_Mod_simple_28 rfl (lv_at hl 2 rfl) ?_
    refine lv_iconst (v := 1) hx hb d_Mod_simple_29 (by decide) ?_
    refine lv_icmp_ne (tgt := 41) hx hb d_Mod_simple_30 (by decide) (fun h30 => ?_) (fun h30 => ?_)
    · refine lv_iload_n hx hb d_Mod_simple_41 rfl (lv_at hl 2 rfl) ?_
      refine lv_iconst (v := 2) hx hb d_Mod_simple_42 (by decide) ?_
      refine lv_bipush (v := 8) hx hb d_Mod_simple_43 (by decide) ?_
      refine tw_si (tw_runS (ws := [(h0, .inr (10, mob q rf n mm mb fa fp av ev wi mn tp tc sc nf fd me mp xn mt wh tq ag an ig)), ((q 2), aI g 600 bs), ((q 14), aI g 620 tg), ((q 32), aI g 160 sk), ((q 33), aI g 160 lo), ((q 47), aI g 128 nw)]) (wc := []) (As := [.int (nI cn), .int 2, .int 8]) (rest := []) E hB hK hZ (c_Mod_isIn l g H.size (nI cn) 2 8) mc_Mod_isIn ms_Mod_isIn wd_1443 hP hD hS hA [] rfl (by decide) rfl rfl (by decide) rfl hl.1 rfl (Nat.le_of_ble_eq_true rfl) (by decide) d_Mod_simple_45) (fun r1 hr1 => ?_)
      obtain rfl : r1 = is_in (nI cn) 2 8 := hr1
      refine lv_if_ne (tgt := 63) hx hb d_Mod_simple_48 (by decide) (fun h48 => ?_) (fun h48 => ?_)
      · refine lv_aload_n hx hb d_Mod_simple_63 rfl (lv_at hl 1 rfl) ?_
        refine lv_iconst (v := 1) hx hb d_Mod_simple_64 (by decide) ?_
        refine tw_wv (wr := [((q 2), aI g 600 bs), ((q 14), aI g 620 tg), ((q 33), aI g 160 lo)]) (tw_runV (ws := [(h0, .inr (10, mob q rf n mm mb fa fp av ev wi mn tp tc sc nf fd me mp xn mt wh tq ag an ig)), ((q 2), aI g 600 bs), ((q 14), aI g 620 tg), ((q 32), aI g 160 sk), ((q 33), aI g 160 lo), ((q 47), aI g 128 nw)]) (wc := [(h0, .inr (10, mob q rf n mm mb fa fp av ev wi mn tp tc sc nf fd me mp xn mt wh tq ag an ig)), ((q 32), aI g 160 sk), ((q 47), aI g 128 nw)]) (As := [.int 1]) (rest := []) E hB hK hZ (g_Mod_give l g H.size h0 q rf n mm mb av ev wi mn tp tc sc nf fd me mp xn mt wh ag an ig sk fa fp tq nw 1 s1 hNW (by omega) (by omega) hsk (by omega) (fun _ => by decide)) mc_Mod_give mi_Mod_give me_Mod_give wd_1648 hP hD hS hA [0, 3, 5] rfl (by decide) 0 rfl rfl rfl rfl rfl (by decide) rfl hl.1 rfl (Nat.le_of_ble_eq_true rfl) (by decide) d_Mod_simple_65) hP hD hS hA [0, 3, 5] [1, 2, 4] rfl rfl (by decide) (by decide) (fun u3 H locs hr2 hP hD hS => ?_)
        try dsimp only at hr2
        have hP : va_P g.1 classes [((q 2), aI g 600 bs), ((q 14), aI g 620 tg), ((q 33), aI g 160 lo), (h0, .inr (10, mob q rf n mm mb u3.1 u3.2.1 av ev wi mn tp tc sc nf fd me mp xn mt wh u3.2.2.1 ag an ig)), ((q 32), aI g 160 sk), ((q 47), aI g 128 u3.2.2.2)] H := hP
        have hD : va_D A [((q 2), aI g 600 bs), ((q 14), aI g 620 tg), ((q 33), aI g 160 lo), (h0, .inr (10, mob q rf n mm mb u3.1 u3.2.1 av ev wi mn tp tc sc nf fd me mp xn mt wh u3.2.2.1 ag an ig)), ((q 32), aI g 160 sk), ((q 47), aI g 128 u3.2.2.2)] := hD
        have hP : va_P g.1 classes [(h0, .inr (10, mob q rf n mm mb u3.1 u3.2.1 av ev wi mn tp tc sc nf fd me mp xn mt wh u3.2.2.1 ag an ig)), ((q 2), aI g 600 bs), ((q 14), aI g 620 tg), ((q 32), aI g 160 sk), ((q 33), aI g 160 lo), ((q 47), aI g 128 u3.2.2.2)] H := hP.sub [3, 0, 1, 4, 2, 5] rfl
        have hD : va_D A [(h0, .inr (10, mob q rf n mm mb u3.1 u3.2.1 av ev wi mn tp tc sc nf fd me mp xn mt wh u3.2.2.1 ag an ig)), ((q 2), aI g 600 bs), ((q 14), aI g 620 tg), ((q 32), aI g 160 sk), ((q 33), aI g 160 lo), ((q 47), aI g 128 u3.2.2.2)] := hD.sub [3, 0, 1, 4, 2, 5] (by decide) rfl
        obtain ⟨hp3_0, hp3_1, hp3_2⟩ := hr2
        refine lv_goto (tgt := 399) hx hb d_Mod_simple_68 (by decide) ?_
        refine lv_iconst (v := 1) hx hb d_Mod_simple_399 (by decide) ?_
        exact tw_zret E hS (u3.1, u3.2.1, u3.2.2.1, u3.2.2.2) (by decide) (⟨(by decide), (fun h => (fun h => h) (hp3_0 h)), (by first | omega | (dsimp only <;> omega)), hp3_2⟩) hP hD d_Mod_simple_400
      · refine lv_iload_n hx hb d_Mod_simple_51 rfl (lv_at hl 2 rfl) ?_
        refine lv_bipush (v := 16) hx hb d_Mod_simple_52 (by decide) ?_
        refine lv_icmp_eq (tgt := 63) hx hb d_Mod_simple_54 (by decide) (fun h54 => ?_) (fun h54 => ?_)
        · refine lv_aload_n hx hb d_Mod_simple_63 rfl (lv_at hl 1 rfl) ?_
          refine lv_iconst (v := 1) hx hb d_Mod_simple_64 (by decide) ?_
          refine tw_wv (wr := [((q 2), aI g 600 bs), ((q 14), aI g 620 tg), ((q 33), aI g 160 lo)]) (tw_runV (ws := [(h0, .inr (10, mob q rf n mm mb fa fp av ev wi mn tp tc sc nf fd me mp xn mt wh tq ag an ig)), ((q 2), aI g 600 bs), ((q 14), aI g 620 tg), ((q 32), aI g 160 sk), ((q 33), aI g 160 lo), ((q 47), aI g 128 nw)]) (wc := [(h0, .inr (10, mob q rf n mm mb fa fp av ev wi mn tp tc sc nf fd me mp xn mt wh tq ag an ig)), ((q 32), aI g 160 sk), ((q 47), aI g 128 nw)]) (As := [.int 1]) (rest := []) E hB hK hZ (g_Mod_give l g H.size h0 q rf n mm mb av ev wi mn tp tc sc nf fd me mp xn mt wh ag an ig sk fa fp tq nw 1 s1 hNW (by omega) (by omega) hsk (by omega) (fun _ => by decide)) mc_Mod_give mi_Mod_give me_Mod_give wd_1648 hP hD hS hA [0, 3, 5] rfl (by decide) 0 rfl rfl rfl rfl rfl (by decide) rfl hl.1 rfl (Nat.le_of_ble_eq_true rfl) (by decide) d_Mod_simple_65) hP hD hS hA [0, 3, 5] [1, 2, 4] rfl rfl (by decide) (by decide) (fun u5 H locs hr4 hP hD hS => ?_)
          try dsimp only at hr4
          have hP : va_P g.1 classes [((q 2), aI g 600 bs), ((q 14), aI g 620 tg), ((q 33), aI g 160 lo), (h0, .inr (10, mob q rf n mm mb u5.1 u5.2.1 av ev wi mn tp tc sc nf fd me mp xn mt wh u5.2.2.1 ag an ig)), ((q 32), aI g 160 sk), ((q 47), aI g 128 u5.2.2.2)] H := hP
          have hD : va_D A [((q 2), aI g 600 bs), ((q 14), aI g 620 tg), ((q 33), aI g 160 lo), (h0, .inr (10, mob q rf n mm mb u5.1 u5.2.1 av ev wi mn tp tc sc nf fd me mp xn mt wh u5.2.2.1 ag an ig)), ((q 32), aI g 160 sk), ((q 47), aI g 128 u5.2.2.2)] := hD
          have hP : va_P g.1 classes [(h0, .inr (10, mob q rf n mm mb u5.1 u5.2.1 av ev wi mn tp tc sc nf fd me mp xn mt wh u5.2.2.1 ag an ig)), ((q 2), aI g 600 bs), ((q 14), aI g 620 tg), ((q 32), aI g 160 sk), ((q 33), aI g 160 lo), ((q 47), aI g 128 u5.2.2.2)] H := hP.sub [3, 0, 1, 4, 2, 5] rfl
          have hD : va_D A [(h0, .inr (10, mob q rf n mm mb u5.1 u5.2.1 av ev wi mn tp tc sc nf fd me mp xn mt wh u5.2.2.1 ag an ig)), ((q 2), aI g 600 bs), ((q 14), aI g 620 tg), ((q 32), aI g 160 sk), ((q 33), aI g 160 lo), ((q 47), aI g 128 u5.2.2.2)] := hD.sub [3, 0, 1, 4, 2, 5] (by decide) rfl
          obtain ⟨hp5_0, hp5_1, hp5_2⟩ := hr4
          refine lv_goto (tgt := 399) hx hb d_Mod_simple_68 (by decide) ?_
          refine lv_iconst (v := 1) hx hb d_Mod_simple_399 (by decide) ?_
          exact tw_zret E hS (u5.1, u5.2.1, u5.2.2.1, u5.2.2.2) (by decide) (⟨(by decide), (fun h => (fun h => h) (hp5_0 h)), (by first | omega | (dsimp only <;> omega)), hp5_2⟩) hP hD d_Mod_simple_400
        · refine lv_iload_n hx hb d_Mod_simple_57 rfl (lv_at hl 2 rfl) ?_
          refine lv_bipush (v := 17) hx hb d_Mod_simple_58 (by decide) ?_
          refine lv_icmp_ne (tgt := 71) hx hb d_Mod_simple_60 (by decide) (fun h60 => ?_) (fun h60 => ?_)
          · refine lv_iload_n hx hb d_Mod_simple_71 rfl (lv_at hl 2 rfl) ?_
            refine lv_bipush (v := 9) hx hb d_Mod_simple_72 (by decide) ?_
            refine lv_icmp_eq (tgt := 83) hx hb d_Mod_simple_74 (by decide) (fun h74 => ?_) (fun h74 => ?_)
            · refine lv_aload_n hx hb d_Mod_simple_83 rfl (lv_at hl 1 rfl) ?_
              refine lv_iconst (v := 2) hx hb d_Mod_simple_84 (by decide) ?_
              refine tw_wv (wr := [((q 2), aI g 600 bs), ((q 14), aI g 620 tg), ((q 33), aI g 160 lo)]) (tw_runV (ws := [(h0, .inr (10, mob q rf n mm mb fa fp av ev wi mn tp tc sc nf fd me mp xn mt wh tq ag an ig)), ((q 2), aI g 600 bs), ((q 14), aI g 620 tg), ((q 32), aI g 160 sk), ((q 33), aI g 160 lo), ((q 47), aI g 128 nw)]) (wc := [(h0, .inr (10, mob q rf n mm mb fa fp av ev wi mn tp tc sc nf fd me mp xn mt wh tq ag an ig)), ((q 32), aI g 160 sk), ((q 47), aI g 128 nw)]) (As := [.int 2]) (rest := []) E hB hK hZ (g_Mod_give l g H.size h0 q rf n mm mb av ev wi mn tp tc sc nf fd me mp xn mt wh ag an ig sk fa fp tq nw 2 s1 hNW (by omega) (by omega) hsk (by omega) (fun _ => by decide)) mc_Mod_give mi_Mod_give me_Mod_give wd_1648 hP hD hS hA [0, 3, 5] rfl (by decide) 0 rfl rfl rfl rfl rfl (by decide) rfl hl.1 rfl (Nat.le_of_ble_eq_true rfl) (by decide) d_Mod_simple_85) hP hD hS hA [0, 3, 5] [1, 2, 4] rfl rfl (by decide) (by decide) (fun u7 H locs hr6 hP hD hS => ?_)
              try dsimp only at hr6
              have hP : va_P g.1 classes [((q 2), aI g 600 bs), ((q 14), aI g 620 tg), ((q 33), aI g 160 lo), (h0, .inr (10, mob q rf n mm mb u7.1 u7.2.1 av ev wi mn tp tc sc nf fd me mp xn mt wh u7.2.2.1 ag an ig)), ((q 32), aI g 160 sk), ((q 47), aI g 128 u7.2.2.2)] H := hP
              have hD : va_D A [((q 2), aI g 600 bs), ((q 14), aI g 620 tg), ((q 33), aI g 160 lo), (h0, .inr (10, mob q rf n mm mb u7.1 u7.2.1 av ev wi mn tp tc sc nf fd me mp xn mt wh u7.2.2.1 ag an ig)), ((q 32), aI g 160 sk), ((q 47), aI g 128 u7.2.2.2)] := hD
              have hP : va_P g.1 classes [(h0, .inr (10, mob q rf n mm mb u7.1 u7.2.1 av ev wi mn tp tc sc nf fd me mp xn mt wh u7.2.2.1 ag an ig)), ((q 2), aI g 600 bs), ((q 14), aI g 620 tg), ((q 32), aI g 160 sk), ((q 33), aI g 160 lo), ((q 47), aI g 128 u7.2.2.2)] H := hP.sub [3, 0, 1, 4, 2, 5] rfl
              have hD : va_D A [(h0, .inr (10, mob q rf n mm mb u7.1 u7.2.1 av ev wi mn tp tc sc nf fd me mp xn mt wh u7.2.2.1 ag an ig)), ((q 2), aI g 600 bs), ((q 14), aI g 620 tg), ((q 32), aI g 160 sk), ((q 33), aI g 160 lo), ((q 47), aI g 128 u7.2.2.2)] := hD.sub [3, 0, 1, 4, 2, 5] (by decide) rfl
              obtain ⟨hp7_0, hp7_1, hp7_2⟩ := hr6
              refine lv_goto (tgt := 399) hx hb d_Mod_simple_88 (by decide) ?_
              refine lv_iconst (v := 1) hx hb d_Mod_simple_399 (by decide) ?_
              exact tw_zret E hS (u7.1, u7.2.1, u7.2.2.1, u7.2.2.2) (by decide) (⟨(by decide), (fun h => (fun h => h) (hp7_0 h)), (by first | omega | (dsimp only <;> omega)), hp7_2⟩) hP hD d_Mod_simple_400
            · refine lv_iload_n hx hb d_Mod_simple_77 rfl (lv_at hl 2 rfl) ?_
              refine lv_bipush (v := 10) hx hb d_Mod_simple_78 (by decide) ?_
              refine lv_icmp_ne (tgt := 91) hx hb d_Mod_simple_80 (by decide) (fun h80 => ?_) (fun h80 => ?_)
              · refine lv_iload_n hx hb d_Mod_simple_91 rfl (lv_at hl 2 rfl) ?_
                refine lv_bipush (v := 18) hx hb d_Mod_simple_92 (by decide) ?_
                refine lv_icmp_ne (tgt := 146) hx hb d_Mod_simple_94 (by decide) (fun h94 => ?_) (fun h94 => ?_)
                · refine lv_iload_n hx hb d_Mod_simple_146 rfl (lv_at hl 2 rfl) ?_
                  refine lv_bipush (v := 20) hx hb d_Mod_simple_147 (by decide) ?_
                  refine lv_icmp_ne (tgt := 179) hx hb d_Mod_simple_149 (by decide) (fun h149 => ?_) (fun h149 => ?_)
                  · refine lv_iload_n hx hb d_Mod_simple_179 rfl (lv_at hl 2 rfl) ?_
                    refine lv_bipush (v := 21) hx hb d_Mod_simple_180 (by decide) ?_
                    refine lv_icmp_eq (tgt := 197) hx hb d_Mod_simple_182 (by decide) (fun h182 => ?_) (fun h182 => ?_)
                    · refine lv_aload_n hx hb d_Mod_simple_197 rfl (lv_at hl 1 rfl) ?_
                      refine lv_iload_n hx hb d_Mod_simple_198 rfl (lv_at hl 0 rfl) ?_
                      refine lv_iload_n hx hb d_Mod_simple_199 rfl (lv_at hl 2 rfl) ?_
                      refine lv_bipush (v := 21) hx hb d_Mod_simple_200 (by decide) ?_
                      refine lv_icmp_ne (tgt := 209) hx hb d_Mod_simple_202 (by decide) (fun h202 => ?_) (fun h202 => ?_)
                      · refine lv_iload_n hx hb d_Mod_simple_209 rfl (lv_at hl 2 rfl) ?_
                        refine lv_bipush (v := 22) hx hb d_Mod_simple_210 (by decide) ?_
                        refine lv_icmp_ne (tgt := 219) hx hb d_Mod_simple_212 (by decide) (fun h212 => ?_) (fun h212 => ?_)
                        · refine lv_iconst (v := 4) hx hb d_Mod_simple_219 (by decide) ?_
                          refine tw_wv (wr := [((q 2), aI g 600 bs), ((q 14), aI g 620 tg)]) (tw_runV (ws := [(h0, .inr (10, mob q rf n mm mb fa fp av ev wi mn tp tc sc nf fd me mp xn mt wh tq ag an ig)), ((q 2), aI g 600 bs), ((q 14), aI g 620 tg), ((q 32), aI g 160 sk), ((q 33), aI g 160 lo), ((q 47), aI g 128 nw)]) (wc := [(h0, .inr (10, mob q rf n mm mb fa fp av ev wi mn tp tc sc nf fd me mp xn mt wh tq ag an ig)), ((q 32), aI g 160 sk), ((q 33), aI g 160 lo), ((q 47), aI g 128 nw)]) (As := [.int 0, .int 4]) (rest := []) E hB hK hZ (g_Mod_fetch l g H.size h0 q rf n mm mb av ev wi mn tp tc sc nf fd me mp xn mt wh ag an ig sk lo fa fp tq nw 0 4 s1 o1 hNW (by omega) (by omega) hsk (by omega) hlo (by omega) (by omega) (by decide)) mc_Mod_fetch mi_Mod_fetch me_Mod_fetch wd_1656 hP hD hS hA [0, 3, 4, 5] rfl (by decide) 0 rfl rfl rfl rfl rfl (by decide) rfl hl.1 rfl (Nat.le_of_ble_eq_true rfl) (by decide) d_Mod_simple_220) hP hD hS hA [0, 3, 4, 5] [1, 2] rfl rfl (by decide) (by decide) (fun u9 H locs hr8 hP hD hS => ?_)
                          try dsimp only at hr8
                          have hP : va_P g.1 classes [((q 2), aI g 600 bs), ((q 14), aI g 620 tg), (h0, .inr (10, mob q rf n mm mb u9.1 u9.2.1 av ev wi mn tp tc sc nf fd me mp xn mt wh u9.2.2.1 ag an ig)), ((q 32), aI g 160 sk), ((q 33), aI g 160 lo), ((q 47), aI g 128 u9.2.2.2)] H := hP
                          have hD : va_D A [((q 2), aI g 600 bs), ((q 14), aI g 620 tg), (h0, .inr (10, mob q rf n mm mb u9.1 u9.2.1 av ev wi mn tp tc sc nf fd me mp xn mt wh u9.2.2.1 ag an ig)), ((q 32), aI g 160 sk), ((q 33), aI g 160 lo), ((q 47), aI g 128 u9.2.2.2)] := hD
                          have hP : va_P g.1 classes [(h0, .inr (10, mob q rf n mm mb u9.1 u9.2.1 av ev wi mn tp tc sc nf fd me mp xn mt wh u9.2.2.1 ag an ig)), ((q 2), aI g 600 bs), ((q 14), aI g 620 tg), ((q 32), aI g 160 sk), ((q 33), aI g 160 lo), ((q 47), aI g 128 u9.2.2.2)] H := hP.sub [2, 0, 1, 3, 4, 5] rfl
                          have hD : va_D A [(h0, .inr (10, mob q rf n mm mb u9.1 u9.2.1 av ev wi mn tp tc sc nf fd me mp xn mt wh u9.2.2.1 ag an ig)), ((q 2), aI g 600 bs), ((q 14), aI g 620 tg), ((q 32), aI g 160 sk), ((q 33), aI g 160 lo), ((q 47), aI g 128 u9.2.2.2)] := hD.sub [2, 0, 1, 3, 4, 5] (by decide) rfl
                          obtain ⟨hp9_0, hp9_1, hp9_2⟩ := hr8
                          refine lv_goto (tgt := 399) hx hb d_Mod_simple_223 (by decide) ?_
                          refine lv_iconst (v := 1) hx hb d_Mod_simple_399 (by decide) ?_
                          exact tw_zret E hS (u9.1, u9.2.1, u9.2.2.1, u9.2.2.2) (by decide) (⟨(by decide), (fun h => (fun h => h) (hp9_0 h)), (by first | omega | (dsimp only <;> omega)), hp9_2⟩) hP hD d_Mod_simple_400
                        · refine lv_iconst (v := 2) hx hb d_Mod_simple_215 (by decide) ?_
                          refine lv_goto (tgt := 220) hx hb d_Mod_simple_216 (by decide) ?_
                          refine tw_wv (wr := [((q 2), aI g 600 bs), ((q 14), aI g 620 tg)]) (tw_runV (ws := [(h0, .inr (10, mob q rf n mm mb fa fp av ev wi mn tp tc sc nf fd me mp xn mt wh tq ag an ig)), ((q 2), aI g 600 bs), ((q 14), aI g 620 tg), ((q 32), aI g 160 sk), ((q 33), aI g 160 lo), ((q 47), aI g 128 nw)]) (wc := [(h0, .inr (10, mob q rf n mm mb fa fp av ev wi mn tp tc sc nf fd me mp xn mt wh tq ag an ig)), ((q 32), aI g 160 sk), ((q 33), aI g 160 lo), ((q 47), aI g 128 nw)]) (As := [.int 0, .int 2]) (rest := []) E hB hK hZ (g_Mod_fetch l g H.size h0 q rf n mm mb av ev wi mn tp tc sc nf fd me mp xn mt wh ag an ig sk lo fa fp tq nw 0 2 s1 o1 hNW (by omega) (by omega) hsk (by omega) hlo (by omega) (by omega) (by decide)) mc_Mod_fetch mi_Mod_fetch me_Mod_fetch wd_1656 hP hD hS hA [0, 3, 4, 5] rfl (by decide) 0 rfl rfl rfl rfl rfl (by decide) rfl hl.1 rfl (Nat.le_of_ble_eq_true rfl) (by decide) d_Mod_simple_220) hP hD hS hA [0, 3, 4, 5] [1, 2] rfl rfl (by decide) (by decide) (fun u11 H locs hr10 hP hD hS => ?_)
                          try dsimp only at hr10
                          have hP : va_P g.1 classes [((q 2), aI g 600 bs), ((q 14), aI g 620 tg), (h0, .inr (10, mob q rf n mm mb u11.1 u11.2.1 av ev wi mn tp tc sc nf fd me mp xn mt wh u11.2.2.1 ag an ig)), ((q 32), aI g 160 sk), ((q 33), aI g 160 lo), ((q 47), aI g 128 u11.2.2.2)] H := hP
                          have hD : va_D A [((q 2), aI g 600 bs), ((q 14), aI g 620 tg), (h0, .inr (10, mob q rf n mm mb u11.1 u11.2.1 av ev wi mn tp tc sc nf fd me mp xn mt wh u11.2.2.1 ag an ig)), ((q 32), aI g 160 sk), ((q 33), aI g 160 lo), ((q 47), aI g 128 u11.2.2.2)] := hD
                          have hP : va_P g.1 classes [(h0, .inr (10, mob q rf n mm mb u11.1 u11.2.1 av ev wi mn tp tc sc nf fd me mp xn mt wh u11.2.2.1 ag an ig)), ((q 2), aI g 600 bs), ((q 14), aI g 620 tg), ((q 32), aI g 160 sk), ((q 33), aI g 160 lo), ((q 47), aI g 128 u11.2.2.2)] H := hP.sub [2, 0, 1, 3, 4, 5] rfl
                          have hD : va_D A [(h0, .inr (10, mob q rf n mm mb u11.1 u11.2.1 av ev wi mn tp tc sc nf fd me mp xn mt wh u11.2.2.1 ag an ig)), ((q 2), aI g 600 bs), ((q 14), aI g 620 tg), ((q 32), aI g 160 sk), ((q 33), aI g 160 lo), ((q 47), aI g 128 u11.2.2.2)] := hD.sub [2, 0, 1, 3, 4, 5] (by decide) rfl
                          obtain ⟨hp11_0, hp11_1, hp11_2⟩ := hr10
                          refine lv_goto (tgt := 399) hx hb d_Mod_simple_223 (by decide) ?_
                          refine lv_iconst (v := 1) hx hb d_Mod_simple_399 (by decide) ?_
                          exact tw_zret E hS (u11.1, u11.2.1, u11.2.2.1, u11.2.2.2) (by decide) (⟨(by decide), (fun h => (fun h => h) (hp11_0 h)), (by first | omega | (dsimp only <;> omega)), hp11_2⟩) hP hD d_Mod_simple_400
                      · refine lv_iconst (v := 1) hx hb d_Mod_simple_205 (by decide) ?_
                        refine lv_goto (tgt := 220) hx hb d_Mod_simple_206 (by decide) ?_
                        refine tw_wv (wr := [((q 2), aI g 600 bs), ((q 14), aI g 620 tg)]) (tw_runV (ws := [(h0, .inr (10, mob q rf n mm mb fa fp av ev wi mn tp tc sc nf fd me mp xn mt wh tq ag an ig)), ((q 2), aI g 600 bs), ((q 14), aI g 620 tg), ((q 32), aI g 160 sk), ((q 33), aI g 160 lo), ((q 47), aI g 128 nw)]) (wc := [(h0, .inr (10, mob q rf n mm mb fa fp av ev wi mn tp tc sc nf fd me mp xn mt wh tq ag an ig)), ((q 32), aI g 160 sk), ((q 33), aI g 160 lo), ((q 47), aI g 128 nw)]) (As := [.int 0, .int 1]) (rest := []) E hB hK hZ (g_Mod_fetch l g H.size h0 q rf n mm mb av ev wi mn tp tc sc nf fd me mp xn mt wh ag an ig sk lo fa fp tq nw 0 1 s1 o1 hNW (by omega) (by omega) hsk (by omega) hlo (by omega) (by omega) (by decide)) mc_Mod_fetch mi_Mod_fetch me_Mod_fetch wd_1656 hP hD hS hA [0, 3, 4, 5] rfl (by decide) 0 rfl rfl rfl rfl rfl (by decide) rfl hl.1 rfl (Nat.le_of_ble_eq_true rfl) (by decide) d_Mod_simple_220) hP hD hS hA [0, 3, 4, 5] [1, 2] rfl rfl (by decide) (by decide) (fun u13 H locs hr12 hP hD hS => ?_)
                        try dsimp only at hr12
                        have hP : va_P g.1 classes [((q 2), aI g 600 bs), ((q 14), aI g 620 tg), (h0, .inr (10, mob q rf n mm mb u13.1 u13.2.1 av ev wi mn tp tc sc nf fd me mp xn mt wh u13.2.2.1 ag an ig)), ((q 32), aI g 160 sk), ((q 33), aI g 160 lo), ((q 47), aI g 128 u13.2.2.2)] H := hP
                        have hD : va_D A [((q 2), aI g 600 bs), ((q 14), aI g 620 tg), (h0, .inr (10, mob q rf n mm mb u13.1 u13.2.1 av ev wi mn tp tc sc nf fd me mp xn mt wh u13.2.2.1 ag an ig)), ((q 32), aI g 160 sk), ((q 33), aI g 160 lo), ((q 47), aI g 128 u13.2.2.2)] := hD
                        have hP : va_P g.1 classes [(h0, .inr (10, mob q rf n mm mb u13.1 u13.2.1 av ev wi mn tp tc sc nf fd me mp xn mt wh u13.2.2.1 ag an ig)), ((q 2), aI g 600 bs), ((q 14), aI g 620 tg), ((q 32), aI g 160 sk), ((q 33), aI g 160 lo), ((q 47), aI g 128 u13.2.2.2)] H := hP.sub [2, 0, 1, 3, 4, 5] rfl
                        have hD : va_D A [(h0, .inr (10, mob q rf n mm mb u13.1 u13.2.1 av ev wi mn tp tc sc nf fd me mp xn mt wh u13.2.2.1 ag an ig)), ((q 2), aI g 600 bs), ((q 14), aI g 620 tg), ((q 32), aI g 160 sk), ((q 33), aI g 160 lo), ((q 47), aI g 128 u13.2.2.2)] := hD.sub [2, 0, 1, 3, 4, 5] (by decide) rfl
                        obtain ⟨hp13_0, hp13_1, hp13_2⟩ := hr12
                        refine lv_goto (tgt := 399) hx hb d_Mod_simple_223 (by decide) ?_
                        refine lv_iconst (v := 1) hx hb d_Mod_simple_399 (by decide) ?_
                        exact tw_zret E hS (u13.1, u13.2.1, u13.2.2.1, u13.2.2.2) (by decide) (⟨(by decide), (fun h => (fun h => h) (hp13_0 h)), (by first | omega | (dsimp only <;> omega)), hp13_2⟩) hP hD d_Mod_simple_400
                    · refine lv_iload_n hx hb d_Mod_simple_185 rfl (lv_at hl 2 rfl) ?_
                      refine lv_bipush (v := 22) hx hb d_Mod_simple_186 (by decide) ?_
                      refine lv_icmp_eq (tgt := 197) hx hb d_Mod_simple_188 (by decide) (fun h188 => ?_) (fun h188 => ?_)
                      · refine lv_aload_n hx hb d_Mod_simple_197 rfl (lv_at hl 1 rfl) ?_
                        refine lv_iload_n hx hb d_Mod_simple_198 rfl (lv_at hl 0 rfl) ?_
                        refine lv_iload_n hx hb d_Mod_simple_199 rfl (lv_at hl 2 rfl) ?_
                        refine lv_bipush (v := 21) hx hb d_Mod_simple_200 (by decide) ?_
                        refine lv_icmp_ne (tgt := 209) hx hb d_Mod_simple_202 (by decide) (fun h202 => ?_) (fun h202 => ?_)
                        · refine lv_iload_n hx hb d_Mod_simple_209 rfl (lv_at hl 2 rfl) ?_
                          refine lv_bipush (v := 22) hx hb d_Mod_simple_210 (by decide) ?_
                          refine lv_icmp_ne (tgt := 219) hx hb d_Mod_simple_212 (by decide) (fun h212 => ?_) (fun h212 => ?_)
                          · refine lv_iconst (v := 4) hx hb d_Mod_simple_219 (by decide) ?_
                            refine tw_wv (wr := [((q 2), aI g 600 bs), ((q 14), aI g 620 tg)]) (tw_runV (ws := [(h0, .inr (10, mob q rf n mm mb fa fp av ev wi mn tp tc sc nf fd me mp xn mt wh tq ag an ig)), ((q 2), aI g 600 bs), ((q 14), aI g 620 tg), ((q 32), aI g 160 sk), ((q 33), aI g 160 lo), ((q 47), aI g 128 nw)]) (wc := [(h0, .inr (10, mob q rf n mm mb fa fp av ev wi mn tp tc sc nf fd me mp xn mt wh tq ag an ig)), ((q 32), aI g 160 sk), ((q 33), aI g 160 lo), ((q 47), aI g 128 nw)]) (As := [.int 0, .int 4]) (rest := []) E hB hK hZ (g_Mod_fetch l g H.size h0 q rf n mm mb av ev wi mn tp tc sc nf fd me mp xn mt wh ag an ig sk lo fa fp tq nw 0 4 s1 o1 hNW (by omega) (by omega) hsk (by omega) hlo (by omega) (by omega) (by decide)) mc_Mod_fetch mi_Mod_fetch me_Mod_fetch wd_1656 hP hD hS hA [0, 3, 4, 5] rfl (by decide) 0 rfl rfl rfl rfl rfl (by decide) rfl hl.1 rfl (Nat.le_of_ble_eq_true rfl) (by decide) d_Mod_simple_220) hP hD hS hA [0, 3, 4, 5] [1, 2] rfl rfl (by decide) (by decide) (fun u15 H locs hr14 hP hD hS => ?_)
                            try dsimp only at hr14
                            have hP : va_P g.1 classes [((q 2), aI g 600 bs), ((q 14), aI g 620 tg), (h0, .inr (10, mob q rf n mm mb u15.1 u15.2.1 av ev wi mn tp tc sc nf fd me mp xn mt wh u15.2.2.1 ag an ig)), ((q 32), aI g 160 sk), ((q 33), aI g 160 lo), ((q 47), aI g 128 u15.2.2.2)] H := hP
                            have hD : va_D A [((q 2), aI g 600 bs), ((q 14), aI g 620 tg), (h0, .inr (10, mob q rf n mm mb u15.1 u15.2.1 av ev wi mn tp tc sc nf fd me mp xn mt wh u15.2.2.1 ag an ig)), ((q 32), aI g 160 sk), ((q 33), aI g 160 lo), ((q 47), aI g 128 u15.2.2.2)] := hD
                            have hP : va_P g.1 classes [(h0, .inr (10, mob q rf n mm mb u15.1 u15.2.1 av ev wi mn tp tc sc nf fd me mp xn mt wh u15.2.2.1 ag an ig)), ((q 2), aI g 600 bs), ((q 14), aI g 620 tg), ((q 32), aI g 160 sk), ((q 33), aI g 160 lo), ((q 47), aI g 128 u15.2.2.2)] H := hP.sub [2, 0, 1, 3, 4, 5] rfl
                            have hD : va_D A [(h0, .inr (10, mob q rf n mm mb u15.1 u15.2.1 av ev wi mn tp tc sc nf fd me mp xn mt wh u15.2.2.1 ag an ig)), ((q 2), aI g 600 bs), ((q 14), aI g 620 tg), ((q 32), aI g 160 sk), ((q 33), aI g 160 lo), ((q 47), aI g 128 u15.2.2.2)] := hD.sub [2, 0, 1, 3, 4, 5] (by decide) rfl
                            obtain ⟨hp15_0, hp15_1, hp15_2⟩ := hr14
                            refine lv_goto (tgt := 399) hx hb d_Mod_simple_223 (by decide) ?_
                            refine lv_iconst (v := 1) hx hb d_Mod_simple_399 (by decide) ?_
                            exact tw_zret E hS (u15.1, u15.2.1, u15.2.2.1, u15.2.2.2) (by decide) (⟨(by decide), (fun h => (fun h => h) (hp15_0 h)), (by first | omega | (dsimp only <;> omega)), hp15_2⟩) hP hD d_Mod_simple_400
                          · refine lv_iconst (v := 2) hx hb d_Mod_simple_215 (by decide) ?_
                            refine lv_goto (tgt := 220) hx hb d_Mod_simple_216 (by decide) ?_
                            refine tw_wv (wr := [((q 2), aI g 600 bs), ((q 14), aI g 620 tg)]) (tw_runV (ws := [(h0, .inr (10, mob q rf n mm mb fa fp av ev wi mn tp tc sc nf fd me mp xn mt wh tq ag an ig)), ((q 2), aI g 600 bs), ((q 14), aI g 620 tg), ((q 32), aI g 160 sk), ((q 33), aI g 160 lo), ((q 47), aI g 128 nw)]) (wc := [(h0, .inr (10, mob q rf n mm mb fa fp av ev wi mn tp tc sc nf fd me mp xn mt wh tq ag an ig)), ((q 32), aI g 160 sk), ((q 33), aI g 160 lo), ((q 47), aI g 128 nw)]) (As := [.int 0, .int 2]) (rest := []) E hB hK hZ (g_Mod_fetch l g H.size h0 q rf n mm mb av ev wi mn tp tc sc nf fd me mp xn mt wh ag an ig sk lo fa fp tq nw 0 2 s1 o1 hNW (by omega) (by omega) hsk (by omega) hlo (by omega) (by omega) (by decide)) mc_Mod_fetch mi_Mod_fetch me_Mod_fetch wd_1656 hP hD hS hA [0, 3, 4, 5] rfl (by decide) 0 rfl rfl rfl rfl rfl (by decide) rfl hl.1 rfl (Nat.le_of_ble_eq_true rfl) (by decide) d_Mod_simple_220) hP hD hS hA [0, 3, 4, 5] [1, 2] rfl rfl (by decide) (by decide) (fun u17 H locs hr16 hP hD hS => ?_)
                            try dsimp only at hr16
                            have hP : va_P g.1 classes [((q 2), aI g 600 bs), ((q 14), aI g 620 tg), (h0, .inr (10, mob q rf n mm mb u17.1 u17.2.1 av ev wi mn tp tc sc nf fd me mp xn mt wh u17.2.2.1 ag an ig)), ((q 32), aI g 160 sk), ((q 33), aI g 160 lo), ((q 47), aI g 128 u17.2.2.2)] H := hP
                            have hD : va_D A [((q 2), aI g 600 bs), ((q 14), aI g 620 tg), (h0, .inr (10, mob q rf n mm mb u17.1 u17.2.1 av ev wi mn tp tc sc nf fd me mp xn mt wh u17.2.2.1 ag an ig)), ((q 32), aI g 160 sk), ((q 33), aI g 160 lo), ((q 47), aI g 128 u17.2.2.2)] := hD
                            have hP : va_P g.1 classes [(h0, .inr (10, mob q rf n mm mb u17.1 u17.2.1 av ev wi mn tp tc sc nf fd me mp xn mt wh u17.2.2.1 ag an ig)), ((q 2), aI g 600 bs), ((q 14), aI g 620 tg), ((q 32), aI g 160 sk), ((q 33), aI g 160 lo), ((q 47), aI g 128 u17.2.2.2)] H := hP.sub [2, 0, 1, 3, 4, 5] rfl
                            have hD : va_D A [(h0, .inr (10, mob q rf n mm mb u17.1 u17.2.1 av ev wi mn tp tc sc nf fd me mp xn mt wh u17.2.2.1 ag an ig)), ((q 2), aI g 600 bs), ((q 14), aI g 620 tg), ((q 32), aI g 160 sk), ((q 33), aI g 160 lo), ((q 47), aI g 128 u17.2.2.2)] := hD.sub [2, 0, 1, 3, 4, 5] (by decide) rfl
                            obtain ⟨hp17_0, hp17_1, hp17_2⟩ := hr16
                            refine lv_goto (tgt := 399) hx hb d_Mod_simple_223 (by decide) ?_
                            refine lv_iconst (v := 1) hx hb d_Mod_simple_399 (by decide) ?_
                            exact tw_zret E hS (u17.1, u17.2.1, u17.2.2.1, u17.2.2.2) (by decide) (⟨(by decide), (fun h => (fun h => h) (hp17_0 h)), (by first | omega | (dsimp only <;> omega)), hp17_2⟩) hP hD d_Mod_simple_400
                        · refine lv_iconst (v := 1) hx hb d_Mod_simple_205 (by decide) ?_
                          refine lv_goto (tgt := 220) hx hb d_Mod_simple_206 (by decide) ?_
                          refine tw_wv (wr := [((q 2), aI g 600 bs), ((q 14), aI g 620 tg)]) (tw_runV (ws := [(h0, .inr (10, mob q rf n mm mb fa fp av ev wi mn tp tc sc nf fd me mp xn mt wh tq ag an ig)), ((q 2), aI g 600 bs), ((q 14), aI g 620 tg), ((q 32), aI g 160 sk), ((q 33), aI g 160 lo), ((q 47), aI g 128 nw)]) (wc := [(h0, .inr (10, mob q rf n mm mb fa fp av ev wi mn tp tc sc nf fd me mp xn mt wh tq ag an ig)), ((q 32), aI g 160 sk), ((q 33), aI g 160 lo), ((q 47), aI g 128 nw)]) (As := [.int 0, .int 1]) (rest := []) E hB hK hZ (g_Mod_fetch l g H.size h0 q rf n mm mb av ev wi mn tp tc sc nf fd me mp xn mt wh ag an ig sk lo fa fp tq nw 0 1 s1 o1 hNW (by omega) (by omega) hsk (by omega) hlo (by omega) (by omega) (by decide)) mc_Mod_fetch mi_Mod_fetch me_Mod_fetch wd_1656 hP hD hS hA [0, 3, 4, 5] rfl (by decide) 0 rfl rfl rfl rfl rfl (by decide) rfl hl.1 rfl (Nat.le_of_ble_eq_true rfl) (by decide) d_Mod_simple_220) hP hD hS hA [0, 3, 4, 5] [1, 2] rfl rfl (by decide) (by decide) (fun u19 H locs hr18 hP hD hS => ?_)
                          try dsimp only at hr18
                          have hP : va_P g.1 classes [((q 2), aI g 600 bs), ((q 14), aI g 620 tg), (h0, .inr (10, mob q rf n mm mb u19.1 u19.2.1 av ev wi mn tp tc sc nf fd me mp xn mt wh u19.2.2.1 ag an ig)), ((q 32), aI g 160 sk), ((q 33), aI g 160 lo), ((q 47), aI g 128 u19.2.2.2)] H := hP
                          have hD : va_D A [((q 2), aI g 600 bs), ((q 14), aI g 620 tg), (h0, .inr (10, mob q rf n mm mb u19.1 u19.2.1 av ev wi mn tp tc sc nf fd me mp xn mt wh u19.2.2.1 ag an ig)), ((q 32), aI g 160 sk), ((q 33), aI g 160 lo), ((q 47), aI g 128 u19.2.2.2)] := hD
                          have hP : va_P g.1 classes [(h0, .inr (10, mob q rf n mm mb u19.1 u19.2.1 av ev wi mn tp tc sc nf fd me mp xn mt wh u19.2.2.1 ag an ig)), ((q 2), aI g 600 bs), ((q 14), aI g 620 tg), ((q 32), aI g 160 sk), ((q 33), aI g 160 lo), ((q 47), aI g 128 u19.2.2.2)] H := hP.sub [2, 0, 1, 3, 4, 5] rfl
                          have hD : va_D A [(h0, .inr (10, mob q rf n mm mb u19.1 u19.2.1 av ev wi mn tp tc sc nf fd me mp xn mt wh u19.2.2.1 ag an ig)), ((q 2), aI g 600 bs), ((q 14), aI g 620 tg), ((q 32), aI g 160 sk), ((q 33), aI g 160 lo), ((q 47), aI g 128 u19.2.2.2)] := hD.sub [2, 0, 1, 3, 4, 5] (by decide) rfl
                          obtain ⟨hp19_0, hp19_1, hp19_2⟩ := hr18
                          refine lv_goto (tgt := 399) hx hb d_Mod_simple_223 (by decide) ?_
                          refine lv_iconst (v := 1) hx hb d_Mod_simple_399 (by decide) ?_
                          exact tw_zret E hS (u19.1, u19.2.1, u19.2.2.1, u19.2.2.2) (by decide) (⟨(by decide), (fun h => (fun h => h) (hp19_0 h)), (by first | omega | (dsimp only <;> omega)), hp19_2⟩) hP hD d_Mod_simple_400
                      · refine lv_iload_n hx hb d_Mod_simple_191 rfl (lv_at hl 2 rfl) ?_
                        refine lv_bipush (v := 25) hx hb d_Mod_simple_192 (by decide) ?_
                        refine lv_icmp_ne (tgt := 226) hx hb d_Mod_simple_194 (by decide) (fun h194 => ?_) (fun h194 => ?_)
                        · refine lv_iload_n hx hb d_Mod_simple_226 rfl (lv_at hl 2 rfl) ?_
                          refine lv_bipush (v := 26) hx hb d_Mod_simple_227 (by decide) ?_
                          refine lv_bipush (v := 33) hx hb d_Mod_simple_229 (by decide) ?_
                          refine tw_si (tw_runS (ws := [(h0, .inr (10, mob q rf n mm mb fa fp av ev wi mn tp tc sc nf fd me mp xn mt wh tq ag an ig)), ((q 2), aI g 600 bs), ((q 14), aI g 620 tg), ((q 32), aI g 160 sk), ((q 33), aI g 160 lo), ((q 47), aI g 128 nw)]) (wc := []) (As := [.int (nI cn), .int 26, .int 33]) (rest := []) E hB hK hZ (c_Mod_isIn l g H.size (nI cn) 26 33) mc_Mod_isIn ms_Mod_isIn wd_1443 hP hD hS hA [] rfl (by decide) rfl rfl (by decide) rfl hl.1 rfl (Nat.le_of_ble_eq_true rfl) (by decide) d_Mod_simple_231) (fun r20 hr20 => ?_)
                          obtain rfl : r20 = is_in (nI cn) 26 33 := hr20
                          refine lv_if_eq (tgt := 261) hx hb d_Mod_simple_234 (by decide) (fun h234 => ?_) (fun h234 => ?_)
                          · refine lv_iload_n hx hb d_Mod_simple_261 rfl (lv_at hl 2 rfl) ?_
                            refine lv_bipush (v := 42) hx hb d_Mod_simple_262 (by decide) ?_
                            refine lv_bipush (v := 45) hx hb d_Mod_simple_264 (by decide) ?_
                            refine tw_si (tw_runS (ws := [(h0, .inr (10, mob q rf n mm mb fa fp av ev wi mn tp tc sc nf fd me mp xn mt wh tq ag an ig)), ((q 2), aI g 600 bs), ((q 14), aI g 620 tg), ((q 32), aI g 160 sk), ((q 33), aI g 160 lo), ((q 47), aI g 128 nw)]) (wc := []) (As := [.int (nI cn), .int 42, .int 45]) (rest := []) E hB hK hZ (c_Mod_isIn l g H.size (nI cn) 42 45) mc_Mod_isIn ms_Mod_isIn wd_1443 hP hD hS hA [] rfl (by decide) rfl rfl (by decide) rfl hl.1 rfl (Nat.le_of_ble_eq_true rfl) (by decide) d_Mod_simple_266) (fun r21 hr21 => ?_)
                            obtain rfl : r21 = is_in (nI cn) 42 45 := hr21
                            refine lv_if_eq (tgt := 284) hx hb d_Mod_simple_269 (by decide) (fun h269 => ?_) (fun h269 => ?_)
                            · refine lv_iload_n hx hb d_Mod_simple_284 rfl (lv_at hl 2 rfl) ?_
                              refine lv_bipush (v := 54) hx hb d_Mod_simple_285 (by decide) ?_
                              refine lv_icmp_eq (tgt := 302) hx hb d_Mod_simple_287 (by decide) (fun h287 => ?_) (fun h287 => ?_)
                              · refine lv_aload_n hx hb d_Mod_simple_302 rfl (lv_at hl 1 rfl) ?_
                                refine lv_iload_n hx hb d_Mod_simple_303 rfl (lv_at hl 0 rfl) ?_
                                refine lv_iload_n hx hb d_Mod_simple_304 rfl (lv_at hl 2 rfl) ?_
                                refine lv_bipush (v := 54) hx hb d_Mod_simple_305 (by decide) ?_
                                refine lv_icmp_ne (tgt := 314) hx hb d_Mod_simple_307 (by decide) (fun h307 => ?_) (fun h307 => ?_)
                                · refine lv_iload_n hx hb d_Mod_simple_314 rfl (lv_at hl 2 rfl) ?_
                                  refine lv_bipush (v := 55) hx hb d_Mod_simple_315 (by decide) ?_
                                  refine lv_icmp_ne (tgt := 324) hx hb d_Mod_simple_317 (by decide) (fun h317 => ?_) (fun h317 => ?_)
                                  · refine lv_iconst (v := 4) hx hb d_Mod_simple_324 (by decide) ?_
                                    refine tw_wv (wr := [((q 2), aI g 600 bs), ((q 14), aI g 620 tg), ((q 32), aI g 160 sk)]) (tw_runV (ws := [(h0, .inr (10, mob q rf n mm mb fa fp av ev wi mn tp tc sc nf fd me mp xn mt wh tq ag an ig)), ((q 2), aI g 600 bs), ((q 14), aI g 620 tg), ((q 32), aI g 160 sk), ((q 33), aI g 160 lo), ((q 47), aI g 128 nw)]) (wc := [(h0, .inr (10, mob q rf n mm mb fa fp av ev wi mn tp tc sc nf fd me mp xn mt wh tq ag an ig)), ((q 33), aI g 160 lo), ((q 47), aI g 128 nw)]) (As := [.int 0, .int 4]) (rest := []) E hB hK hZ (g_Mod_store l g H.size h0 q rf n mm mb av ev wi mn tp tc sc nf fd me mp xn mt wh ag an ig lo fa fp tq nw 0 4 o1 hNW (by omega) (by omega) hlo (by omega) (by omega) (by decide)) mc_Mod_store mi_Mod_store me_Mod_store wd_1664 hP hD hS hA [0, 4, 5] rfl (by decide) 0 rfl rfl rfl rfl rfl (by decide) rfl hl.1 rfl (Nat.le_of_ble_eq_true rfl) (by decide) d_Mod_simple_325) hP hD hS hA [0, 4, 5] [1, 2, 3] rfl rfl (by decide) (by decide) (fun u23 H locs hr22 hP hD hS => ?_)
                                    try dsimp only at hr22
                                    have hP : va_P g.1 classes [((q 2), aI g 600 bs), ((q 14), aI g 620 tg), ((q 32), aI g 160 sk), (h0, .inr (10, mob q rf n mm mb u23.1 u23.2.1 av ev wi mn tp tc sc nf fd me mp xn mt wh u23.2.2.1 ag an ig)), ((q 33), aI g 160 lo), ((q 47), aI g 128 u23.2.2.2)] H := hP
                                    have hD : va_D A [((q 2), aI g 600 bs), ((q 14), aI g 620 tg), ((q 32), aI g 160 sk), (h0, .inr (10, mob q rf n mm mb u23.1 u23.2.1 av ev wi mn tp tc sc nf fd me mp xn mt wh u23.2.2.1 ag an ig)), ((q 33), aI g 160 lo), ((q 47), aI g 128 u23.2.2.2)] := hD
                                    have hP : va_P g.1 classes [(h0, .inr (10, mob q rf n mm mb u23.1 u23.2.1 av ev wi mn tp tc sc nf fd me mp xn mt wh u23.2.2.1 ag an ig)), ((q 2), aI g 600 bs), ((q 14), aI g 620 tg), ((q 32), aI g 160 sk), ((q 33), aI g 160 lo), ((q 47), aI g 128 u23.2.2.2)] H := hP.sub [3, 0, 1, 2, 4, 5] rfl
                                    have hD : va_D A [(h0, .inr (10, mob q rf n mm mb u23.1 u23.2.1 av ev wi mn tp tc sc nf fd me mp xn mt wh u23.2.2.1 ag an ig)), ((q 2), aI g 600 bs), ((q 14), aI g 620 tg), ((q 32), aI g 160 sk), ((q 33), aI g 160 lo), ((q 47), aI g 128 u23.2.2.2)] := hD.sub [3, 0, 1, 2, 4, 5] (by decide) rfl
                                    obtain ⟨hp23_0, hp23_1, hp23_2⟩ := hr22
                                    refine lv_goto (tgt := 399) hx hb d_Mod_simple_328 (by decide) ?_
                                    refine lv_iconst (v := 1) hx hb d_Mod_simple_399 (by decide) ?_
                                    exact tw_zret E hS (u23.1, u23.2.1, u23.2.2.1, u23.2.2.2) (by decide) (⟨(by decide), (fun h => (fun h => h) (hp23_0 h)), (by first | omega | (dsimp only <;> omega)), hp23_2⟩) hP hD d_Mod_simple_400
                                  · refine lv_iconst (v := 2) hx hb d_Mod_simple_320 (by decide) ?_
                                    refine lv_goto (tgt := 325) hx hb d_Mod_simple_321 (by decide) ?_
                                    refine tw_wv (wr := [((q 2), aI g 600 bs), ((q 14), aI g 620 tg), ((q 32), aI g 160 sk)]) (tw_runV (ws := [(h0, .inr (10, mob q rf n mm mb fa fp av ev wi mn tp tc sc nf fd me mp xn mt wh tq ag an ig)), ((q 2), aI g 600 bs), ((q 14), aI g 620 tg), ((q 32), aI g 160 sk), ((q 33), aI g 160 lo), ((q 47), aI g 128 nw)]) (wc := [(h0, .inr (10, mob q rf n mm mb fa fp av ev wi mn tp tc sc nf fd me mp xn mt wh tq ag an ig)), ((q 33), aI g 160 lo), ((q 47), aI g 128 nw)]) (As := [.int 0, .int 2]) (rest := []) E hB hK hZ (g_Mod_store l g H.size h0 q rf n mm mb av ev wi mn tp tc sc nf fd me mp xn mt wh ag an ig lo fa fp tq nw 0 2 o1 hNW (by omega) (by omega) hlo (by omega) (by omega) (by decide)) mc_Mod_store mi_Mod_store me_Mod_store wd_1664 hP hD hS hA [0, 4, 5] rfl (by decide) 0 rfl rfl rfl rfl rfl (by decide) rfl hl.1 rfl (Nat.le_of_ble_eq_true rfl) (by decide) d_Mod_simple_325) hP hD hS hA [0, 4, 5] [1, 2, 3] rfl rfl (by decide) (by decide) (fun u25 H locs hr24 hP hD hS => ?_)
                                    try dsimp only at hr24
                                    have hP : va_P g.1 classes [((q 2), aI g 600 bs), ((q 14), aI g 620 tg), ((q 32), aI g 160 sk), (h0, .inr (10, mob q rf n mm mb u25.1 u25.2.1 av ev wi mn tp tc sc nf fd me mp xn mt wh u25.2.2.1 ag an ig)), ((q 33), aI g 160 lo), ((q 47), aI g 128 u25.2.2.2)] H := hP
                                    have hD : va_D A [((q 2), aI g 600 bs), ((q 14), aI g 620 tg), ((q 32), aI g 160 sk), (h0, .inr (10, mob q rf n mm mb u25.1 u25.2.1 av ev wi mn tp tc sc nf fd me mp xn mt wh u25.2.2.1 ag an ig)), ((q 33), aI g 160 lo), ((q 47), aI g 128 u25.2.2.2)] := hD
                                    have hP : va_P g.1 classes [(h0, .inr (10, mob q rf n mm mb u25.1 u25.2.1 av ev wi mn tp tc sc nf fd me mp xn mt wh u25.2.2.1 ag an ig)), ((q 2), aI g 600 bs), ((q 14), aI g 620 tg), ((q 32), aI g 160 sk), ((q 33), aI g 160 lo), ((q 47), aI g 128 u25.2.2.2)] H := hP.sub [3, 0, 1, 2, 4, 5] rfl
                                    have hD : va_D A [(h0, .inr (10, mob q rf n mm mb u25.1 u25.2.1 av ev wi mn tp tc sc nf fd me mp xn mt wh u25.2.2.1 ag an ig)), ((q 2), aI g 600 bs), ((q 14), aI g 620 tg), ((q 32), aI g 160 sk), ((q 33), aI g 160 lo), ((q 47), aI g 128 u25.2.2.2)] := hD.sub [3, 0, 1, 2, 4, 5] (by decide) rfl
                                    obtain ⟨hp25_0, hp25_1, hp25_2⟩ := hr24
                                    refine lv_goto (tgt := 399) hx hb d_Mod_simple_328 (by decide) ?_
                                    refine lv_iconst (v := 1) hx hb d_Mod_simple_399 (by decide) ?_
                                    exact tw_zret E hS (u25.1, u25.2.1, u25.2.2.1, u25.2.2.2) (by decide) (⟨(by decide), (fun h => (fun h => h) (hp25_0 h)), (by first | omega | (dsimp only <;> omega)), hp25_2⟩) hP hD d_Mod_simple_400
                                · refine lv_iconst (v := 1) hx hb d_Mod_simple_310 (by decide) ?_
                                  refine lv_goto (tgt := 325) hx hb d_Mod_simple_311 (by decide) ?_
                                  refine tw_wv (wr := [((q 2), aI g 600 bs), ((q 14), aI g 620 tg), ((q 32), aI g 160 sk)]) (tw_runV (ws := [(h0, .inr (10, mob q rf n mm mb fa fp av ev wi mn tp tc sc nf fd me mp xn mt wh tq ag an ig)), ((q 2), aI g 600 bs), ((q 14), aI g 620 tg), ((q 32), aI g 160 sk), ((q 33), aI g 160 lo), ((q 47), aI g 128 nw)]) (wc := [(h0, .inr (10, mob q rf n mm mb fa fp av ev wi mn tp tc sc nf fd me mp xn mt wh tq ag an ig)), ((q 33), aI g 160 lo), ((q 47), aI g 128 nw)]) (As := [.int 0, .int 1]) (rest := []) E hB hK hZ (g_Mod_store l g H.size h0 q rf n mm mb av ev wi mn tp tc sc nf fd me mp xn mt wh ag an ig lo fa fp tq nw 0 1 o1 hNW (by omega) (by omega) hlo (by omega) (by omega) (by decide)) mc_Mod_store mi_Mod_store me_Mod_store wd_1664 hP hD hS hA [0, 4, 5] rfl (by decide) 0 rfl rfl rfl rfl rfl (by decide) rfl hl.1 rfl (Nat.le_of_ble_eq_true rfl) (by decide) d_Mod_simple_325) hP hD hS hA [0, 4, 5] [1, 2, 3] rfl rfl (by decide) (by decide) (fun u27 H locs hr26 hP hD hS => ?_)
                                  try dsimp only at hr26
                                  have hP : va_P g.1 classes [((q 2), aI g 600 bs), ((q 14), aI g 620 tg), ((q 32), aI g 160 sk), (h0, .inr (10, mob q rf n mm mb u27.1 u27.2.1 av ev wi mn tp tc sc nf fd me mp xn mt wh u27.2.2.1 ag an ig)), ((q 33), aI g 160 lo), ((q 47), aI g 128 u27.2.2.2)] H := hP
                                  have hD : va_D A [((q 2), aI g 600 bs), ((q 14), aI g 620 tg), ((q 32), aI g 160 sk), (h0, .inr (10, mob q rf n mm mb u27.1 u27.2.1 av ev wi mn tp tc sc nf fd me mp xn mt wh u27.2.2.1 ag an ig)), ((q 33), aI g 160 lo), ((q 47), aI g 128 u27.2.2.2)] := hD
                                  have hP : va_P g.1 classes [(h0, .inr (10, mob q rf n mm mb u27.1 u27.2.1 av ev wi mn tp tc sc nf fd me mp xn mt wh u27.2.2.1 ag an ig)), ((q 2), aI g 600 bs), ((q 14), aI g 620 tg), ((q 32), aI g 160 sk), ((q 33), aI g 160 lo), ((q 47), aI g 128 u27.2.2.2)] H := hP.sub [3, 0, 1, 2, 4, 5] rfl
                                  have hD : va_D A [(h0, .inr (10, mob q rf n mm mb u27.1 u27.2.1 av ev wi mn tp tc sc nf fd me mp xn mt wh u27.2.2.1 ag an ig)), ((q 2), aI g 600 bs), ((q 14), aI g 620 tg), ((q 32), aI g 160 sk), ((q 33), aI g 160 lo), ((q 47), aI g 128 u27.2.2.2)] := hD.sub [3, 0, 1, 2, 4, 5] (by decide) rfl
                                  obtain ⟨hp27_0, hp27_1, hp27_2⟩ := hr26
                                  refine lv_goto (tgt := 399) hx hb d_Mod_simple_328 (by decide) ?_
                                  refine lv_iconst (v := 1) hx hb d_Mod_simple_399 (by decide) ?_
                                  exact tw_zret E hS (u27.1, u27.2.1, u27.2.2.1, u27.2.2.2) (by decide) (⟨(by decide), (fun h => (fun h => h) (hp27_0 h)), (by first | omega | (dsimp only <;> omega)), hp27_2⟩) hP hD d_Mod_simple_400
                              · refine lv_iload_n hx hb d_Mod_simple_290 rfl (lv_at hl 2 rfl) ?_
                                refine lv_bipush (v := 55) hx hb d_Mod_simple_291 (by decide) ?_
                                refine lv_icmp_eq (tgt := 302) hx hb d_Mod_simple_293 (by decide) (fun h293 => ?_) (fun h293 => ?_)
                                · refine lv_aload_n hx hb d_Mod_simple_302 rfl (lv_at hl 1 rfl) ?_
                                  refine lv_iload_n hx hb d_Mod_simple_303 rfl (lv_at hl 0 rfl) ?_
                                  refine lv_iload_n hx hb d_Mod_simple_304 rfl (lv_at hl 2 rfl) ?_
                                  refine lv_bipush (v := 54) hx hb d_Mod_simple_305 (by decide) ?_
                                  refine lv_icmp_ne (tgt := 314) hx hb d_Mod_simple_307 (by decide) (fun h307 => ?_) (fun h307 => ?_)
                                  · refine lv_iload_n hx hb d_Mod_simple_314 rfl (lv_at hl 2 rfl) ?_
                                    refine lv_bipush (v := 55) hx hb d_Mod_simple_315 (by decide) ?_
                                    refine lv_icmp_ne (tgt := 324) hx hb d_Mod_simple_317 (by decide) (fun h317 => ?_) (fun h317 => ?_)
                                    · refine lv_iconst (v := 4) hx hb d_Mod_simple_324 (by decide) ?_
                                      refine tw_wv (wr := [((q 2), aI g 600 bs), ((q 14), aI g 620 tg), ((q 32), aI g 160 sk)]) (tw_runV (ws := [(h0, .inr (10, mob q rf n mm mb fa fp av ev wi mn tp tc sc nf fd me mp xn mt wh tq ag an ig)), ((q 2), aI g 600 bs), ((q 14), aI g 620 tg), ((q 32), aI g 160 sk), ((q 33), aI g 160 lo), ((q 47), aI g 128 nw)]) (wc := [(h0, .inr (10, mob q rf n mm mb fa fp av ev wi mn tp tc sc nf fd me mp xn mt wh tq ag an ig)), ((q 33), aI g 160 lo), ((q 47), aI g 128 nw)]) (As := [.int 0, .int 4]) (rest := []) E hB hK hZ (g_Mod_store l g H.size h0 q rf n mm mb av ev wi mn tp tc sc nf fd me mp xn mt wh ag an ig lo fa fp tq nw 0 4 o1 hNW (by omega) (by omega) hlo (by omega) (by omega) (by decide)) mc_Mod_store mi_Mod_store me_Mod_store wd_1664 hP hD hS hA [0, 4, 5] rfl (by decide) 0 rfl rfl rfl rfl rfl (by decide) rfl hl.1 rfl (Nat.le_of_ble_eq_true rfl) (by decide) d_Mod_simple_325) hP hD hS hA [0, 4, 5] [1, 2, 3] rfl rfl (by decide) (by decide) (fun u29 H locs hr28 hP hD hS => ?_)
                                      try dsimp only at hr28
                                      have hP : va_P g.1 classes [((q 2), aI g 600 bs), ((q 14), aI g 620 tg), ((q 32), aI g 160 sk), (h0, .inr (10, mob q rf n mm mb u29.1 u29.2.1 av ev wi mn tp tc sc nf fd me mp xn mt wh u29.2.2.1 ag an ig)), ((q 33), aI g 160 lo), ((q 47), aI g 128 u29.2.2.2)] H := hP
                                      have hD : va_D A [((q 2), aI g 600 bs), ((q 14), aI g 620 tg), ((q 32), aI g 160 sk), (h0, .inr (10, mob q rf n mm mb u29.1 u29.2.1 av ev wi mn tp tc sc nf fd me mp xn mt wh u29.2.2.1 ag an ig)), ((q 33), aI g 160 lo), ((q 47), aI g 128 u29.2.2.2)] := hD
                                      have hP : va_P g.1 classes [(h0, .inr (10, mob q rf n mm mb u29.1 u29.2.1 av ev wi mn tp tc sc nf fd me mp xn mt wh u29.2.2.1 ag an ig)), ((q 2), aI g 600 bs), ((q 14), aI g 620 tg), ((q 32), aI g 160 sk), ((q 33), aI g 160 lo), ((q 47), aI g 128 u29.2.2.2)] H := hP.sub [3, 0, 1, 2, 4, 5] rfl
                                      have hD : va_D A [(h0, .inr (10, mob q rf n mm mb u29.1 u29.2.1 av ev wi mn tp tc sc nf fd me mp xn mt wh u29.2.2.1 ag an ig)), ((q 2), aI g 600 bs), ((q 14), aI g 620 tg), ((q 32), aI g 160 sk), ((q 33), aI g 160 lo), ((q 47), aI g 128 u29.2.2.2)] := hD.sub [3, 0, 1, 2, 4, 5] (by decide) rfl
                                      obtain ⟨hp29_0, hp29_1, hp29_2⟩ := hr28
                                      refine lv_goto (tgt := 399) hx hb d_Mod_simple_328 (by decide) ?_
                                      refine lv_iconst (v := 1) hx hb d_Mod_simple_399 (by decide) ?_
                                      exact tw_zret E hS (u29.1, u29.2.1, u29.2.2.1, u29.2.2.2) (by decide) (⟨(by decide), (fun h => (fun h => h) (hp29_0 h)), (by first | omega | (dsimp only <;> omega)), hp29_2⟩) hP hD d_Mod_simple_400
                                    · refine lv_iconst (v := 2) hx hb d_Mod_simple_320 (by decide) ?_
                                      refine lv_goto (tgt := 325) hx hb d_Mod_simple_321 (by decide) ?_
                                      refine tw_wv (wr := [((q 2), aI g 600 bs), ((q 14), aI g 620 tg), ((q 32), aI g 160 sk)]) (tw_runV (ws := [(h0, .inr (10, mob q rf n mm mb fa fp av ev wi mn tp tc sc nf fd me mp xn mt wh tq ag an ig)), ((q 2), aI g 600 bs), ((q 14), aI g 620 tg), ((q 32), aI g 160 sk), ((q 33), aI g 160 lo), ((q 47), aI g 128 nw)]) (wc := [(h0, .inr (10, mob q rf n mm mb fa fp av ev wi mn tp tc sc nf fd me mp xn mt wh tq ag an ig)), ((q 33), aI g 160 lo), ((q 47), aI g 128 nw)]) (As := [.int 0, .int 2]) (rest := []) E hB hK hZ (g_Mod_store l g H.size h0 q rf n mm mb av ev wi mn tp tc sc nf fd me mp xn mt wh ag an ig lo fa fp tq nw 0 2 o1 hNW (by omega) (by omega) hlo (by omega) (by omega) (by decide)) mc_Mod_store mi_Mod_store me_Mod_store wd_1664 hP hD hS hA [0, 4, 5] rfl (by decide) 0 rfl rfl rfl rfl rfl (by decide) rfl hl.1 rfl (Nat.le_of_ble_eq_true rfl) (by decide) d_Mod_simple_325) hP hD hS hA [0, 4, 5] [1, 2, 3] rfl rfl (by decide) (by decide) (fun u31 H locs hr30 hP hD hS => ?_)
                                      try dsimp only at hr30
                                      have hP : va_P g.1 classes [((q 2), aI g 600 bs), ((q 14), aI g 620 tg), ((q 32), aI g 160 sk), (h0, .inr (10, mob q rf n mm mb u31.1 u31.2.1 av ev wi mn tp tc sc nf fd me mp xn mt wh u31.2.2.1 ag an ig)), ((q 33), aI g 160 lo), ((q 47), aI g 128 u31.2.2.2)] H := hP
                                      have hD : va_D A [((q 2), aI g 600 bs), ((q 14), aI g 620 tg), ((q 32), aI g 160 sk), (h0, .inr (10, mob q rf n mm mb u31.1 u31.2.1 av ev wi mn tp tc sc nf fd me mp xn mt wh u31.2.2.1 ag an ig)), ((q 33), aI g 160 lo), ((q 47), aI g 128 u31.2.2.2)] := hD
                                      have hP : va_P g.1 classes [(h0, .inr (10, mob q rf n mm mb u31.1 u31.2.1 av ev wi mn tp tc sc nf fd me mp xn mt wh u31.2.2.1 ag an ig)), ((q 2), aI g 600 bs), ((q 14), aI g 620 tg), ((q 32), aI g 160 sk), ((q 33), aI g 160 lo), ((q 47), aI g 128 u31.2.2.2)] H := hP.sub [3, 0, 1, 2, 4, 5] rfl
                                      have hD : va_D A [(h0, .inr (10, mob q rf n mm mb u31.1 u31.2.1 av ev wi mn tp tc sc nf fd me mp xn mt wh u31.2.2.1 ag an ig)), ((q 2), aI g 600 bs), ((q 14), aI g 620 tg), ((q 32), aI g 160 sk), ((q 33), aI g 160 lo), ((q 47), aI g 128 u31.2.2.2)] := hD.sub [3, 0, 1, 2, 4, 5] (by decide) rfl
                                      obtain ⟨hp31_0, hp31_1, hp31_2⟩ := hr30
                                      refine lv_goto (tgt := 399) hx hb d_Mod_simple_328 (by decide) ?_
                                      refine lv_iconst (v := 1) hx hb d_Mod_simple_399 (by decide) ?_
                                      exact tw_zret E hS (u31.1, u31.2.1, u31.2.2.1, u31.2.2.2) (by decide) (⟨(by decide), (fun h => (fun h => h) (hp31_0 h)), (by first | omega | (dsimp only <;> omega)), hp31_2⟩) hP hD d_Mod_simple_400
                                  · refine lv_iconst (v := 1) hx hb d_Mod_simple_310 (by decide) ?_
                                    refine lv_goto (tgt := 325) hx hb d_Mod_simple_311 (by decide) ?_
                                    refine tw_wv (wr := [((q 2), aI g 600 bs), ((q 14), aI g 620 tg), ((q 32), aI g 160 sk)]) (tw_runV (ws := [(h0, .inr (10, mob q rf n mm mb fa fp av ev wi mn tp tc sc nf fd me mp xn mt wh tq ag an ig)), ((q 2), aI g 600 bs), ((q 14), aI g 620 tg), ((q 32), aI g 160 sk), ((q 33), aI g 160 lo), ((q 47), aI g 128 nw)]) (wc := [(h0, .inr (10, mob q rf n mm mb fa fp av ev wi mn tp tc sc nf fd me mp xn mt wh tq ag an ig)), ((q 33), aI g 160 lo), ((q 47), aI g 128 nw)]) (As := [.int 0, .int 1]) (rest := []) E hB hK hZ (g_Mod_store l g H.size h0 q rf n mm mb av ev wi mn tp tc sc nf fd me mp xn mt wh ag an ig lo fa fp tq nw 0 1 o1 hNW (by omega) (by omega) hlo (by omega) (by omega) (by decide)) mc_Mod_store mi_Mod_store me_Mod_store wd_1664 hP hD hS hA [0, 4, 5] rfl (by decide) 0 rfl rfl rfl rfl rfl (by decide) rfl hl.1 rfl (Nat.le_of_ble_eq_true rfl) (by decide) d_Mod_simple_325) hP hD hS hA [0, 4, 5] [1, 2, 3] rfl rfl (by decide) (by decide) (fun u33 H locs hr32 hP hD hS => ?_)
                                    try dsimp only at hr32
                                    have hP : va_P g.1 classes [((q 2), aI g 600 bs), ((q 14), aI g 620 tg), ((q 32), aI g 160 sk), (h0, .inr (10, mob q rf n mm mb u33.1 u33.2.1 av ev wi mn tp tc sc nf fd me mp xn mt wh u33.2.2.1 ag an ig)), ((q 33), aI g 160 lo), ((q 47), aI g 128 u33.2.2.2)] H := hP
                                    have hD : va_D A [((q 2), aI g 600 bs), ((q 14), aI g 620 tg), ((q 32), aI g 160 sk), (h0, .inr (10, mob q rf n mm mb u33.1 u33.2.1 av ev wi mn tp tc sc nf fd me mp xn mt wh u33.2.2.1 ag an ig)), ((q 33), aI g 160 lo), ((q 47), aI g 128 u33.2.2.2)] := hD
                                    have hP : va_P g.1 classes [(h0, .inr (10, mob q rf n mm mb u33.1 u33.2.1 av ev wi mn tp tc sc nf fd me mp xn mt wh u33.2.2.1 ag an ig)), ((q 2), aI g 600 bs), ((q 14), aI g 620 tg), ((q 32), aI g 160 sk), ((q 33), aI g 160 lo), ((q 47), aI g 128 u33.2.2.2)] H := hP.sub [3, 0, 1, 2, 4, 5] rfl
                                    have hD : va_D A [(h0, .inr (10, mob q rf n mm mb u33.1 u33.2.1 av ev wi mn tp tc sc nf fd me mp xn mt wh u33.2.2.1 ag an ig)), ((q 2), aI g 600 bs), ((q 14), aI g 620 tg), ((q 32), aI g 160 sk), ((q 33), aI g 160 lo), ((q 47), aI g 128 u33.2.2.2)] := hD.sub [3, 0, 1, 2, 4, 5] (by decide) rfl
                                    obtain ⟨hp33_0, hp33_1, hp33_2⟩ := hr32
                                    refine lv_goto (tgt := 399) hx hb d_Mod_simple_328 (by decide) ?_
                                    refine lv_iconst (v := 1) hx hb d_Mod_simple_399 (by decide) ?_
                                    exact tw_zret E hS (u33.1, u33.2.1, u33.2.2.1, u33.2.2.2) (by decide) (⟨(by decide), (fun h => (fun h => h) (hp33_0 h)), (by first | omega | (dsimp only <;> omega)), hp33_2⟩) hP hD d_Mod_simple_400
                                · refine lv_iload_n hx hb d_Mod_simple_296 rfl (lv_at hl 2 rfl) ?_
                                  refine lv_bipush (v := 58) hx hb d_Mod_simple_297 (by decide) ?_
                                  refine lv_icmp_ne (tgt := 331) hx hb d_Mod_simple_299 (by decide) (fun h299 => ?_) (fun h299 => ?_)
                                  · refine lv_iload_n hx hb d_Mod_simple_331 rfl (lv_at hl 2 rfl) ?_
                                    refine lv_bipush (v := 59) hx hb d_Mod_simple_332 (by decide) ?_
                                    refine lv_bipush (v := 66) hx hb d_Mod_simple_334 (by decide) ?_
                                    refine tw_si (tw_runS (ws := [(h0, .inr (10, mob q rf n mm mb fa fp av ev wi mn tp tc sc nf fd me mp xn mt wh tq ag an ig)), ((q 2), aI g 600 bs), ((q 14), aI g 620 tg), ((q 32), aI g 160 sk), ((q 33), aI g 160 lo), ((q 47), aI g 128 nw)]) (wc := []) (As := [.int (nI cn), .int 59, .int 66]) (rest := []) E hB hK hZ (c_Mod_isIn l g H.size (nI cn) 59 66) mc_Mod_isIn ms_Mod_isIn wd_1443 hP hD hS hA [] rfl (by decide) rfl rfl (by decide) rfl hl.1 rfl (Nat.le_of_ble_eq_true rfl) (by decide) d_Mod_simple_336) (fun r34 hr34 => ?_)
                                    obtain rfl : r34 = is_in (nI cn) 59 66 := hr34
                                    refine lv_if_eq (tgt := 366) hx hb d_Mod_simple_339 (by decide) (fun h339 => ?_) (fun h339 => ?_)
                                    · refine lv_iload_n hx hb d_Mod_simple_366 rfl (lv_at hl 2 rfl) ?_
                                      refine lv_bipush (v := 75) hx hb d_Mod_simple_367 (by decide) ?_
                                      refine lv_bipush (v := 78) hx hb d_Mod_simple_369 (by decide) ?_
                                      refine tw_si (tw_runS (ws := [(h0, .inr (10, mob q rf n mm mb fa fp av ev wi mn tp tc sc nf fd me mp xn mt wh tq ag an ig)), ((q 2), aI g 600 bs), ((q 14), aI g 620 tg), ((q 32), aI g 160 sk), ((q 33), aI g 160 lo), ((q 47), aI g 128 nw)]) (wc := []) (As := [.int (nI cn), .int 75, .int 78]) (rest := []) E hB hK hZ (c_Mod_isIn l g H.size (nI cn) 75 78) mc_Mod_isIn ms_Mod_isIn wd_1443 hP hD hS hA [] rfl (by decide) rfl rfl (by decide) rfl hl.1 rfl (Nat.le_of_ble_eq_true rfl) (by decide) d_Mod_simple_371) (fun r35 hr35 => ?_)
                                      obtain rfl : r35 = is_in (nI cn) 75 78 := hr35
                                      refine lv_if_eq (tgt := 389) hx hb d_Mod_simple_374 (by decide) (fun h374 => ?_) (fun h374 => ?_)
                                      · refine lv_iload_n hx hb d_Mod_simple_389 rfl (lv_at hl 2 rfl) ?_
                                        refine lv_if_ne (tgt := 397) hx hb d_Mod_simple_390 (by decide) (fun h390 => ?_) (fun h390 => ?_)
                                        · refine lv_iconst (v := 0) hx hb d_Mod_simple_397 (by decide) ?_
                                          exact tw_zret E hS (fa, fp, tq, nw) (by decide) (⟨(by decide), (fun h => h), (by first | omega | (dsimp only <;> omega)), hNW⟩) hP hD d_Mod_simple_398
                                        · refine lv_iconst (v := 1) hx hb d_Mod_simple_393 (by decide) ?_
                                          refine lv_goto (tgt := 398) hx hb d_Mod_simple_394 (by decide) ?_
                                          exact tw_zret E hS (fa, fp, tq, nw) (by decide) (⟨(by decide), (fun h => h), (by first | omega | (dsimp only <;> omega)), hNW⟩) hP hD d_Mod_simple_398
                                      · obtain ⟨i1, i2⟩ := is_inN h374
                                        have i1 := tn_nlt (b := 75) i1 (by omega) (by decide)
                                        have i2 := tn_nlt (a := 78) i2 (by decide) (by omega)
                                        refine lv_aload_n hx hb d_Mod_simple_377 rfl (lv_at hl 1 rfl) ?_
                                        refine lv_iload_n hx hb d_Mod_simple_378 rfl (lv_at hl 2 rfl) ?_
                                        refine lv_bipush (v := 75) hx hb d_Mod_simple_379 (by decide) ?_
                                        refine lv_isub hx hb d_Mod_simple_381 ?_
                                        refine tw_ri (e2 := nI (cn - 75)) (pk_sub (b := 75) (by omega)) ?_
                                        refine lv_iconst (v := 4) hx hb d_Mod_simple_382 (by decide) ?_
                                        refine tw_wv (wr := [((q 2), aI g 600 bs), ((q 14), aI g 620 tg), ((q 32), aI g 160 sk)]) (tw_runV (ws := [(h0, .inr (10, mob q rf n mm mb fa fp av ev wi mn tp tc sc nf fd me mp xn mt wh tq ag an ig)), ((q 2), aI g 600 bs), ((q 14), aI g 620 tg), ((q 32), aI g 160 sk), ((q 33), aI g 160 lo), ((q 47), aI g 128 nw)]) (wc := [(h0, .inr (10, mob q rf n mm mb fa fp av ev wi mn tp tc sc nf fd me mp xn mt wh tq ag an ig)), ((q 33), aI g 160 lo), ((q 47), aI g 128 nw)]) (As := [.int (nI (cn - 75)), .int 4]) (rest := []) E hB hK hZ (g_Mod_store l g H.size h0 q rf n mm mb av ev wi mn tp tc sc nf fd me mp xn mt wh ag an ig lo fa fp tq nw (cn - 75) 4 o1 hNW (by omega) (by omega) hlo (by omega) (by omega) (by decide)) mc_Mod_store mi_Mod_store me_Mod_store wd_1664 hP hD hS hA [0, 4, 5] rfl (by decide) 0 rfl rfl rfl rfl rfl (by decide) rfl hl.1 rfl (Nat.le_of_ble_eq_true rfl) (by decide) d_Mod_simple_383) hP hD hS hA [0, 4, 5] [1, 2, 3] rfl rfl (by decide) (by decide) (fun u37 H locs hr36 hP hD hS => ?_)
                                        try dsimp only at hr36
                                        have hP : va_P g.1 classes [((q 2), aI g 600 bs), ((q 14), aI g 620 tg), ((q 32), aI g 160 sk), (h0, .inr (10, mob q rf n mm mb u37.1 u37.2.1 av ev wi mn tp tc sc nf fd me mp xn mt wh u37.2.2.1 ag an ig)), ((q 33), aI g 160 lo), ((q 47), aI g 128 u37.2.2.2)] H := hP
                                        have hD : va_D A [((q 2), aI g 600 bs), ((q 14), aI g 620 tg), ((q 32), aI g 160 sk), (h0, .inr (10, mob q rf n mm mb u37.1 u37.2.1 av ev wi mn tp tc sc nf fd me mp xn mt wh u37.2.2.1 ag an ig)), ((q 33), aI g 160 lo), ((q 47), aI g 128 u37.2.2.2)] := hD
                                        have hP : va_P g.1 classes [(h0, .inr (10, mob q rf n mm mb u37.1 u37.2.1 av ev wi mn tp tc sc nf fd me mp xn mt wh u37.2.2.1 ag an ig)), ((q 2), aI g 600 bs), ((q 14), aI g 620 tg), ((q 32), aI g 160 sk), ((q 33), aI g 160 lo), ((q 47), aI g 128 u37.2.2.2)] H := hP.sub [3, 0, 1, 2, 4, 5] rfl
                                        have hD : va_D A [(h0, .inr (10, mob q rf n mm mb u37.1 u37.2.1 av ev wi mn tp tc sc nf fd me mp xn mt wh u37.2.2.1 ag an ig)), ((q 2), aI g 600 bs), ((q 14), aI g 620 tg), ((q 32), aI g 160 sk), ((q 33), aI g 160 lo), ((q 47), aI g 128 u37.2.2.2)] := hD.sub [3, 0, 1, 2, 4, 5] (by decide) rfl
                                        obtain ⟨hp37_0, hp37_1, hp37_2⟩ := hr36
                                        refine lv_goto (tgt := 399) hx hb d_Mod_simple_386 (by decide) ?_
                                        refine lv_iconst (v := 1) hx hb d_Mod_simple_399 (by decide) ?_
                                        exact tw_zret E hS (u37.1, u37.2.1, u37.2.2.1, u37.2.2.2) (by decide) (⟨(by decide), (fun h => (fun h => h) (hp37_0 h)), (by first | omega | (dsimp only <;> omega)), hp37_2⟩) hP hD d_Mod_simple_400
                                    · obtain ⟨i1, i2⟩ := is_inN h339
                                      have i1 := tn_nlt (b := 59) i1 (by omega) (by decide)
                                      have i2 := tn_nlt (a := 66) i2 (by decide) (by omega)
                                      refine lv_aload_n hx hb d_Mod_simple_342 rfl (lv_at hl 1 rfl) ?_
                                      refine lv_iload_n hx hb d_Mod_simple_343 rfl (lv_at hl 2 rfl) ?_
                                      refine lv_bipush (v := 59) hx hb d_Mod_simple_344 (by decide) ?_
                                      refine lv_isub hx hb d_Mod_simple_346 ?_
                                      refine tw_ri (e2 := nI (cn - 59)) (pk_sub (b := 59) (by omega)) ?_
                                      refine lv_iconst (v := 4) hx hb d_Mod_simple_347 (by decide) ?_
                                      refine lv_irem hx hb d_Mod_simple_348 (by decide) ?_
                                      refine tw_ri (e2 := nI ((cn - 59) % 4)) (nI_mod4 _ (by omega)) ?_
                                      refine lv_iload_n hx hb d_Mod_simple_349 rfl (lv_at hl 2 rfl) ?_
                                      refine lv_bipush (v := 63) hx hb d_Mod_simple_350 (by decide) ?_
                                      refine lv_icmp_ge (tgt := 359) hx hb d_Mod_simple_352 (by decide) (fun h352 => ?_) (fun h352 => ?_)
                                      · refine lv_iconst (v := 2) hx hb d_Mod_simple_359 (by decide) ?_
                                        refine tw_wv (wr := [((q 2), aI g 600 bs), ((q 14), aI g 620 tg), ((q 32), aI g 160 sk)]) (tw_runV (ws := [(h0, .inr (10, mob q rf n mm mb fa fp av ev wi mn tp tc sc nf fd me mp xn mt wh tq ag an ig)), ((q 2), aI g 600 bs), ((q 14), aI g 620 tg), ((q 32), aI g 160 sk), ((q 33), aI g 160 lo), ((q 47), aI g 128 nw)]) (wc := [(h0, .inr (10, mob q rf n mm mb fa fp av ev wi mn tp tc sc nf fd me mp xn mt wh tq ag an ig)), ((q 33), aI g 160 lo), ((q 47), aI g 128 nw)]) (As := [.int (nI ((cn - 59) % 4)), .int 2]) (rest := []) E hB hK hZ (g_Mod_store l g H.size h0 q rf n mm mb av ev wi mn tp tc sc nf fd me mp xn mt wh ag an ig lo fa fp tq nw ((cn - 59) % 4) 2 o1 hNW (by omega) (by omega) hlo (by omega) (by omega) (by decide)) mc_Mod_store mi_Mod_store me_Mod_store wd_1664 hP hD hS hA [0, 4, 5] rfl (by decide) 0 rfl rfl rfl rfl rfl (by decide) rfl hl.1 rfl (Nat.le_of_ble_eq_true rfl) (by decide) d_Mod_simple_360) hP hD hS hA [0, 4, 5] [1, 2, 3] rfl rfl (by decide) (by decide) (fun u39 H locs hr38 hP hD hS => ?_)
                                        try dsimp only at hr38
                                        have hP : va_P g.1 classes [((q 2), aI g 600 bs), ((q 14), aI g 620 tg), ((q 32), aI g 160 sk), (h0, .inr (10, mob q rf n mm mb u39.1 u39.2.1 av ev wi mn tp tc sc nf fd me mp xn mt wh u39.2.2.1 ag an ig)), ((q 33), aI g 160 lo), ((q 47), aI g 128 u39.2.2.2)] H := hP
                                        have hD : va_D A [((q 2), aI g 600 bs), ((q 14), aI g 620 tg), ((q 32), aI g 160 sk), (h0, .inr (10, mob q rf n mm mb u39.1 u39.2.1 av ev wi mn tp tc sc nf fd me mp xn mt wh u39.2.2.1 ag an ig)), ((q 33), aI g 160 lo), ((q 47), aI g 128 u39.2.2.2)] := hD
                                        have hP : va_P g.1 classes [(h0, .inr (10, mob q rf n mm mb u39.1 u39.2.1 av ev wi mn tp tc sc nf fd me mp xn mt wh u39.2.2.1 ag an ig)), ((q 2), aI g 600 bs), ((q 14), aI g 620 tg), ((q 32), aI g 160 sk), ((q 33), aI g 160 lo), ((q 47), aI g 128 u39.2.2.2)] H := hP.sub [3, 0, 1, 2, 4, 5] rfl
                                        have hD : va_D A [(h0, .inr (10, mob q rf n mm mb u39.1 u39.2.1 av ev wi mn tp tc sc nf fd me mp xn mt wh u39.2.2.1 ag an ig)), ((q 2), aI g 600 bs), ((q 14), aI g 620 tg), ((q 32), aI g 160 sk), ((q 33), aI g 160 lo), ((q 47), aI g 128 u39.2.2.2)] := hD.sub [3, 0, 1, 2, 4, 5] (by decide) rfl
                                        obtain ⟨hp39_0, hp39_1, hp39_2⟩ := hr38
                                        refine lv_goto (tgt := 399) hx hb d_Mod_simple_363 (by decide) ?_
                                        refine lv_iconst (v := 1) hx hb d_Mod_simple_399 (by decide) ?_
                                        exact tw_zret E hS (u39.1, u39.2.1, u39.2.2.1, u39.2.2.2) (by decide) (⟨(by decide), (fun h => (fun h => h) (hp39_0 h)), (by first | omega | (dsimp only <;> omega)), hp39_2⟩) hP hD d_Mod_simple_400
                                      · refine lv_iconst (v := 1) hx hb d_Mod_simple_355 (by decide) ?_
                                        refine lv_goto (tgt := 360) hx hb d_Mod_simple_356 (by decide) ?_
                                        refine tw_wv (wr := [((q 2), aI g 600 bs), ((q 14), aI g 620 tg), ((q 32), aI g 160 sk)]) (tw_runV (ws := [(h0, .inr (10, mob q rf n mm mb fa fp av ev wi mn tp tc sc nf fd me mp xn mt wh tq ag an ig)), ((q 2), aI g 600 bs), ((q 14), aI g 620 tg), ((q 32), aI g 160 sk), ((q 33), aI g 160 lo), ((q 47), aI g 128 nw)]) (wc := [(h0, .inr (10, mob q rf n mm mb fa fp av ev wi mn tp tc sc nf fd me mp xn mt wh tq ag an ig)), ((q 33), aI g 160 lo), ((q 47), aI g 128 nw)]) (As := [.int (nI ((cn - 59) % 4)), .int 1]) (rest := []) E hB hK hZ (g_Mod_store l g H.size h0 q rf n mm mb av ev wi mn tp tc sc nf fd me mp xn mt wh ag an ig lo fa fp tq nw ((cn - 59) % 4) 1 o1 hNW (by omega) (by omega) hlo (by omega) (by omega) (by decide)) mc_Mod_store mi_Mod_store me_Mod_store wd_1664 hP hD hS hA [0, 4, 5] rfl (by decide) 0 rfl rfl rfl rfl rfl (by decide) rfl hl.1 rfl (Nat.le_of_ble_eq_true rfl) (by decide) d_Mod_simple_360) hP hD hS hA [0, 4, 5] [1, 2, 3] rfl rfl (by decide) (by decide) (fun u41 H locs hr40 hP hD hS => ?_)
                                        try dsimp only at hr40
                                        have hP : va_P g.1 classes [((q 2), aI g 600 bs), ((q 14), aI g 620 tg), ((q 32), aI g 160 sk), (h0, .inr (10, mob q rf n mm mb u41.1 u41.2.1 av ev wi mn tp tc sc nf fd me mp xn mt wh u41.2.2.1 ag an ig)), ((q 33), aI g 160 lo), ((q 47), aI g 128 u41.2.2.2)] H := hP
                                        have hD : va_D A [((q 2), aI g 600 bs), ((q 14), aI g 620 tg), ((q 32), aI g 160 sk), (h0, .inr (10, mob q rf n mm mb u41.1 u41.2.1 av ev wi mn tp tc sc nf fd me mp xn mt wh u41.2.2.1 ag an ig)), ((q 33), aI g 160 lo), ((q 47), aI g 128 u41.2.2.2)] := hD
                                        have hP : va_P g.1 classes [(h0, .inr (10, mob q rf n mm mb u41.1 u41.2.1 av ev wi mn tp tc sc nf fd me mp xn mt wh u41.2.2.1 ag an ig)), ((q 2), aI g 600 bs), ((q 14), aI g 620 tg), ((q 32), aI g 160 sk), ((q 33), aI g 160 lo), ((q 47), aI g 128 u41.2.2.2)] H := hP.sub [3, 0, 1, 2, 4, 5] rfl
                                        have hD : va_D A [(h0, .inr (10, mob q rf n mm mb u41.1 u41.2.1 av ev wi mn tp tc sc nf fd me mp xn mt wh u41.2.2.1 ag an ig)), ((q 2), aI g 600 bs), ((q 14), aI g 620 tg), ((q 32), aI g 160 sk), ((q 33), aI g 160 lo), ((q 47), aI g 128 u41.2.2.2)] := hD.sub [3, 0, 1, 2, 4, 5] (by decide) rfl
                                        obtain ⟨hp41_0, hp41_1, hp41_2⟩ := hr40
                                        refine lv_goto (tgt := 399) hx hb d_Mod_simple_363 (by decide) ?_
                                        refine lv_iconst (v := 1) hx hb d_Mod_simple_399 (by decide) ?_
                                        exact tw_zret E hS (u41.1, u41.2.1, u41.2.2.1, u41.2.2.2) (by decide) (⟨(by decide), (fun h => (fun h => h) (hp41_0 h)), (by first | omega | (dsimp only <;> omega)), hp41_2⟩) hP hD d_Mod_simple_400
                                  · refine lv_aload_n hx hb d_Mod_simple_302 rfl (lv_at hl 1 rfl) ?_
                                    refine lv_iload_n hx hb d_Mod_simple_303 rfl (lv_at hl 0 rfl) ?_
                                    refine lv_iload_n hx hb d_Mod_simple_304 rfl (lv_at hl 2 rfl) ?_
                                    refine lv_bipush (v := 54) hx hb d_Mod_simple_305 (by decide) ?_
                                    refine lv_icmp_ne (tgt := 314) hx hb d_Mod_simple_307 (by decide) (fun h307 => ?_) (fun h307 => ?_)
                                    · refine lv_iload_n hx hb d_Mod_simple_314 rfl (lv_at hl 2 rfl) ?_
                                      refine lv_bipush (v := 55) hx hb d_Mod_simple_315 (by decide) ?_
                                      refine lv_icmp_ne (tgt := 324) hx hb d_Mod_simple_317 (by decide) (fun h317 => ?_) (fun h317 => ?_)
                                      · refine lv_iconst (v := 4) hx hb d_Mod_simple_324 (by decide) ?_
                                        refine tw_wv (wr := [((q 2), aI g 600 bs), ((q 14), aI g 620 tg), ((q 32), aI g 160 sk)]) (tw_runV (ws := [(h0, .inr (10, mob q rf n mm mb fa fp av ev wi mn tp tc sc nf fd me mp xn mt wh tq ag an ig)), ((q 2), aI g 600 bs), ((q 14), aI g 620 tg), ((q 32), aI g 160 sk), ((q 33), aI g 160 lo), ((q 47), aI g 128 nw)]) (wc := [(h0, .inr (10, mob q rf n mm mb fa fp av ev wi mn tp tc sc nf fd me mp xn mt wh tq ag an ig)), ((q 33), aI g 160 lo), ((q 47), aI g 128 nw)]) (As := [.int 0, .int 4]) (rest := []) E hB hK hZ (g_Mod_store l g H.size h0 q rf n mm mb av ev wi mn tp tc sc nf fd me mp xn mt wh ag an ig lo fa fp tq nw 0 4 o1 hNW (by omega) (by omega) hlo (by omega) (by omega) (by decide)) mc_Mod_store mi_Mod_store me_Mod_store wd_1664 hP hD hS hA [0, 4, 5] rfl (by decide) 0 rfl rfl rfl rfl rfl (by decide) rfl hl.1 rfl (Nat.le_of_ble_eq_true rfl) (by decide) d_Mod_simple_325) hP hD hS hA [0, 4, 5] [1, 2, 3] rfl rfl (by decide) (by decide) (fun u43 H locs hr42 hP hD hS => ?_)
                                        try dsimp only at hr42
                                        have hP : va_P g.1 classes [((q 2), aI g 600 bs), ((q 14), aI g 620 tg), ((q 32), aI g 160 sk), (h0, .inr (10, mob q rf n mm mb u43.1 u43.2.1 av ev wi mn tp tc sc nf fd me mp xn mt wh u43.2.2.1 ag an ig)), ((q 33), aI g 160 lo), ((q 47), aI g 128 u43.2.2.2)] H := hP
                                        have hD : va_D A [((q 2), aI g 600 bs), ((q 14), aI g 620 tg), ((q 32), aI g 160 sk), (h0, .inr (10, mob q rf n mm mb u43.1 u43.2.1 av ev wi mn tp tc sc nf fd me mp xn mt wh u43.2.2.1 ag an ig)), ((q 33), aI g 160 lo), ((q 47), aI g 128 u43.2.2.2)] := hD
                                        have hP : va_P g.1 classes [(h0, .inr (10, mob q rf n mm mb u43.1 u43.2.1 av ev wi mn tp tc sc nf fd me mp xn mt wh u43.2.2.1 ag an ig)), ((q 2), aI g 600 bs), ((q 14), aI g 620 tg), ((q 32), aI g 160 sk), ((q 33), aI g 160 lo), ((q 47), aI g 128 u43.2.2.2)] H := hP.sub [3, 0, 1, 2, 4, 5] rfl
                                        have hD : va_D A [(h0, .inr (10, mob q rf n mm mb u43.1 u43.2.1 av ev wi mn tp tc sc nf fd me mp xn mt wh u43.2.2.1 ag an ig)), ((q 2), aI g 600 bs), ((q 14), aI g 620 tg), ((q 32), aI g 160 sk), ((q 33), aI g 160 lo), ((q 47), aI g 128 u43.2.2.2)] := hD.sub [3, 0, 1, 2, 4, 5] (by decide) rfl
                                        obtain ⟨hp43_0, hp43_1, hp43_2⟩ := hr42
                                        refine lv_goto (tgt := 399) hx hb d_Mod_simple_328 (by decide) ?_
                                        refine lv_iconst (v := 1) hx hb d_Mod_simple_399 (by decide) ?_
                                        exact tw_zret E hS (u43.1, u43.2.1, u43.2.2.1, u43.2.2.2) (by decide) (⟨(by decide), (fun h => (fun h => h) (hp43_0 h)), (by first | omega | (dsimp only <;> omega)), hp43_2⟩) hP hD d_Mod_simple_400
                                      · refine lv_iconst (v := 2) hx hb d_Mod_simple_320 (by decide) ?_
                                        refine lv_goto (tgt := 325) hx hb d_Mod_simple_321 (by decide) ?_
                                        refine tw_wv (wr := [((q 2), aI g 600 bs), ((q 14), aI g 620 tg), ((q 32), aI g 160 sk)]) (tw_runV (ws := [(h0, .inr (10, mob q rf n mm mb fa fp av ev wi mn tp tc sc nf fd me mp xn mt wh tq ag an ig)), ((q 2), aI g 600 bs), ((q 14), aI g 620 tg), ((q 32), aI g 160 sk), ((q 33), aI g 160 lo), ((q 47), aI g 128 nw)]) (wc := [(h0, .inr (10, mob q rf n mm mb fa fp av ev wi mn tp tc sc nf fd me mp xn mt wh tq ag an ig)), ((q 33), aI g 160 lo), ((q 47), aI g 128 nw)]) (As := [.int 0, .int 2]) (rest := []) E hB hK hZ (g_Mod_store l g H.size h0 q rf n mm mb av ev wi mn tp tc sc nf fd me mp xn mt wh ag an ig lo fa fp tq nw 0 2 o1 hNW (by omega) (by omega) hlo (by omega) (by omega) (by decide)) mc_Mod_store mi_Mod_store me_Mod_store wd_1664 hP hD hS hA [0, 4, 5] rfl (by decide) 0 rfl rfl rfl rfl rfl (by decide) rfl hl.1 rfl (Nat.le_of_ble_eq_true rfl) (by decide) d_Mod_simple_325) hP hD hS hA [0, 4, 5] [1, 2, 3] rfl rfl (by decide) (by decide) (fun u45 H locs hr44 hP hD hS => ?_)
                                        try dsimp only at hr44
                                        have hP : va_P g.1 classes [((q 2), aI g 600 bs), ((q 14), aI g 620 tg), ((q 32), aI g 160 sk), (h0, .inr (10, mob q rf n mm mb u45.1 u45.2.1 av ev wi mn tp tc sc nf fd me mp xn mt wh u45.2.2.1 ag an ig)), ((q 33), aI g 160 lo), ((q 47), aI g 128 u45.2.2.2)] H := hP
                                        have hD : va_D A [((q 2), aI g 600 bs), ((q 14), aI g 620 tg), ((q 32), aI g 160 sk), (h0, .inr (10, mob q rf n mm mb u45.1 u45.2.1 av ev wi mn tp tc sc nf fd me mp xn mt wh u45.2.2.1 ag an ig)), ((q 33), aI g 160 lo), ((q 47), aI g 128 u45.2.2.2)] := hD
                                        have hP : va_P g.1 classes [(h0, .inr (10, mob q rf n mm mb u45.1 u45.2.1 av ev wi mn tp tc sc nf fd me mp xn mt wh u45.2.2.1 ag an ig)), ((q 2), aI g 600 bs), ((q 14), aI g 620 tg), ((q 32), aI g 160 sk), ((q 33), aI g 160 lo), ((q 47), aI g 128 u45.2.2.2)] H := hP.sub [3, 0, 1, 2, 4, 5] rfl
                                        have hD : va_D A [(h0, .inr (10, mob q rf n mm mb u45.1 u45.2.1 av ev wi mn tp tc sc nf fd me mp xn mt wh u45.2.2.1 ag an ig)), ((q 2), aI g 600 bs), ((q 14), aI g 620 tg), ((q 32), aI g 160 sk), ((q 33), aI g 160 lo), ((q 47), aI g 128 u45.2.2.2)] := hD.sub [3, 0, 1, 2, 4, 5] (by decide) rfl
                                        obtain ⟨hp45_0, hp45_1, hp45_2⟩ := hr44
                                        refine lv_goto (tgt := 399) hx hb d_Mod_simple_328 (by decide) ?_
                                        refine lv_iconst (v := 1) hx hb d_Mod_simple_399 (by decide) ?_
                                        exact tw_zret E hS (u45.1, u45.2.1, u45.2.2.1, u45.2.2.2) (by decide) (⟨(by decide), (fun h => (fun h => h) (hp45_0 h)), (by first | omega | (dsimp only <;> omega)), hp45_2⟩) hP hD d_Mod_simple_400
                                    · refine lv_iconst (v := 1) hx hb d_Mod_simple_310 (by decide) ?_
                                      refine lv_goto (tgt := 325) hx hb d_Mod_simple_311 (by decide) ?_
                                      refine tw_wv (wr := [((q 2), aI g 600 bs), ((q 14), aI g 620 tg), ((q 32), aI g 160 sk)]) (tw_runV (ws := [(h0, .inr (10, mob q rf n mm mb fa fp av ev wi mn tp tc sc nf fd me mp xn mt wh tq ag an ig)), ((q 2), aI g 600 bs), ((q 14), aI g 620 tg), ((q 32), aI g 160 sk), ((q 33), aI g 160 lo), ((q 47), aI g 128 nw)]) (wc := [(h0, .inr (10, mob q rf n mm mb fa fp av ev wi mn tp tc sc nf fd me mp xn mt wh tq ag an ig)), ((q 33), aI g 160 lo), ((q 47), aI g 128 nw)]) (As := [.int 0, .int 1]) (rest := []) E hB hK hZ (g_Mod_store l g H.size h0 q rf n mm mb av ev wi mn tp tc sc nf fd me mp xn mt wh ag an ig lo fa fp tq nw 0 1 o1 hNW (by omega) (by omega) hlo (by omega) (by omega) (by decide)) mc_Mod_store mi_Mod_store me_Mod_store wd_1664 hP hD hS hA [0, 4, 5] rfl (by decide) 0 rfl rfl rfl rfl rfl (by decide) rfl hl.1 rfl (Nat.le_of_ble_eq_true rfl) (by decide) d_Mod_simple_325) hP hD hS hA [0, 4, 5] [1, 2, 3] rfl rfl (by decide) (by decide) (fun u47 H locs hr46 hP hD hS => ?_)
                                      try dsimp only at hr46
                                      have hP : va_P g.1 classes [((q 2), aI g 600 bs), ((q 14), aI g 620 tg), ((q 32), aI g 160 sk), (h0, .inr (10, mob q rf n mm mb u47.1 u47.2.1 av ev wi mn tp tc sc nf fd me mp xn mt wh u47.2.2.1 ag an ig)), ((q 33), aI g 160 lo), ((q 47), aI g 128 u47.2.2.2)] H := hP
                                      have hD : va_D A [((q 2), aI g 600 bs), ((q 14), aI g 620 tg), ((q 32), aI g 160 sk), (h0, .inr (10, mob q rf n mm mb u47.1 u47.2.1 av ev wi mn tp tc sc nf fd me mp xn mt wh u47.2.2.1 ag an ig)), ((q 33), aI g 160 lo), ((q 47), aI g 128 u47.2.2.2)] := hD
                                      have hP : va_P g.1 classes [(h0, .inr (10, mob q rf n mm mb u47.1 u47.2.1 av ev wi mn tp tc sc nf fd me mp xn mt wh u47.2.2.1 ag an ig)), ((q 2), aI g 600 bs), ((q 14), aI g 620 tg), ((q 32), aI g 160 sk), ((q 33), aI g 160 lo), ((q 47), aI g 128 u47.2.2.2)] H := hP.sub [3, 0, 1, 2, 4, 5] rfl
                                      have hD : va_D A [(h0, .inr (10, mob q rf n mm mb u47.1 u47.2.1 av ev wi mn tp tc sc nf fd me mp xn mt wh u47.2.2.1 ag an ig)), ((q 2), aI g 600 bs), ((q 14), aI g 620 tg), ((q 32), aI g 160 sk), ((q 33), aI g 160 lo), ((q 47), aI g 128 u47.2.2.2)] := hD.sub [3, 0, 1, 2, 4, 5] (by decide) rfl
                                      obtain ⟨hp47_0, hp47_1, hp47_2⟩ := hr46
                                      refine lv_goto (tgt := 399) hx hb d_Mod_simple_328 (by decide) ?_
                                      refine lv_iconst (v := 1) hx hb d_Mod_simple_399 (by decide) ?_
                                      exact tw_zret E hS (u47.1, u47.2.1, u47.2.2.1, u47.2.2.2) (by decide) (⟨(by decide), (fun h => (fun h => h) (hp47_0 h)), (by first | omega | (dsimp only <;> omega)), hp47_2⟩) hP hD d_Mod_simple_400
                            · obtain ⟨i1, i2⟩ := is_inN h269
                              have i1 := tn_nlt (b := 42) i1 (by omega) (by decide)
                              have i2 := tn_nlt (a := 45) i2 (by decide) (by omega)
                              refine lv_aload_n hx hb d_Mod_simple_272 rfl (lv_at hl 1 rfl) ?_
                              refine lv_iload_n hx hb d_Mod_simple_273 rfl (lv_at hl 2 rfl) ?_
                              refine lv_bipush (v := 42) hx hb d_Mod_simple_274 (by decide) ?_
                              refine lv_isub hx hb d_Mod_simple_276 ?_
                              refine tw_ri (e2 := nI (cn - 42)) (pk_sub (b := 42) (by omega)) ?_
                              refine lv_iconst (v := 4) hx hb d_Mod_simple_277 (by decide) ?_
                              refine tw_wv (wr := [((q 2), aI g 600 bs), ((q 14), aI g 620 tg)]) (tw_runV (ws := [(h0, .inr (10, mob q rf n mm mb fa fp av ev wi mn tp tc sc nf fd me mp xn mt wh tq ag an ig)), ((q 2), aI g 600 bs), ((q 14), aI g 620 tg), ((q 32), aI g 160 sk), ((q 33), aI g 160 lo), ((q 47), aI g 128 nw)]) (wc := [(h0, .inr (10, mob q rf n mm mb fa fp av ev wi mn tp tc sc nf fd me mp xn mt wh tq ag an ig)), ((q 32), aI g 160 sk), ((q 33), aI g 160 lo), ((q 47), aI g 128 nw)]) (As := [.int (nI (cn - 42)), .int 4]) (rest := []) E hB hK hZ (g_Mod_fetch l g H.size h0 q rf n mm mb av ev wi mn tp tc sc nf fd me mp xn mt wh ag an ig sk lo fa fp tq nw (cn - 42) 4 s1 o1 hNW (by omega) (by omega) hsk (by omega) hlo (by omega) (by omega) (by decide)) mc_Mod_fetch mi_Mod_fetch me_Mod_fetch wd_1656 hP hD hS hA [0, 3, 4, 5] rfl (by decide) 0 rfl rfl rfl rfl rfl (by decide) rfl hl.1 rfl (Nat.le_of_ble_eq_true rfl) (by decide) d_Mod_simple_278) hP hD hS hA [0, 3, 4, 5] [1, 2] rfl rfl (by decide) (by decide) (fun u49 H locs hr48 hP hD hS => ?_)
                              try dsimp only at hr48
                              have hP : va_P g.1 classes [((q 2), aI g 600 bs), ((q 14), aI g 620 tg), (h0, .inr (10, mob q rf n mm mb u49.1 u49.2.1 av ev wi mn tp tc sc nf fd me mp xn mt wh u49.2.2.1 ag an ig)), ((q 32), aI g 160 sk), ((q 33), aI g 160 lo), ((q 47), aI g 128 u49.2.2.2)] H := hP
                              have hD : va_D A [((q 2), aI g 600 bs), ((q 14), aI g 620 tg), (h0, .inr (10, mob q rf n mm mb u49.1 u49.2.1 av ev wi mn tp tc sc nf fd me mp xn mt wh u49.2.2.1 ag an ig)), ((q 32), aI g 160 sk), ((q 33), aI g 160 lo), ((q 47), aI g 128 u49.2.2.2)] := hD
                              have hP : va_P g.1 classes [(h0, .inr (10, mob q rf n mm mb u49.1 u49.2.1 av ev wi mn tp tc sc nf fd me mp xn mt wh u49.2.2.1 ag an ig)), ((q 2), aI g 600 bs), ((q 14), aI g 620 tg), ((q 32), aI g 160 sk), ((q 33), aI g 160 lo), ((q 47), aI g 128 u49.2.2.2)] H := hP.sub [2, 0, 1, 3, 4, 5] rfl
                              have hD : va_D A [(h0, .inr (10, mob q rf n mm mb u49.1 u49.2.1 av ev wi mn tp tc sc nf fd me mp xn mt wh u49.2.2.1 ag an ig)), ((q 2), aI g 600 bs), ((q 14), aI g 620 tg), ((q 32), aI g 160 sk), ((q 33), aI g 160 lo), ((q 47), aI g 128 u49.2.2.2)] := hD.sub [2, 0, 1, 3, 4, 5] (by decide) rfl
                              obtain ⟨hp49_0, hp49_1, hp49_2⟩ := hr48
                              refine lv_goto (tgt := 399) hx hb d_Mod_simple_281 (by decide) ?_
                              refine lv_iconst (v := 1) hx hb d_Mod_simple_399 (by decide) ?_
                              exact tw_zret E hS (u49.1, u49.2.1, u49.2.2.1, u49.2.2.2) (by decide) (⟨(by decide), (fun h => (fun h => h) (hp49_0 h)), (by first | omega | (dsimp only <;> omega)), hp49_2⟩) hP hD d_Mod_simple_400
                          · obtain ⟨i1, i2⟩ := is_inN h234
                            have i1 := tn_nlt (b := 26) i1 (by omega) (by decide)
                            have i2 := tn_nlt (a := 33) i2 (by decide) (by omega)
                            refine lv_aload_n hx hb d_Mod_simple_237 rfl (lv_at hl 1 rfl) ?_
                            refine lv_iload_n hx hb d_Mod_simple_238 rfl (lv_at hl 2 rfl) ?_
                            refine lv_bipush (v := 26) hx hb d_Mod_simple_239 (by decide) ?_
                            refine lv_isub hx hb d_Mod_simple_241 ?_
                            refine tw_ri (e2 := nI (cn - 26)) (pk_sub (b := 26) (by omega)) ?_
                            refine lv_iconst (v := 4) hx hb d_Mod_simple_242 (by decide) ?_
                            refine lv_irem hx hb d_Mod_simple_243 (by decide) ?_
                            refine tw_ri (e2 := nI ((cn - 26) % 4)) (nI_mod4 _ (by omega)) ?_
                            refine lv_iload_n hx hb d_Mod_simple_244 rfl (lv_at hl 2 rfl) ?_
                            refine lv_bipush (v := 30) hx hb d_Mod_simple_245 (by decide) ?_
                            refine lv_icmp_ge (tgt := 254) hx hb d_Mod_simple_247 (by decide) (fun h247 => ?_) (fun h247 => ?_)
                            · refine lv_iconst (v := 2) hx hb d_Mod_simple_254 (by decide) ?_
                              refine tw_wv (wr := [((q 2), aI g 600 bs), ((q 14), aI g 620 tg)]) (tw_runV (ws := [(h0, .inr (10, mob q rf n mm mb fa fp av ev wi mn tp tc sc nf fd me mp xn mt wh tq ag an ig)), ((q 2), aI g 600 bs), ((q 14), aI g 620 tg), ((q 32), aI g 160 sk), ((q 33), aI g 160 lo), ((q 47), aI g 128 nw)]) (wc := [(h0, .inr (10, mob q rf n mm mb fa fp av ev wi mn tp tc sc nf fd me mp xn mt wh tq ag an ig)), ((q 32), aI g 160 sk), ((q 33), aI g 160 lo), ((q 47), aI g 128 nw)]) (As := [.int (nI ((cn - 26) % 4)), .int 2]) (rest := []) E hB hK hZ (g_Mod_fetch l g H.size h0 q rf n mm mb av ev wi mn tp tc sc nf fd me mp xn mt wh ag an ig sk lo fa fp tq nw ((cn - 26) % 4) 2 s1 o1 hNW (by omega) (by omega) hsk (by omega) hlo (by omega) (by omega) (by decide)) mc_Mod_fetch mi_Mod_fetch me_Mod_fetch wd_1656 hP hD hS hA [0, 3, 4, 5] rfl (by decide) 0 rfl rfl rfl rfl rfl (by decide) rfl hl.1 rfl (Nat.le_of_ble_eq_true rfl) (by decide) d_Mod_simple_255) hP hD hS hA [0, 3, 4, 5] [1, 2] rfl rfl (by decide) (by decide) (fun u51 H locs hr50 hP hD hS => ?_)
                              try dsimp only at hr50
                              have hP : va_P g.1 classes [((q 2), aI g 600 bs), ((q 14), aI g 620 tg), (h0, .inr (10, mob q rf n mm mb u51.1 u51.2.1 av ev wi mn tp tc sc nf fd me mp xn mt wh u51.2.2.1 ag an ig)), ((q 32), aI g 160 sk), ((q 33), aI g 160 lo), ((q 47), aI g 128 u51.2.2.2)] H := hP
                              have hD : va_D A [((q 2), aI g 600 bs), ((q 14), aI g 620 tg), (h0, .inr (10, mob q rf n mm mb u51.1 u51.2.1 av ev wi mn tp tc sc nf fd me mp xn mt wh u51.2.2.1 ag an ig)), ((q 32), aI g 160 sk), ((q 33), aI g 160 lo), ((q 47), aI g 128 u51.2.2.2)] := hD
                              have hP : va_P g.1 classes [(h0, .inr (10, mob q rf n mm mb u51.1 u51.2.1 av ev wi mn tp tc sc nf fd me mp xn mt wh u51.2.2.1 ag an ig)), ((q 2), aI g 600 bs), ((q 14), aI g 620 tg), ((q 32), aI g 160 sk), ((q 33), aI g 160 lo), ((q 47), aI g 128 u51.2.2.2)] H := hP.sub [2, 0, 1, 3, 4, 5] rfl
                              have hD : va_D A [(h0, .inr (10, mob q rf n mm mb u51.1 u51.2.1 av ev wi mn tp tc sc nf fd me mp xn mt wh u51.2.2.1 ag an ig)), ((q 2), aI g 600 bs), ((q 14), aI g 620 tg), ((q 32), aI g 160 sk), ((q 33), aI g 160 lo), ((q 47), aI g 128 u51.2.2.2)] := hD.sub [2, 0, 1, 3, 4, 5] (by decide) rfl
                              obtain ⟨hp51_0, hp51_1, hp51_2⟩ := hr50
                              refine lv_goto (tgt := 399) hx hb d_Mod_simple_258 (by decide) ?_
                              refine lv_iconst (v := 1) hx hb d_Mod_simple_399 (by decide) ?_
                              exact tw_zret E hS (u51.1, u51.2.1, u51.2.2.1, u51.2.2.2) (by decide) (⟨(by decide), (fun h => (fun h => h) (hp51_0 h)), (by first | omega | (dsimp only <;> omega)), hp51_2⟩) hP hD d_Mod_simple_400
                            · refine lv_iconst (v := 1) hx hb d_Mod_simple_250 (by decide) ?_
                              refine lv_goto (tgt := 255) hx hb d_Mod_simple_251 (by decide) ?_
                              refine tw_wv (wr := [((q 2), aI g 600 bs), ((q 14), aI g 620 tg)]) (tw_runV (ws := [(h0, .inr (10, mob q rf n mm mb fa fp av ev wi mn tp tc sc nf fd me mp xn mt wh tq ag an ig)), ((q 2), aI g 600 bs), ((q 14), aI g 620 tg), ((q 32), aI g 160 sk), ((q 33), aI g 160 lo), ((q 47), aI g 128 nw)]) (wc := [(h0, .inr (10, mob q rf n mm mb fa fp av ev wi mn tp tc sc nf fd me mp xn mt wh tq ag an ig)), ((q 32), aI g 160 sk), ((q 33), aI g 160 lo), ((q 47), aI g 128 nw)]) (As := [.int (nI ((cn - 26) % 4)), .int 1]) (rest := []) E hB hK hZ (g_Mod_fetch l g H.size h0 q rf n mm mb av ev wi mn tp tc sc nf fd me mp xn mt wh ag an ig sk lo fa fp tq nw ((cn - 26) % 4) 1 s1 o1 hNW (by omega) (by omega) hsk (by omega) hlo (by omega) (by omega) (by decide)) mc_Mod_fetch mi_Mod_fetch me_Mod_fetch wd_1656 hP hD hS hA [0, 3, 4, 5] rfl (by decide) 0 rfl rfl rfl rfl rfl (by decide) rfl hl.1 rfl (Nat.le_of_ble_eq_true rfl) (by decide) d_Mod_simple_255) hP hD hS hA [0, 3, 4, 5] [1, 2] rfl rfl (by decide) (by decide) (fun u53 H locs hr52 hP hD hS => ?_)
                              try dsimp only at hr52
                              have hP : va_P g.1 classes [((q 2), aI g 600 bs), ((q 14), aI g 620 tg), (h0, .inr (10, mob q rf n mm mb u53.1 u53.2.1 av ev wi mn tp tc sc nf fd me mp xn mt wh u53.2.2.1 ag an ig)), ((q 32), aI g 160 sk), ((q 33), aI g 160 lo), ((q 47), aI g 128 u53.2.2.2)] H := hP
                              have hD : va_D A [((q 2), aI g 600 bs), ((q 14), aI g 620 tg), (h0, .inr (10, mob q rf n mm mb u53.1 u53.2.1 av ev wi mn tp tc sc nf fd me mp xn mt wh u53.2.2.1 ag an ig)), ((q 32), aI g 160 sk), ((q 33), aI g 160 lo), ((q 47), aI g 128 u53.2.2.2)] := hD
                              have hP : va_P g.1 classes [(h0, .inr (10, mob q rf n mm mb u53.1 u53.2.1 av ev wi mn tp tc sc nf fd me mp xn mt wh u53.2.2.1 ag an ig)), ((q 2), aI g 600 bs), ((q 14), aI g 620 tg), ((q 32), aI g 160 sk), ((q 33), aI g 160 lo), ((q 47), aI g 128 u53.2.2.2)] H := hP.sub [2, 0, 1, 3, 4, 5] rfl
                              have hD : va_D A [(h0, .inr (10, mob q rf n mm mb u53.1 u53.2.1 av ev wi mn tp tc sc nf fd me mp xn mt wh u53.2.2.1 ag an ig)), ((q 2), aI g 600 bs), ((q 14), aI g 620 tg), ((q 32), aI g 160 sk), ((q 33), aI g 160 lo), ((q 47), aI g 128 u53.2.2.2)] := hD.sub [2, 0, 1, 3, 4, 5] (by decide) rfl
                              obtain ⟨hp53_0, hp53_1, hp53_2⟩ := hr52
                              refine lv_goto (tgt := 399) hx hb d_Mod_simple_258 (by decide) ?_
                              refine lv_iconst (v := 1) hx hb d_Mod_simple_399 (by decide) ?_
                              exact tw_zret E hS (u53.1, u53.2.1, u53.2.2.1, u53.2.2.2) (by decide) (⟨(by decide), (fun h => (fun h => h) (hp53_0 h)), (by first | omega | (dsimp only <;> omega)), hp53_2⟩) hP hD d_Mod_simple_400
                        · refine lv_aload_n hx hb d_Mod_simple_197 rfl (lv_at hl 1 rfl) ?_
                          refine lv_iload_n hx hb d_Mod_simple_198 rfl (lv_at hl 0 rfl) ?_
                          refine lv_iload_n hx hb d_Mod_simple_199 rfl (lv_at hl 2 rfl) ?_
                          refine lv_bipush (v := 21) hx hb d_Mod_simple_200 (by decide) ?_
                          refine lv_icmp_ne (tgt := 209) hx hb d_Mod_simple_202 (by decide) (fun h202 => ?_) (fun h202 => ?_)
                          · refine lv_iload_n hx hb d_Mod_simple_209 rfl (lv_at hl 2 rfl) ?_
                            refine lv_bipush (v := 22) hx hb d_Mod_simple_210 (by decide) ?_
                            refine lv_icmp_ne (tgt := 219) hx hb d_Mod_simple_212 (by decide) (fun h212 => ?_) (fun h212 => ?_)
                            · refine lv_iconst (v := 4) hx hb d_Mod_simple_219 (by decide) ?_
                              refine tw_wv (wr := [((q 2), aI g 600 bs), ((q 14), aI g 620 tg)]) (tw_runV (ws := [(h0, .inr (10, mob q rf n mm mb fa fp av ev wi mn tp tc sc nf fd me mp xn mt wh tq ag an ig)), ((q 2), aI g 600 bs), ((q 14), aI g 620 tg), ((q 32), aI g 160 sk), ((q 33), aI g 160 lo), ((q 47), aI g 128 nw)]) (wc := [(h0, .inr (10, mob q rf n mm mb fa fp av ev wi mn tp tc sc nf fd me mp xn mt wh tq ag an ig)), ((q 32), aI g 160 sk), ((q 33), aI g 160 lo), ((q 47), aI g 128 nw)]) (As := [.int 0, .int 4]) (rest := []) E hB hK hZ (g_Mod_fetch l g H.size h0 q rf n mm mb av ev wi mn tp tc sc nf fd me mp xn mt wh ag an ig sk lo fa fp tq nw 0 4 s1 o1 hNW (by omega) (by omega) hsk (by omega) hlo (by omega) (by omega) (by decide)) mc_Mod_fetch mi_Mod_fetch me_Mod_fetch wd_1656 hP hD hS hA [0, 3, 4, 5] rfl (by decide) 0 rfl rfl rfl rfl rfl (by decide) rfl hl.1 rfl (Nat.le_of_ble_eq_true rfl) (by decide) d_Mod_simple_220) hP hD hS hA [0, 3, 4, 5] [1, 2] rfl rfl (by decide) (by decide) (fun u55 H locs hr54 hP hD hS => ?_)
                              try dsimp only at hr54
                              have hP : va_P g.1 classes [((q 2), aI g 600 bs), ((q 14), aI g 620 tg), (h0, .inr (10, mob q rf n mm mb u55.1 u55.2.1 av ev wi mn tp tc sc nf fd me mp xn mt wh u55.2.2.1 ag an ig)), ((q 32), aI g 160 sk), ((q 33), aI g 160 lo), ((q 47), aI g 128 u55.2.2.2)] H := hP
                              have hD : va_D A [((q 2), aI g 600 bs), ((q 14), aI g 620 tg), (h0, .inr (10, mob q rf n mm mb u55.1 u55.2.1 av ev wi mn tp tc sc nf fd me mp xn mt wh u55.2.2.1 ag an ig)), ((q 32), aI g 160 sk), ((q 33), aI g 160 lo), ((q 47), aI g 128 u55.2.2.2)] := hD
                              have hP : va_P g.1 classes [(h0, .inr (10, mob q rf n mm mb u55.1 u55.2.1 av ev wi mn tp tc sc nf fd me mp xn mt wh u55.2.2.1 ag an ig)), ((q 2), aI g 600 bs), ((q 14), aI g 620 tg), ((q 32), aI g 160 sk), ((q 33), aI g 160 lo), ((q 47), aI g 128 u55.2.2.2)] H := hP.sub [2, 0, 1, 3, 4, 5] rfl
                              have hD : va_D A [(h0, .inr (10, mob q rf n mm mb u55.1 u55.2.1 av ev wi mn tp tc sc nf fd me mp xn mt wh u55.2.2.1 ag an ig)), ((q 2), aI g 600 bs), ((q 14), aI g 620 tg), ((q 32), aI g 160 sk), ((q 33), aI g 160 lo), ((q 47), aI g 128 u55.2.2.2)] := hD.sub [2, 0, 1, 3, 4, 5] (by decide) rfl
                              obtain ⟨hp55_0, hp55_1, hp55_2⟩ := hr54
                              refine lv_goto (tgt := 399) hx hb d_Mod_simple_223 (by decide) ?_
                              refine lv_iconst (v := 1) hx hb d_Mod_simple_399 (by decide) ?_
                              exact tw_zret E hS (u55.1, u55.2.1, u55.2.2.1, u55.2.2.2) (by decide) (⟨(by decide), (fun h => (fun h => h) (hp55_0 h)), (by first | omega | (dsimp only <;> omega)), hp55_2⟩) hP hD d_Mod_simple_400
                            · refine lv_iconst (v := 2) hx hb d_Mod_simple_215 (by decide) ?_
                              refine lv_goto (tgt := 220) hx hb d_Mod_simple_216 (by decide) ?_
                              refine tw_wv (wr := [((q 2), aI g 600 bs), ((q 14), aI g 620 tg)]) (tw_runV (ws := [(h0, .inr (10, mob q rf n mm mb fa fp av ev wi mn tp tc sc nf fd me mp xn mt wh tq ag an ig)), ((q 2), aI g 600 bs), ((q 14), aI g 620 tg), ((q 32), aI g 160 sk), ((q 33), aI g 160 lo), ((q 47), aI g 128 nw)]) (wc := [(h0, .inr (10, mob q rf n mm mb fa fp av ev wi mn tp tc sc nf fd me mp xn mt wh tq ag an ig)), ((q 32), aI g 160 sk), ((q 33), aI g 160 lo), ((q 47), aI g 128 nw)]) (As := [.int 0, .int 2]) (rest := []) E hB hK hZ (g_Mod_fetch l g H.size h0 q rf n mm mb av ev wi mn tp tc sc nf fd me mp xn mt wh ag an ig sk lo fa fp tq nw 0 2 s1 o1 hNW (by omega) (by omega) hsk (by omega) hlo (by omega) (by omega) (by decide)) mc_Mod_fetch mi_Mod_fetch me_Mod_fetch wd_1656 hP hD hS hA [0, 3, 4, 5] rfl (by decide) 0 rfl rfl rfl rfl rfl (by decide) rfl hl.1 rfl (Nat.le_of_ble_eq_true rfl) (by decide) d_Mod_simple_220) hP hD hS hA [0, 3, 4, 5] [1, 2] rfl rfl (by decide) (by decide) (fun u57 H locs hr56 hP hD hS => ?_)
                              try dsimp only at hr56
                              have hP : va_P g.1 classes [((q 2), aI g 600 bs), ((q 14), aI g 620 tg), (h0, .inr (10, mob q rf n mm mb u57.1 u57.2.1 av ev wi mn tp tc sc nf fd me mp xn mt wh u57.2.2.1 ag an ig)), ((q 32), aI g 160 sk), ((q 33), aI g 160 lo), ((q 47), aI g 128 u57.2.2.2)] H := hP
                              have hD : va_D A [((q 2), aI g 600 bs), ((q 14), aI g 620 tg), (h0, .inr (10, mob q rf n mm mb u57.1 u57.2.1 av ev wi mn tp tc sc nf fd me mp xn mt wh u57.2.2.1 ag an ig)), ((q 32), aI g 160 sk), ((q 33), aI g 160 lo), ((q 47), aI g 128 u57.2.2.2)] := hD
                              have hP : va_P g.1 classes [(h0, .inr (10, mob q rf n mm mb u57.1 u57.2.1 av ev wi mn tp tc sc nf fd me mp xn mt wh u57.2.2.1 ag an ig)), ((q 2), aI g 600 bs), ((q 14), aI g 620 tg), ((q 32), aI g 160 sk), ((q 33), aI g 160 lo), ((q 47), aI g 128 u57.2.2.2)] H := hP.sub [2, 0, 1, 3, 4, 5] rfl
                              have hD : va_D A [(h0, .inr (10, mob q rf n mm mb u57.1 u57.2.1 av ev wi mn tp tc sc nf fd me mp xn mt wh u57.2.2.1 ag an ig)), ((q 2), aI g 600 bs), ((q 14), aI g 620 tg), ((q 32), aI g 160 sk), ((q 33), aI g 160 lo), ((q 47), aI g 128 u57.2.2.2)] := hD.sub [2, 0, 1, 3, 4, 5] (by decide) rfl
                              obtain ⟨hp57_0, hp57_1, hp57_2⟩ := hr56
                              refine lv_goto (tgt := 399) hx hb d_Mod_simple_223 (by decide) ?_
                              refine lv_iconst (v := 1) hx hb d_Mod_simple_399 (by decide) ?_
                              exact tw_zret E hS (u57.1, u57.2.1, u57.2.2.1, u57.2.2.2) (by decide) (⟨(by decide), (fun h => (fun h => h) (hp57_0 h)), (by first | omega | (dsimp only <;> omega)), hp57_2⟩) hP hD d_Mod_simple_400
                          · refine lv_iconst (v := 1) hx hb d_Mod_simple_205 (by decide) ?_
                            refine lv_goto (tgt := 220) hx hb d_Mod_simple_206 (by decide) ?_
                            refine tw_wv (wr := [((q 2), aI g 600 bs), ((q 14), aI g 620 tg)]) (tw_runV (ws := [(h0, .inr (10, mob q rf n mm mb fa fp av ev wi mn tp tc sc nf fd me mp xn mt wh tq ag an ig)), ((q 2), aI g 600 bs), ((q 14), aI g 620 tg), ((q 32), aI g 160 sk), ((q 33), aI g 160 lo), ((q 47), aI g 128 nw)]) (wc := [(h0, .inr (10, mob q rf n mm mb fa fp av ev wi mn tp tc sc nf fd me mp xn mt wh tq ag an ig)), ((q 32), aI g 160 sk), ((q 33), aI g 160 lo), ((q 47), aI g 128 nw)]) (As := [.int 0, .int 1]) (rest := []) E hB hK hZ (g_Mod_fetch l g H.size h0 q rf n mm mb av ev wi mn tp tc sc nf fd me mp xn mt wh ag an ig sk lo fa fp tq nw 0 1 s1 o1 hNW (by omega) (by omega) hsk (by omega) hlo (by omega) (by omega) (by decide)) mc_Mod_fetch mi_Mod_fetch me_Mod_fetch wd_1656 hP hD hS hA [0, 3, 4, 5] rfl (by decide) 0 rfl rfl rfl rfl rfl (by decide) rfl hl.1 rfl (Nat.le_of_ble_eq_true rfl) (by decide) d_Mod_simple_220) hP hD hS hA [0, 3, 4, 5] [1, 2] rfl rfl (by decide) (by decide) (fun u59 H locs hr58 hP hD hS => ?_)
                            try dsimp only at hr58
                            have hP : va_P g.1 classes [((q 2), aI g 600 bs), ((q 14), aI g 620 tg), (h0, .inr (10, mob q rf n mm mb u59.1 u59.2.1 av ev wi mn tp tc sc nf fd me mp xn mt wh u59.2.2.1 ag an ig)), ((q 32), aI g 160 sk), ((q 33), aI g 160 lo), ((q 47), aI g 128 u59.2.2.2)] H := hP
                            have hD : va_D A [((q 2), aI g 600 bs), ((q 14), aI g 620 tg), (h0, .inr (10, mob q rf n mm mb u59.1 u59.2.1 av ev wi mn tp tc sc nf fd me mp xn mt wh u59.2.2.1 ag an ig)), ((q 32), aI g 160 sk), ((q 33), aI g 160 lo), ((q 47), aI g 128 u59.2.2.2)] := hD
                            have hP : va_P g.1 classes [(h0, .inr (10, mob q rf n mm mb u59.1 u59.2.1 av ev wi mn tp tc sc nf fd me mp xn mt wh u59.2.2.1 ag an ig)), ((q 2), aI g 600 bs), ((q 14), aI g 620 tg), ((q 32), aI g 160 sk), ((q 33), aI g 160 lo), ((q 47), aI g 128 u59.2.2.2)] H := hP.sub [2, 0, 1, 3, 4, 5] rfl
                            have hD : va_D A [(h0, .inr (10, mob q rf n mm mb u59.1 u59.2.1 av ev wi mn tp tc sc nf fd me mp xn mt wh u59.2.2.1 ag an ig)), ((q 2), aI g 600 bs), ((q 14), aI g 620 tg), ((q 32), aI g 160 sk), ((q 33), aI g 160 lo), ((q 47), aI g 128 u59.2.2.2)] := hD.sub [2, 0, 1, 3, 4, 5] (by decide) rfl
                            obtain ⟨hp59_0, hp59_1, hp59_2⟩ := hr58
                            refine lv_goto (tgt := 399) hx hb d_Mod_simple_223 (by decide) ?_
                            refine lv_iconst (v := 1) hx hb d_Mod_simple_399 (by decide) ?_
                            exact tw_zret E hS (u59.1, u59.2.1, u59.2.2.1, u59.2.2.2) (by decide) (⟨(by decide), (fun h => (fun h => h) (hp59_0 h)), (by first | omega | (dsimp only <;> omega)), hp59_2⟩) hP hD d_Mod_simple_400
                  · have hn2 := fo_20 hfo h149 hn1
                    have t21 := t2_lt hbs (i := wh + 1) (by omega)
                    refine lv_aload_n hx hb d_Mod_simple_152 rfl (lv_at hl 1 rfl) ?_
                    refine lv_aload_n hx hb d_Mod_simple_153 rfl (lv_at hl 1 rfl) ?_
                    refine lv_aload_n hx hb d_Mod_simple_154 rfl (lv_at hl 1 rfl) ?_
                    refine lv_aload_n hx hb d_Mod_simple_155 rfl (lv_at hl 1 rfl) ?_
                    refine va_get (D := g.1) (ci := 10) (v := .int (nI wh)) (C := R_Mod) (T := F_Mod) (N := 61) hx hb hts in_Mod hown hK hP 0 rfl rfl 45 (by decide) (hts _ wd_1295) (fun _ h9 => h9) rfl d_Mod_simple_156 ?_
                    refine lv_iconst (v := 1) hx hb d_Mod_simple_159 (by decide) ?_
                    refine lv_iadd hx hb d_Mod_simple_160 ?_
                    refine tw_ri (e2 := nI (wh + 1)) (nI_add wh 1) ?_
                    refine tw_si (tw_runV (ws := [(h0, .inr (10, mob q rf n mm mb fa fp av ev wi mn tp tc sc nf fd me mp xn mt wh tq ag an ig)), ((q 2), aI g 600 bs), ((q 14), aI g 620 tg), ((q 32), aI g 160 sk), ((q 33), aI g 160 lo), ((q 47), aI g 128 nw)]) (wc := [(h0, .inr (10, mob q rf n mm mb fa fp av ev wi mn tp tc sc nf fd me mp xn mt wh tq ag an ig)), ((q 2), aI g 600 bs)]) (As := [.int (nI (wh + 1))]) (rest := [.ref h0, .ref h0]) E hB hK hZ (g_Mod_twoAt l g H.size h0 q rf n mm mb fa fp av ev wi mn tp tc sc nf fd me mp xn mt wh tq ag an ig bs (wh + 1) hbs (by omega)) mc_Mod_twoAt mi_Mod_twoAt me_Mod_twoAt wd_1616 hP hD hS hA [0, 1] rfl (by decide) 0 rfl rfl rfl rfl rfl (by decide) rfl hl.1 rfl (Nat.le_of_ble_eq_true rfl) (by decide) d_Mod_simple_161) (fun r60 hr60 => ?_)
                    have hB60 := hr60
                    subst hB60
                    refine lv_iconst (v := 5) hx hb d_Mod_simple_164 (by decide) ?_
                    refine tw_si (tw_runV (ws := [(h0, .inr (10, mob q rf n mm mb fa fp av ev wi mn tp tc sc nf fd me mp xn mt wh tq ag an ig)), ((q 2), aI g 600 bs), ((q 14), aI g 620 tg), ((q 32), aI g 160 sk), ((q 33), aI g 160 lo), ((q 47), aI g 128 nw)]) (wc := [(h0, .inr (10, mob q rf n mm mb fa fp av ev wi mn tp tc sc nf fd me mp xn mt wh tq ag an ig)), ((q 14), aI g 620 tg)]) (As := [.int (nI (t2 bs (wh + 1))), .int 5]) (rest := [.ref h0]) E hB hK hZ (g_Mod_isTagN l g H.size h0 q rf n mm mb fa fp av ev wi mn tp tc sc nf fd me mp xn mt wh tq ag an ig tg (t2 bs (wh + 1)) 5 (by omega) (by omega)) mc_Mod_isTag mi_Mod_isTag me_Mod_isTag wd_1508 hP hD hS hA [0, 2] rfl (by decide) 0 rfl rfl rfl rfl rfl (by decide) rfl hl.1 rfl (Nat.le_of_ble_eq_true rfl) (by decide) d_Mod_simple_165) (fun r61 hr61 => ?_)
                    have hB61 := hr61
                    refine tw_wv (wr := [((q 2), aI g 600 bs), ((q 14), aI g 620 tg), ((q 32), aI g 160 sk), ((q 33), aI g 160 lo), ((q 47), aI g 128 nw)]) (tw_runV (ws := [(h0, .inr (10, mob q rf n mm mb fa fp av ev wi mn tp tc sc nf fd me mp xn mt wh tq ag an ig)), ((q 2), aI g 600 bs), ((q 14), aI g 620 tg), ((q 32), aI g 160 sk), ((q 33), aI g 160 lo), ((q 47), aI g 128 nw)]) (wc := [(h0, .inr (10, mob q rf n mm mb fa fp av ev wi mn tp tc sc nf fd me mp xn mt wh tq ag an ig))]) (As := [.int r61]) (rest := []) E hB hK hZ (g_Mod_refer l g H.size h0 q rf n mm mb av ev wi mn tp tc sc nf fd me mp xn mt wh tq ag an ig fa fp r61) mc_Mod_refer mi_Mod_refer me_Mod_refer wd_1652 hP hD hS hA [0] rfl (by decide) 0 rfl rfl rfl rfl rfl (by decide) rfl hl.1 rfl (Nat.le_of_ble_eq_true rfl) (by decide) d_Mod_simple_168) hP hD hS hA [0] [1, 2, 3, 4, 5] rfl rfl (by decide) (by decide) (fun u63 H locs hr62 hP hD hS => ?_)
                    try dsimp only at hr62
                    have hP : va_P g.1 classes [((q 2), aI g 600 bs), ((q 14), aI g 620 tg), ((q 32), aI g 160 sk), ((q 33), aI g 160 lo), ((q 47), aI g 128 nw), (h0, .inr (10, mob q rf n mm mb u63.1 u63.2 av ev wi mn tp tc sc nf fd me mp xn mt wh tq ag an ig))] H := hP
                    have hD : va_D A [((q 2), aI g 600 bs), ((q 14), aI g 620 tg), ((q 32), aI g 160 sk), ((q 33), aI g 160 lo), ((q 47), aI g 128 nw), (h0, .inr (10, mob q rf n mm mb u63.1 u63.2 av ev wi mn tp tc sc nf fd me mp xn mt wh tq ag an ig))] := hD
                    have hP : va_P g.1 classes [(h0, .inr (10, mob q rf n mm mb u63.1 u63.2 av ev wi mn tp tc sc nf fd me mp xn mt wh tq ag an ig)), ((q 2), aI g 600 bs), ((q 14), aI g 620 tg), ((q 32), aI g 160 sk), ((q 33), aI g 160 lo), ((q 47), aI g 128 nw)] H := hP.sub [5, 0, 1, 2, 3, 4] rfl
                    have hD : va_D A [(h0, .inr (10, mob q rf n mm mb u63.1 u63.2 av ev wi mn tp tc sc nf fd me mp xn mt wh tq ag an ig)), ((q 2), aI g 600 bs), ((q 14), aI g 620 tg), ((q 32), aI g 160 sk), ((q 33), aI g 160 lo), ((q 47), aI g 128 nw)] := hD.sub [5, 0, 1, 2, 3, 4] (by decide) rfl
                    obtain ⟨hp63_0, hp63_1⟩ := hr62
                    refine lv_aload_n hx hb d_Mod_simple_171 rfl (lv_at hl 1 rfl) ?_
                    refine lv_iconst (v := 2) hx hb d_Mod_simple_172 (by decide) ?_
                    refine tw_wv (wr := [((q 2), aI g 600 bs), ((q 14), aI g 620 tg), ((q 33), aI g 160 lo)]) (tw_runV (ws := [(h0, .inr (10, mob q rf n mm mb u63.1 u63.2 av ev wi mn tp tc sc nf fd me mp xn mt wh tq ag an ig)), ((q 2), aI g 600 bs), ((q 14), aI g 620 tg), ((q 32), aI g 160 sk), ((q 33), aI g 160 lo), ((q 47), aI g 128 nw)]) (wc := [(h0, .inr (10, mob q rf n mm mb u63.1 u63.2 av ev wi mn tp tc sc nf fd me mp xn mt wh tq ag an ig)), ((q 32), aI g 160 sk), ((q 47), aI g 128 nw)]) (As := [.int 2]) (rest := []) E hB hK hZ (g_Mod_give l g H.size h0 q rf n mm mb av ev wi mn tp tc sc nf fd me mp xn mt wh ag an ig sk u63.1 u63.2 tq nw 2 s1 hNW (by omega) (by omega) hsk (by omega) (fun _ => by decide)) mc_Mod_give mi_Mod_give me_Mod_give wd_1648 hP hD hS hA [0, 3, 5] rfl (by decide) 0 rfl rfl rfl rfl rfl (by decide) rfl hl.1 rfl (Nat.le_of_ble_eq_true rfl) (by decide) d_Mod_simple_173) hP hD hS hA [0, 3, 5] [1, 2, 4] rfl rfl (by decide) (by decide) (fun u65 H locs hr64 hP hD hS => ?_)
                    try dsimp only at hr64
                    have hP : va_P g.1 classes [((q 2), aI g 600 bs), ((q 14), aI g 620 tg), ((q 33), aI g 160 lo), (h0, .inr (10, mob q rf n mm mb u65.1 u65.2.1 av ev wi mn tp tc sc nf fd me mp xn mt wh u65.2.2.1 ag an ig)), ((q 32), aI g 160 sk), ((q 47), aI g 128 u65.2.2.2)] H := hP
                    have hD : va_D A [((q 2), aI g 600 bs), ((q 14), aI g 620 tg), ((q 33), aI g 160 lo), (h0, .inr (10, mob q rf n mm mb u65.1 u65.2.1 av ev wi mn tp tc sc nf fd me mp xn mt wh u65.2.2.1 ag an ig)), ((q 32), aI g 160 sk), ((q 47), aI g 128 u65.2.2.2)] := hD
                    have hP : va_P g.1 classes [(h0, .inr (10, mob q rf n mm mb u65.1 u65.2.1 av ev wi mn tp tc sc nf fd me mp xn mt wh u65.2.2.1 ag an ig)), ((q 2), aI g 600 bs), ((q 14), aI g 620 tg), ((q 32), aI g 160 sk), ((q 33), aI g 160 lo), ((q 47), aI g 128 u65.2.2.2)] H := hP.sub [3, 0, 1, 4, 2, 5] rfl
                    have hD : va_D A [(h0, .inr (10, mob q rf n mm mb u65.1 u65.2.1 av ev wi mn tp tc sc nf fd me mp xn mt wh u65.2.2.1 ag an ig)), ((q 2), aI g 600 bs), ((q 14), aI g 620 tg), ((q 32), aI g 160 sk), ((q 33), aI g 160 lo), ((q 47), aI g 128 u65.2.2.2)] := hD.sub [3, 0, 1, 4, 2, 5] (by decide) rfl
                    obtain ⟨hp65_0, hp65_1, hp65_2⟩ := hr64
                    refine lv_goto (tgt := 399) hx hb d_Mod_simple_176 (by decide) ?_
                    refine lv_iconst (v := 1) hx hb d_Mod_simple_399 (by decide) ?_
                    exact tw_zret E hS (u65.1, u65.2.1, u65.2.2.1, u65.2.2.2) (by decide) (⟨(by decide), (fun h => (fun h => (fun h => h) (hp63_0 h)) (hp65_0 h)), (by first | omega | (dsimp only <;> omega)), hp65_2⟩) hP hD d_Mod_simple_400
                · refine lv_aload_n hx hb d_Mod_simple_97 rfl (lv_at hl 1 rfl) ?_
                  refine lv_aload_n hx hb d_Mod_simple_98 rfl (lv_at hl 1 rfl) ?_
                  refine lv_iload_n hx hb d_Mod_simple_99 rfl (lv_at hl 0 rfl) ?_
                  refine lv_iconst (v := 3) hx hb d_Mod_simple_100 (by decide) ?_
                  refine tw_si (tw_runV (ws := [(h0, .inr (10, mob q rf n mm mb fa fp av ev wi mn tp tc sc nf fd me mp xn mt wh tq ag an ig)), ((q 2), aI g 600 bs), ((q 14), aI g 620 tg), ((q 32), aI g 160 sk), ((q 33), aI g 160 lo), ((q 47), aI g 128 nw)]) (wc := [(h0, .inr (10, mob q rf n mm mb fa fp av ev wi mn tp tc sc nf fd me mp xn mt wh tq ag an ig)), ((q 14), aI g 620 tg)]) (As := [.int 0, .int 3]) (rest := [.ref h0]) E hB hK hZ (g_Mod_isTagI l g H.size h0 q rf n mm mb fa fp av ev wi mn tp tc sc nf fd me mp xn mt wh tq ag an ig tg 0 3 (by omega)) mc_Mod_isTag mi_Mod_isTag me_Mod_isTag wd_1508 hP hD hS hA [0, 2] rfl (by decide) 0 rfl rfl rfl rfl rfl (by decide) rfl hl.1 rfl (Nat.le_of_ble_eq_true rfl) (by decide) d_Mod_simple_101) (fun r66 hr66 => ?_)
                  have hB66 := hr66
                  refine lv_if_ne (tgt := 117) hx hb d_Mod_simple_104 (by decide) (fun h104 => ?_) (fun h104 => ?_)
                  · have hT104 := hB66.2 (hB66.1.resolve_left h104)
                    refine lv_iconst (v := 1) hx hb d_Mod_simple_117 (by decide) ?_
                    refine lv_goto (tgt := 122) hx hb d_Mod_simple_118 (by decide) ?_
                    refine tw_wv (wr := [((q 2), aI g 600 bs), ((q 14), aI g 620 tg), ((q 32), aI g 160 sk), ((q 33), aI g 160 lo), ((q 47), aI g 128 nw)]) (tw_runV (ws := [(h0, .inr (10, mob q rf n mm mb fa fp av ev wi mn tp tc sc nf fd me mp xn mt wh tq ag an ig)), ((q 2), aI g 600 bs), ((q 14), aI g 620 tg), ((q 32), aI g 160 sk), ((q 33), aI g 160 lo), ((q 47), aI g 128 nw)]) (wc := [(h0, .inr (10, mob q rf n mm mb fa fp av ev wi mn tp tc sc nf fd me mp xn mt wh tq ag an ig))]) (As := [.int 1]) (rest := []) E hB hK hZ (g_Mod_refer l g H.size h0 q rf n mm mb av ev wi mn tp tc sc nf fd me mp xn mt wh tq ag an ig fa fp 1) mc_Mod_refer mi_Mod_refer me_Mod_refer wd_1652 hP hD hS hA [0] rfl (by decide) 0 rfl rfl rfl rfl rfl (by decide) rfl hl.1 rfl (Nat.le_of_ble_eq_true rfl) (by decide) d_Mod_simple_122) hP hD hS hA [0] [1, 2, 3, 4, 5] rfl rfl (by decide) (by decide) (fun u68 H locs hr67 hP hD hS => ?_)
                    try dsimp only at hr67
                    have hP : va_P g.1 classes [((q 2), aI g 600 bs), ((q 14), aI g 620 tg), ((q 32), aI g 160 sk), ((q 33), aI g 160 lo), ((q 47), aI g 128 nw), (h0, .inr (10, mob q rf n mm mb u68.1 u68.2 av ev wi mn tp tc sc nf fd me mp xn mt wh tq ag an ig))] H := hP
                    have hD : va_D A [((q 2), aI g 600 bs), ((q 14), aI g 620 tg), ((q 32), aI g 160 sk), ((q 33), aI g 160 lo), ((q 47), aI g 128 nw), (h0, .inr (10, mob q rf n mm mb u68.1 u68.2 av ev wi mn tp tc sc nf fd me mp xn mt wh tq ag an ig))] := hD
                    have hP : va_P g.1 classes [(h0, .inr (10, mob q rf n mm mb u68.1 u68.2 av ev wi mn tp tc sc nf fd me mp xn mt wh tq ag an ig)), ((q 2), aI g 600 bs), ((q 14), aI g 620 tg), ((q 32), aI g 160 sk), ((q 33), aI g 160 lo), ((q 47), aI g 128 nw)] H := hP.sub [5, 0, 1, 2, 3, 4] rfl
                    have hD : va_D A [(h0, .inr (10, mob q rf n mm mb u68.1 u68.2 av ev wi mn tp tc sc nf fd me mp xn mt wh tq ag an ig)), ((q 2), aI g 600 bs), ((q 14), aI g 620 tg), ((q 32), aI g 160 sk), ((q 33), aI g 160 lo), ((q 47), aI g 128 nw)] := hD.sub [5, 0, 1, 2, 3, 4] (by decide) rfl
                    obtain ⟨hp68_0, hp68_1⟩ := hr67
                    refine lv_aload_n hx hb d_Mod_simple_125 rfl (lv_at hl 1 rfl) ?_
                    refine lv_aload_n hx hb d_Mod_simple_126 rfl (lv_at hl 1 rfl) ?_
                    refine lv_iload_n hx hb d_Mod_simple_127 rfl (lv_at hl 0 rfl) ?_
                    refine lv_iconst (v := 3) hx hb d_Mod_simple_128 (by decide) ?_
                    refine tw_si (tw_runV (ws := [(h0, .inr (10, mob q rf n mm mb u68.1 u68.2 av ev wi mn tp tc sc nf fd me mp xn mt wh tq ag an ig)), ((q 2), aI g 600 bs), ((q 14), aI g 620 tg), ((q 32), aI g 160 sk), ((q 33), aI g 160 lo), ((q 47), aI g 128 nw)]) (wc := [(h0, .inr (10, mob q rf n mm mb u68.1 u68.2 av ev wi mn tp tc sc nf fd me mp xn mt wh tq ag an ig)), ((q 14), aI g 620 tg)]) (As := [.int 0, .int 3]) (rest := [.ref h0]) E hB hK hZ (g_Mod_isTagI l g H.size h0 q rf n mm mb u68.1 u68.2 av ev wi mn tp tc sc nf fd me mp xn mt wh tq ag an ig tg 0 3 (by omega)) mc_Mod_isTag mi_Mod_isTag me_Mod_isTag wd_1508 hP hD hS hA [0, 2] rfl (by decide) 0 rfl rfl rfl rfl rfl (by decide) rfl hl.1 rfl (Nat.le_of_ble_eq_true rfl) (by decide) d_Mod_simple_129) (fun r69 hr69 => ?_)
                    have hB69 := hr69
                    refine lv_if_eq (tgt := 139) hx hb d_Mod_simple_132 (by decide) (fun h132 => ?_) (fun h132 => ?_)
                    · refine lv_iconst (v := 4) hx hb d_Mod_simple_139 (by decide) ?_
                      refine tw_wv (wr := [((q 2), aI g 600 bs), ((q 14), aI g 620 tg), ((q 33), aI g 160 lo)]) (tw_runV (ws := [(h0, .inr (10, mob q rf n mm mb u68.1 u68.2 av ev wi mn tp tc sc nf fd me mp xn mt wh tq ag an ig)), ((q 2), aI g 600 bs), ((q 14), aI g 620 tg), ((q 32), aI g 160 sk), ((q 33), aI g 160 lo), ((q 47), aI g 128 nw)]) (wc := [(h0, .inr (10, mob q rf n mm mb u68.1 u68.2 av ev wi mn tp tc sc nf fd me mp xn mt wh tq ag an ig)), ((q 32), aI g 160 sk), ((q 47), aI g 128 nw)]) (As := [.int 4]) (rest := []) E hB hK hZ (g_Mod_give l g H.size h0 q rf n mm mb av ev wi mn tp tc sc nf fd me mp xn mt wh ag an ig sk u68.1 u68.2 tq nw 4 s1 hNW (by omega) (by omega) hsk (by omega) (fun _ => by decide)) mc_Mod_give mi_Mod_give me_Mod_give wd_1648 hP hD hS hA [0, 3, 5] rfl (by decide) 0 rfl rfl rfl rfl rfl (by decide) rfl hl.1 rfl (Nat.le_of_ble_eq_true rfl) (by decide) d_Mod_simple_140) hP hD hS hA [0, 3, 5] [1, 2, 4] rfl rfl (by decide) (by decide) (fun u71 H locs hr70 hP hD hS => ?_)
                      try dsimp only at hr70
                      have hP : va_P g.1 classes [((q 2), aI g 600 bs), ((q 14), aI g 620 tg), ((q 33), aI g 160 lo), (h0, .inr (10, mob q rf n mm mb u71.1 u71.2.1 av ev wi mn tp tc sc nf fd me mp xn mt wh u71.2.2.1 ag an ig)), ((q 32), aI g 160 sk), ((q 47), aI g 128 u71.2.2.2)] H := hP
                      have hD : va_D A [((q 2), aI g 600 bs), ((q 14), aI g 620 tg), ((q 33), aI g 160 lo), (h0, .inr (10, mob q rf n mm mb u71.1 u71.2.1 av ev wi mn tp tc sc nf fd me mp xn mt wh u71.2.2.1 ag an ig)), ((q 32), aI g 160 sk), ((q 47), aI g 128 u71.2.2.2)] := hD
                      have hP : va_P g.1 classes [(h0, .inr (10, mob q rf n mm mb u71.1 u71.2.1 av ev wi mn tp tc sc nf fd me mp xn mt wh u71.2.2.1 ag an ig)), ((q 2), aI g 600 bs), ((q 14), aI g 620 tg), ((q 32), aI g 160 sk), ((q 33), aI g 160 lo), ((q 47), aI g 128 u71.2.2.2)] H := hP.sub [3, 0, 1, 4, 2, 5] rfl
                      have hD : va_D A [(h0, .inr (10, mob q rf n mm mb u71.1 u71.2.1 av ev wi mn tp tc sc nf fd me mp xn mt wh u71.2.2.1 ag an ig)), ((q 2), aI g 600 bs), ((q 14), aI g 620 tg), ((q 32), aI g 160 sk), ((q 33), aI g 160 lo), ((q 47), aI g 128 u71.2.2.2)] := hD.sub [3, 0, 1, 4, 2, 5] (by decide) rfl
                      obtain ⟨hp71_0, hp71_1, hp71_2⟩ := hr70
                      refine lv_goto (tgt := 399) hx hb d_Mod_simple_143 (by decide) ?_
                      refine lv_iconst (v := 1) hx hb d_Mod_simple_399 (by decide) ?_
                      exact tw_zret E hS (u71.1, u71.2.1, u71.2.2.1, u71.2.2.2) (by decide) (⟨(by decide), (fun h => (fun h => (fun h => h) (hp68_0 h)) (hp71_0 h)), (by first | omega | (dsimp only <;> omega)), hp71_2⟩) hP hD d_Mod_simple_400
                    · have hT132 := hB69.2 (hB69.1.resolve_left h132)
                      refine lv_iconst (v := 1) hx hb d_Mod_simple_135 (by decide) ?_
                      refine lv_goto (tgt := 140) hx hb d_Mod_simple_136 (by decide) ?_
                      refine tw_wv (wr := [((q 2), aI g 600 bs), ((q 14), aI g 620 tg), ((q 33), aI g 160 lo)]) (tw_runV (ws := [(h0, .inr (10, mob q rf n mm mb u68.1 u68.2 av ev wi mn tp tc sc nf fd me mp xn mt wh tq ag an ig)), ((q 2), aI g 600 bs), ((q 14), aI g 620 tg), ((q 32), aI g 160 sk), ((q 33), aI g 160 lo), ((q 47), aI g 128 nw)]) (wc := [(h0, .inr (10, mob q rf n mm mb u68.1 u68.2 av ev wi mn tp tc sc nf fd me mp xn mt wh tq ag an ig)), ((q 32), aI g 160 sk), ((q 47), aI g 128 nw)]) (As := [.int 1]) (rest := []) E hB hK hZ (g_Mod_give l g H.size h0 q rf n mm mb av ev wi mn tp tc sc nf fd me mp xn mt wh ag an ig sk u68.1 u68.2 tq nw 1 s1 hNW (by omega) (by omega) hsk (by omega) (fun _ => by decide)) mc_Mod_give mi_Mod_give me_Mod_give wd_1648 hP hD hS hA [0, 3, 5] rfl (by decide) 0 rfl rfl rfl rfl rfl (by decide) rfl hl.1 rfl (Nat.le_of_ble_eq_true rfl) (by decide) d_Mod_simple_140) hP hD hS hA [0, 3, 5] [1, 2, 4] rfl rfl (by decide) (by decide) (fun u73 H locs hr72 hP hD hS => ?_)
                      try dsimp only at hr72
                      have hP : va_P g.1 classes [((q 2), aI g 600 bs), ((q 14), aI g 620 tg), ((q 33), aI g 160 lo), (h0, .inr (10, mob q rf n mm mb u73.1 u73.2.1 av ev wi mn tp tc sc nf fd me mp xn mt wh u73.2.2.1 ag an ig)), ((q 32), aI g 160 sk), ((q 47), aI g 128 u73.2.2.2)] H := hP
                      have hD : va_D A [((q 2), aI g 600 bs), ((q 14), aI g 620 tg), ((q 33), aI g 160 lo), (h0, .inr (10, mob q rf n mm mb u73.1 u73.2.1 av ev wi mn tp tc sc nf fd me mp xn mt wh u73.2.2.1 ag an ig)), ((q 32), aI g 160 sk), ((q 47), aI g 128 u73.2.2.2)] := hD
                      have hP : va_P g.1 classes [(h0, .inr (10, mob q rf n mm mb u73.1 u73.2.1 av ev wi mn tp tc sc nf fd me mp xn mt wh u73.2.2.1 ag an ig)), ((q 2), aI g 600 bs), ((q 14), aI g 620 tg), ((q 32), aI g 160 sk), ((q 33), aI g 160 lo), ((q 47), aI g 128 u73.2.2.2)] H := hP.sub [3, 0, 1, 4, 2, 5] rfl
                      have hD : va_D A [(h0, .inr (10, mob q rf n mm mb u73.1 u73.2.1 av ev wi mn tp tc sc nf fd me mp xn mt wh u73.2.2.1 ag an ig)), ((q 2), aI g 600 bs), ((q 14), aI g 620 tg), ((q 32), aI g 160 sk), ((q 33), aI g 160 lo), ((q 47), aI g 128 u73.2.2.2)] := hD.sub [3, 0, 1, 4, 2, 5] (by decide) rfl
                      obtain ⟨hp73_0, hp73_1, hp73_2⟩ := hr72
                      refine lv_goto (tgt := 399) hx hb d_Mod_simple_143 (by decide) ?_
                      refine lv_iconst (v := 1) hx hb d_Mod_simple_399 (by decide) ?_
                      exact tw_zret E hS (u73.1, u73.2.1, u73.2.2.1, u73.2.2.2) (by decide) (⟨(by decide), (fun h => (fun h => (fun h => h) (hp68_0 h)) (hp73_0 h)), (by first | omega | (dsimp only <;> omega)), hp73_2⟩) hP hD d_Mod_simple_400
                  · refine lv_aload_n hx hb d_Mod_simple_107 rfl (lv_at hl 1 rfl) ?_
                    refine lv_iload_n hx hb d_Mod_simple_108 rfl (lv_at hl 0 rfl) ?_
                    refine lv_bipush (v := 8) hx hb d_Mod_simple_109 (by decide) ?_
                    refine tw_si (tw_runV (ws := [(h0, .inr (10, mob q rf n mm mb fa fp av ev wi mn tp tc sc nf fd me mp xn mt wh tq ag an ig)), ((q 2), aI g 600 bs), ((q 14), aI g 620 tg), ((q 32), aI g 160 sk), ((q 33), aI g 160 lo), ((q 47), aI g 128 nw)]) (wc := [(h0, .inr (10, mob q rf n mm mb fa fp av ev wi mn tp tc sc nf fd me mp xn mt wh tq ag an ig)), ((q 14), aI g 620 tg)]) (As := [.int 0, .int 8]) (rest := [.ref h0]) E hB hK hZ (g_Mod_isTagI l g H.size h0 q rf n mm mb fa fp av ev wi mn tp tc sc nf fd me mp xn mt wh tq ag an ig tg 0 8 (by omega)) mc_Mod_isTag mi_Mod_isTag me_Mod_isTag wd_1508 hP hD hS hA [0, 2] rfl (by decide) 0 rfl rfl rfl rfl rfl (by decide) rfl hl.1 rfl (Nat.le_of_ble_eq_true rfl) (by decide) d_Mod_simple_111) (fun r74 hr74 => ?_)
                    have hB74 := hr74
                    refine lv_if_eq (tgt := 121) hx hb d_Mod_simple_114 (by decide) (fun h114 => ?_) (fun h114 => ?_)
                    · refine lv_iconst (v := 0) hx hb d_Mod_simple_121 (by decide) ?_
                      refine tw_wv (wr := [((q 2), aI g 600 bs), ((q 14), aI g 620 tg), ((q 32), aI g 160 sk), ((q 33), aI g 160 lo), ((q 47), aI g 128 nw)]) (tw_runV (ws := [(h0, .inr (10, mob q rf n mm mb fa fp av ev wi mn tp tc sc nf fd me mp xn mt wh tq ag an ig)), ((q 2), aI g 600 bs), ((q 14), aI g 620 tg), ((q 32), aI g 160 sk), ((q 33), aI g 160 lo), ((q 47), aI g 128 nw)]) (wc := [(h0, .inr (10, mob q rf n mm mb fa fp av ev wi mn tp tc sc nf fd me mp xn mt wh tq ag an ig))]) (As := [.int 0]) (rest := []) E hB hK hZ (g_Mod_refer l g H.size h0 q rf n mm mb av ev wi mn tp tc sc nf fd me mp xn mt wh tq ag an ig fa fp 0) mc_Mod_refer mi_Mod_refer me_Mod_refer wd_1652 hP hD hS hA [0] rfl (by decide) 0 rfl rfl rfl rfl rfl (by decide) rfl hl.1 rfl (Nat.le_of_ble_eq_true rfl) (by decide) d_Mod_simple_122) hP hD hS hA [0] [1, 2, 3, 4, 5] rfl rfl (by decide) (by decide) (fun u76 H locs hr75 hP hD hS => ?_)
                      try dsimp only at hr75
                      have hP : va_P g.1 classes [((q 2), aI g 600 bs), ((q 14), aI g 620 tg), ((q 32), aI g 160 sk), ((q 33), aI g 160 lo), ((q 47), aI g 128 nw), (h0, .inr (10, mob q rf n mm mb u76.1 u76.2 av ev wi mn tp tc sc nf fd me mp xn mt wh tq ag an ig))] H := hP
                      have hD : va_D A [((q 2), aI g 600 bs), ((q 14), aI g 620 tg), ((q 32), aI g 160 sk), ((q 33), aI g 160 lo), ((q 47), aI g 128 nw), (h0, .inr (10, mob q rf n mm mb u76.1 u76.2 av ev wi mn tp tc sc nf fd me mp xn mt wh tq ag an ig))] := hD
                      have hP : va_P g.1 classes [(h0, .inr (10, mob q rf n mm mb u76.1 u76.2 av ev wi mn tp tc sc nf fd me mp xn mt wh tq ag an ig)), ((q 2), aI g 600 bs), ((q 14), aI g 620 tg), ((q 32), aI g 160 sk), ((q 33), aI g 160 lo), ((q 47), aI g 128 nw)] H := hP.sub [5, 0, 1, 2, 3, 4] rfl
                      have hD : va_D A [(h0, .inr (10, mob q rf n mm mb u76.1 u76.2 av ev wi mn tp tc sc nf fd me mp xn mt wh tq ag an ig)), ((q 2), aI g 600 bs), ((q 14), aI g 620 tg), ((q 32), aI g 160 sk), ((q 33), aI g 160 lo), ((q 47), aI g 128 nw)] := hD.sub [5, 0, 1, 2, 3, 4] (by decide) rfl
                      obtain ⟨hp76_0, hp76_1⟩ := hr75
                      refine lv_aload_n hx hb d_Mod_simple_125 rfl (lv_at hl 1 rfl) ?_
                      refine lv_aload_n hx hb d_Mod_simple_126 rfl (lv_at hl 1 rfl) ?_
                      refine lv_iload_n hx hb d_Mod_simple_127 rfl (lv_at hl 0 rfl) ?_
                      refine lv_iconst (v := 3) hx hb d_Mod_simple_128 (by decide) ?_
                      refine tw_si (tw_runV (ws := [(h0, .inr (10, mob q rf n mm mb u76.1 u76.2 av ev wi mn tp tc sc nf fd me mp xn mt wh tq ag an ig)), ((q 2), aI g 600 bs), ((q 14), aI g 620 tg), ((q 32), aI g 160 sk), ((q 33), aI g 160 lo), ((q 47), aI g 128 nw)]) (wc := [(h0, .inr (10, mob q rf n mm mb u76.1 u76.2 av ev wi mn tp tc sc nf fd me mp xn mt wh tq ag an ig)), ((q 14), aI g 620 tg)]) (As := [.int 0, .int 3]) (rest := [.ref h0]) E hB hK hZ (g_Mod_isTagI l g H.size h0 q rf n mm mb u76.1 u76.2 av ev wi mn tp tc sc nf fd me mp xn mt wh tq ag an ig tg 0 3 (by omega)) mc_Mod_isTag mi_Mod_isTag me_Mod_isTag wd_1508 hP hD hS hA [0, 2] rfl (by decide) 0 rfl rfl rfl rfl rfl (by decide) rfl hl.1 rfl (Nat.le_of_ble_eq_true rfl) (by decide) d_Mod_simple_129) (fun r77 hr77 => ?_)
                      have hB77 := hr77
                      refine lv_if_eq (tgt := 139) hx hb d_Mod_simple_132 (by decide) (fun h132 => ?_) (fun h132 => ?_)
                      · refine lv_iconst (v := 4) hx hb d_Mod_simple_139 (by decide) ?_
                        refine tw_wv (wr := [((q 2), aI g 600 bs), ((q 14), aI g 620 tg), ((q 33), aI g 160 lo)]) (tw_runV (ws := [(h0, .inr (10, mob q rf n mm mb u76.1 u76.2 av ev wi mn tp tc sc nf fd me mp xn mt wh tq ag an ig)), ((q 2), aI g 600 bs), ((q 14), aI g 620 tg), ((q 32), aI g 160 sk), ((q 33), aI g 160 lo), ((q 47), aI g 128 nw)]) (wc := [(h0, .inr (10, mob q rf n mm mb u76.1 u76.2 av ev wi mn tp tc sc nf fd me mp xn mt wh tq ag an ig)), ((q 32), aI g 160 sk), ((q 47), aI g 128 nw)]) (As := [.int 4]) (rest := []) E hB hK hZ (g_Mod_give l g H.size h0 q rf n mm mb av ev wi mn tp tc sc nf fd me mp xn mt wh ag an ig sk u76.1 u76.2 tq nw 4 s1 hNW (by omega) (by omega) hsk (by omega) (fun _ => by decide)) mc_Mod_give mi_Mod_give me_Mod_give wd_1648 hP hD hS hA [0, 3, 5] rfl (by decide) 0 rfl rfl rfl rfl rfl (by decide) rfl hl.1 rfl (Nat.le_of_ble_eq_true rfl) (by decide) d_Mod_simple_140) hP hD hS hA [0, 3, 5] [1, 2, 4] rfl rfl (by decide) (by decide) (fun u79 H locs hr78 hP hD hS => ?_)
                        try dsimp only at hr78
                        have hP : va_P g.1 classes [((q 2), aI g 600 bs), ((q 14), aI g 620 tg), ((q 33), aI g 160 lo), (h0, .inr (10, mob q rf n mm mb u79.1 u79.2.1 av ev wi mn tp tc sc nf fd me mp xn mt wh u79.2.2.1 ag an ig)), ((q 32), aI g 160 sk), ((q 47), aI g 128 u79.2.2.2)] H := hP
                        have hD : va_D A [((q 2), aI g 600 bs), ((q 14), aI g 620 tg), ((q 33), aI g 160 lo), (h0, .inr (10, mob q rf n mm mb u79.1 u79.2.1 av ev wi mn tp tc sc nf fd me mp xn mt wh u79.2.2.1 ag an ig)), ((q 32), aI g 160 sk), ((q 47), aI g 128 u79.2.2.2)] := hD
                        have hP : va_P g.1 classes [(h0, .inr (10, mob q rf n mm mb u79.1 u79.2.1 av ev wi mn tp tc sc nf fd me mp xn mt wh u79.2.2.1 ag an ig)), ((q 2), aI g 600 bs), ((q 14), aI g 620 tg), ((q 32), aI g 160 sk), ((q 33), aI g 160 lo), ((q 47), aI g 128 u79.2.2.2)] H := hP.sub [3, 0, 1, 4, 2, 5] rfl
                        have hD : va_D A [(h0, .inr (10, mob q rf n mm mb u79.1 u79.2.1 av ev wi mn tp tc sc nf fd me mp xn mt wh u79.2.2.1 ag an ig)), ((q 2), aI g 600 bs), ((q 14), aI g 620 tg), ((q 32), aI g 160 sk), ((q 33), aI g 160 lo), ((q 47), aI g 128 u79.2.2.2)] := hD.sub [3, 0, 1, 4, 2, 5] (by decide) rfl
                        obtain ⟨hp79_0, hp79_1, hp79_2⟩ := hr78
                        refine lv_goto (tgt := 399) hx hb d_Mod_simple_143 (by decide) ?_
                        refine lv_iconst (v := 1) hx hb d_Mod_simple_399 (by decide) ?_
                        exact tw_zret E hS (u79.1, u79.2.1, u79.2.2.1, u79.2.2.2) (by decide) (⟨(by decide), (fun h => (fun h => (fun h => h) (hp76_0 h)) (hp79_0 h)), (by first | omega | (dsimp only <;> omega)), hp79_2⟩) hP hD d_Mod_simple_400
                      · have hT132 := hB77.2 (hB77.1.resolve_left h132)
                        refine lv_iconst (v := 1) hx hb d_Mod_simple_135 (by decide) ?_
                        refine lv_goto (tgt := 140) hx hb d_Mod_simple_136 (by decide) ?_
                        refine tw_wv (wr := [((q 2), aI g 600 bs), ((q 14), aI g 620 tg), ((q 33), aI g 160 lo)]) (tw_runV (ws := [(h0, .inr (10, mob q rf n mm mb u76.1 u76.2 av ev wi mn tp tc sc nf fd me mp xn mt wh tq ag an ig)), ((q 2), aI g 600 bs), ((q 14), aI g 620 tg), ((q 32), aI g 160 sk), ((q 33), aI g 160 lo), ((q 47), aI g 128 nw)]) (wc := [(h0, .inr (10, mob q rf n mm mb u76.1 u76.2 av ev wi mn tp tc sc nf fd me mp xn mt wh tq ag an ig)), ((q 32), aI g 160 sk), ((q 47), aI g 128 nw)]) (As := [.int 1]) (rest := []) E hB hK hZ (g_Mod_give l g H.size h0 q rf n mm mb av ev wi mn tp tc sc nf fd me mp xn mt wh ag an ig sk u76.1 u76.2 tq nw 1 s1 hNW (by omega) (by omega) hsk (by omega) (fun _ => by decide)) mc_Mod_give mi_Mod_give me_Mod_give wd_1648 hP hD hS hA [0, 3, 5] rfl (by decide) 0 rfl rfl rfl rfl rfl (by decide) rfl hl.1 rfl (Nat.le_of_ble_eq_true rfl) (by decide) d_Mod_simple_140) hP hD hS hA [0, 3, 5] [1, 2, 4] rfl rfl (by decide) (by decide) (fun u81 H locs hr80 hP hD hS => ?_)
                        try dsimp only at hr80
                        have hP : va_P g.1 classes [((q 2), aI g 600 bs), ((q 14), aI g 620 tg), ((q 33), aI g 160 lo), (h0, .inr (10, mob q rf n mm mb u81.1 u81.2.1 av ev wi mn tp tc sc nf fd me mp xn mt wh u81.2.2.1 ag an ig)), ((q 32), aI g 160 sk), ((q 47), aI g 128 u81.2.2.2)] H := hP
                        have hD : va_D A [((q 2), aI g 600 bs), ((q 14), aI g 620 tg), ((q 33), aI g 160 lo), (h0, .inr (10, mob q rf n mm mb u81.1 u81.2.1 av ev wi mn tp tc sc nf fd me mp xn mt wh u81.2.2.1 ag an ig)), ((q 32), aI g 160 sk), ((q 47), aI g 128 u81.2.2.2)] := hD
                        have hP : va_P g.1 classes [(h0, .inr (10, mob q rf n mm mb u81.1 u81.2.1 av ev wi mn tp tc sc nf fd me mp xn mt wh u81.2.2.1 ag an ig)), ((q 2), aI g 600 bs), ((q 14), aI g 620 tg), ((q 32), aI g 160 sk), ((q 33), aI g 160 lo), ((q 47), aI g 128 u81.2.2.2)] H := hP.sub [3, 0, 1, 4, 2, 5] rfl
                        have hD : va_D A [(h0, .inr (10, mob q rf n mm mb u81.1 u81.2.1 av ev wi mn tp tc sc nf fd me mp xn mt wh u81.2.2.1 ag an ig)), ((q 2), aI g 600 bs), ((q 14), aI g 620 tg), ((q 32), aI g 160 sk), ((q 33), aI g 160 lo), ((q 47), aI g 128 u81.2.2.2)] := hD.sub [3, 0, 1, 4, 2, 5] (by decide) rfl
                        obtain ⟨hp81_0, hp81_1, hp81_2⟩ := hr80
                        refine lv_goto (tgt := 399) hx hb d_Mod_simple_143 (by decide) ?_
                        refine lv_iconst (v := 1) hx hb d_Mod_simple_399 (by decide) ?_
                        exact tw_zret E hS (u81.1, u81.2.1, u81.2.2.1, u81.2.2.2) (by decide) (⟨(by decide), (fun h => (fun h => (fun h => h) (hp76_0 h)) (hp81_0 h)), (by first | omega | (dsimp only <;> omega)), hp81_2⟩) hP hD d_Mod_simple_400
                    · have hT114 := hB74.2 (hB74.1.resolve_left h114)
                      refine lv_iconst (v := 1) hx hb d_Mod_simple_117 (by decide) ?_
                      refine lv_goto (tgt := 122) hx hb d_Mod_simple_118 (by decide) ?_
                      refine tw_wv (wr := [((q 2), aI g 600 bs), ((q 14), aI g 620 tg), ((q 32), aI g 160 sk), ((q 33), aI g 160 lo), ((q 47), aI g 128 nw)]) (tw_runV (ws := [(h0, .inr (10, mob q rf n mm mb fa fp av ev wi mn tp tc sc nf fd me mp xn mt wh tq ag an ig)), ((q 2), aI g 600 bs), ((q 14), aI g 620 tg), ((q 32), aI g 160 sk), ((q 33), aI g 160 lo), ((q 47), aI g 128 nw)]) (wc := [(h0, .inr (10, mob q rf n mm mb fa fp av ev wi mn tp tc sc nf fd me mp xn mt wh tq ag an ig))]) (As := [.int 1]) (rest := []) E hB hK hZ (g_Mod_refer l g H.size h0 q rf n mm mb av ev wi mn tp tc sc nf fd me mp xn mt wh tq ag an ig fa fp 1) mc_Mod_refer mi_Mod_refer me_Mod_refer wd_1652 hP hD hS hA [0] rfl (by decide) 0 rfl rfl rfl rfl rfl (by decide) rfl hl.1 rfl (Nat.le_of_ble_eq_true rfl) (by decide) d_Mod_simple_122) hP hD hS hA [0] [1, 2, 3, 4, 5] rfl rfl (by decide) (by decide) (fun u83 H locs hr82 hP hD hS => ?_)
                      try dsimp only at hr82
                      have hP : va_P g.1 classes [((q 2), aI g 600 bs), ((q 14), aI g 620 tg), ((q 32), aI g 160 sk), ((q 33), aI g 160 lo), ((q 47), aI g 128 nw), (h0, .inr (10, mob q rf n mm mb u83.1 u83.2 av ev wi mn tp tc sc nf fd me mp xn mt wh tq ag an ig))] H := hP
                      have hD : va_D A [((q 2), aI g 600 bs), ((q 14), aI g 620 tg), ((q 32), aI g 160 sk), ((q 33), aI g 160 lo), ((q 47), aI g 128 nw), (h0, .inr (10, mob q rf n mm mb u83.1 u83.2 av ev wi mn tp tc sc nf fd me mp xn mt wh tq ag an ig))] := hD
                      have hP : va_P g.1 classes [(h0, .inr (10, mob q rf n mm mb u83.1 u83.2 av ev wi mn tp tc sc nf fd me mp xn mt wh tq ag an ig)), ((q 2), aI g 600 bs), ((q 14), aI g 620 tg), ((q 32), aI g 160 sk), ((q 33), aI g 160 lo), ((q 47), aI g 128 nw)] H := hP.sub [5, 0, 1, 2, 3, 4] rfl
                      have hD : va_D A [(h0, .inr (10, mob q rf n mm mb u83.1 u83.2 av ev wi mn tp tc sc nf fd me mp xn mt wh tq ag an ig)), ((q 2), aI g 600 bs), ((q 14), aI g 620 tg), ((q 32), aI g 160 sk), ((q 33), aI g 160 lo), ((q 47), aI g 128 nw)] := hD.sub [5, 0, 1, 2, 3, 4] (by decide) rfl
                      obtain ⟨hp83_0, hp83_1⟩ := hr82
                      refine lv_aload_n hx hb d_Mod_simple_125 rfl (lv_at hl 1 rfl) ?_
                      refine lv_aload_n hx hb d_Mod_simple_126 rfl (lv_at hl 1 rfl) ?_
                      refine lv_iload_n hx hb d_Mod_simple_127 rfl (lv_at hl 0 rfl) ?_
                      refine lv_iconst (v := 3) hx hb d_Mod_simple_128 (by decide) ?_
                      refine tw_si (tw_runV (ws := [(h0, .inr (10, mob q rf n mm mb u83.1 u83.2 av ev wi mn tp tc sc nf fd me mp xn mt wh tq ag an ig)), ((q 2), aI g 600 bs), ((q 14), aI g 620 tg), ((q 32), aI g 160 sk), ((q 33), aI g 160 lo), ((q 47), aI g 128 nw)]) (wc := [(h0, .inr (10, mob q rf n mm mb u83.1 u83.2 av ev wi mn tp tc sc nf fd me mp xn mt wh tq ag an ig)), ((q 14), aI g 620 tg)]) (As := [.int 0, .int 3]) (rest := [.ref h0]) E hB hK hZ (g_Mod_isTagI l g H.size h0 q rf n mm mb u83.1 u83.2 av ev wi mn tp tc sc nf fd me mp xn mt wh tq ag an ig tg 0 3 (by omega)) mc_Mod_isTag mi_Mod_isTag me_Mod_isTag wd_1508 hP hD hS hA [0, 2] rfl (by decide) 0 rfl rfl rfl rfl rfl (by decide) rfl hl.1 rfl (Nat.le_of_ble_eq_true rfl) (by decide) d_Mod_simple_129) (fun r84 hr84 => ?_)
                      have hB84 := hr84
                      refine lv_if_eq (tgt := 139) hx hb d_Mod_simple_132 (by decide) (fun h132 => ?_) (fun h132 => ?_)
                      · refine lv_iconst (v := 4) hx hb d_Mod_simple_139 (by decide) ?_
                        refine tw_wv (wr := [((q 2), aI g 600 bs), ((q 14), aI g 620 tg), ((q 33), aI g 160 lo)]) (tw_runV (ws := [(h0, .inr (10, mob q rf n mm mb u83.1 u83.2 av ev wi mn tp tc sc nf fd me mp xn mt wh tq ag an ig)), ((q 2), aI g 600 bs), ((q 14), aI g 620 tg), ((q 32), aI g 160 sk), ((q 33), aI g 160 lo), ((q 47), aI g 128 nw)]) (wc := [(h0, .inr (10, mob q rf n mm mb u83.1 u83.2 av ev wi mn tp tc sc nf fd me mp xn mt wh tq ag an ig)), ((q 32), aI g 160 sk), ((q 47), aI g 128 nw)]) (As := [.int 4]) (rest := []) E hB hK hZ (g_Mod_give l g H.size h0 q rf n mm mb av ev wi mn tp tc sc nf fd me mp xn mt wh ag an ig sk u83.1 u83.2 tq nw 4 s1 hNW (by omega) (by omega) hsk (by omega) (fun _ => by decide)) mc_Mod_give mi_Mod_give me_Mod_give wd_1648 hP hD hS hA [0, 3, 5] rfl (by decide) 0 rfl rfl rfl rfl rfl (by decide) rfl hl.1 rfl (Nat.le_of_ble_eq_true rfl) (by decide) d_Mod_simple_140) hP hD hS hA [0, 3, 5] [1, 2, 4] rfl rfl (by decide) (by decide) (fun u86 H locs hr85 hP hD hS => ?_)
                        try dsimp only at hr85
                        have hP : va_P g.1 classes [((q 2), aI g 600 bs), ((q 14), aI g 620 tg), ((q 33), aI g 160 lo), (h0, .inr (10, mob q rf n mm mb u86.1 u86.2.1 av ev wi mn tp tc sc nf fd me mp xn mt wh u86.2.2.1 ag an ig)), ((q 32), aI g 160 sk), ((q 47), aI g 128 u86.2.2.2)] H := hP
                        have hD : va_D A [((q 2), aI g 600 bs), ((q 14), aI g 620 tg), ((q 33), aI g 160 lo), (h0, .inr (10, mob q rf n mm mb u86.1 u86.2.1 av ev wi mn tp tc sc nf fd me mp xn mt wh u86.2.2.1 ag an ig)), ((q 32), aI g 160 sk), ((q 47), aI g 128 u86.2.2.2)] := hD
                        have hP : va_P g.1 classes [(h0, .inr (10, mob q rf n mm mb u86.1 u86.2.1 av ev wi mn tp tc sc nf fd me mp xn mt wh u86.2.2.1 ag an ig)), ((q 2), aI g 600 bs), ((q 14), aI g 620 tg), ((q 32), aI g 160 sk), ((q 33), aI g 160 lo), ((q 47), aI g 128 u86.2.2.2)] H := hP.sub [3, 0, 1, 4, 2, 5] rfl
                        have hD : va_D A [(h0, .inr (10, mob q rf n mm mb u86.1 u86.2.1 av ev wi mn tp tc sc nf fd me mp xn mt wh u86.2.2.1 ag an ig)), ((q 2), aI g 600 bs), ((q 14), aI g 620 tg), ((q 32), aI g 160 sk), ((q 33), aI g 160 lo), ((q 47), aI g 128 u86.2.2.2)] := hD.sub [3, 0, 1, 4, 2, 5] (by decide) rfl
                        obtain ⟨hp86_0, hp86_1, hp86_2⟩ := hr85
                        refine lv_goto (tgt := 399) hx hb d_Mod_simple_143 (by decide) ?_
                        refine lv_iconst (v := 1) hx hb d_Mod_simple_399 (by decide) ?_
                        exact tw_zret E hS (u86.1, u86.2.1, u86.2.2.1, u86.2.2.2) (by decide) (⟨(by decide), (fun h => (fun h => (fun h => h) (hp83_0 h)) (hp86_0 h)), (by first | omega | (dsimp only <;> omega)), hp86_2⟩) hP hD d_Mod_simple_400
                      · have hT132 := hB84.2 (hB84.1.resolve_left h132)
                        refine lv_iconst (v := 1) hx hb d_Mod_simple_135 (by decide) ?_
                        refine lv_goto (tgt := 140) hx hb d_Mod_simple_136 (by decide) ?_
                        refine tw_wv (wr := [((q 2), aI g 600 bs), ((q 14), aI g 620 tg), ((q 33), aI g 160 lo)]) (tw_runV (ws := [(h0, .inr (10, mob q rf n mm mb u83.1 u83.2 av ev wi mn tp tc sc nf fd me mp xn mt wh tq ag an ig)), ((q 2), aI g 600 bs), ((q 14), aI g 620 tg), ((q 32), aI g 160 sk), ((q 33), aI g 160 lo), ((q 47), aI g 128 nw)]) (wc := [(h0, .inr (10, mob q rf n mm mb u83.1 u83.2 av ev wi mn tp tc sc nf fd me mp xn mt wh tq ag an ig)), ((q 32), aI g 160 sk), ((q 47), aI g 128 nw)]) (As := [.int 1]) (rest := []) E hB hK hZ (g_Mod_give l g H.size h0 q rf n mm mb av ev wi mn tp tc sc nf fd me mp xn mt wh ag an ig sk u83.1 u83.2 tq nw 1 s1 hNW (by omega) (by omega) hsk (by omega) (fun _ => by decide)) mc_Mod_give mi_Mod_give me_Mod_give wd_1648 hP hD hS hA [0, 3, 5] rfl (by decide) 0 rfl rfl rfl rfl rfl (by decide) rfl hl.1 rfl (Nat.le_of_ble_eq_true rfl) (by decide) d_Mod_simple_140) hP hD hS hA [0, 3, 5] [1, 2, 4] rfl rfl (by decide) (by decide) (fun u88 H locs hr87 hP hD hS => ?_)
                        try dsimp only at hr87
                        have hP : va_P g.1 classes [((q 2), aI g 600 bs), ((q 14), aI g 620 tg), ((q 33), aI g 160 lo), (h0, .inr (10, mob q rf n mm mb u88.1 u88.2.1 av ev wi mn tp tc sc nf fd me mp xn mt wh u88.2.2.1 ag an ig)), ((q 32), aI g 160 sk), ((q 47), aI g 128 u88.2.2.2)] H := hP
                        have hD : va_D A [((q 2), aI g 600 bs), ((q 14), aI g 620 tg), ((q 33), aI g 160 lo), (h0, .inr (10, mob q rf n mm mb u88.1 u88.2.1 av ev wi mn tp tc sc nf fd me mp xn mt wh u88.2.2.1 ag an ig)), ((q 32), aI g 160 sk), ((q 47), aI g 128 u88.2.2.2)] := hD
                        have hP : va_P g.1 classes [(h0, .inr (10, mob q rf n mm mb u88.1 u88.2.1 av ev wi mn tp tc sc nf fd me mp xn mt wh u88.2.2.1 ag an ig)), ((q 2), aI g 600 bs), ((q 14), aI g 620 tg), ((q 32), aI g 160 sk), ((q 33), aI g 160 lo), ((q 47), aI g 128 u88.2.2.2)] H := hP.sub [3, 0, 1, 4, 2, 5] rfl
                        have hD : va_D A [(h0, .inr (10, mob q rf n mm mb u88.1 u88.2.1 av ev wi mn tp tc sc nf fd me mp xn mt wh u88.2.2.1 ag an ig)), ((q 2), aI g 600 bs), ((q 14), aI g 620 tg), ((q 32), aI g 160 sk), ((q 33), aI g 160 lo), ((q 47), aI g 128 u88.2.2.2)] := hD.sub [3, 0, 1, 4, 2, 5] (by decide) rfl
                        obtain ⟨hp88_0, hp88_1, hp88_2⟩ := hr87
                        refine lv_goto (tgt := 399) hx hb d_Mod_simple_143 (by decide) ?_
                        refine lv_iconst (v := 1) hx hb d_Mod_simple_399 (by decide) ?_
                        exact tw_zret E hS (u88.1, u88.2.1, u88.2.2.1, u88.2.2.2) (by decide) (⟨(by decide), (fun h => (fun h => (fun h => h) (hp83_0 h)) (hp88_0 h)), (by first | omega | (dsimp only <;> omega)), hp88_2⟩) hP hD d_Mod_simple_400
              · refine lv_aload_n hx hb d_Mod_simple_83 rfl (lv_at hl 1 rfl) ?_
                refine lv_iconst (v := 2) hx hb d_Mod_simple_84 (by decide) ?_
                refine tw_wv (wr := [((q 2), aI g 600 bs), ((q 14), aI g 620 tg), ((q 33), aI g 160 lo)]) (tw_runV (ws := [(h0, .inr (10, mob q rf n mm mb fa fp av ev wi mn tp tc sc nf fd me mp xn mt wh tq ag an ig)), ((q 2), aI g 600 bs), ((q 14), aI g 620 tg), ((q 32), aI g 160 sk), ((q 33), aI g 160 lo), ((q 47), aI g 128 nw)]) (wc := [(h0, .inr (10, mob q rf n mm mb fa fp av ev wi mn tp tc sc nf fd me mp xn mt wh tq ag an ig)), ((q 32), aI g 160 sk), ((q 47), aI g 128 nw)]) (As := [.int 2]) (rest := []) E hB hK hZ (g_Mod_give l g H.size h0 q rf n mm mb av ev wi mn tp tc sc nf fd me mp xn mt wh ag an ig sk fa fp tq nw 2 s1 hNW (by omega) (by omega) hsk (by omega) (fun _ => by decide)) mc_Mod_give mi_Mod_give me_Mod_give wd_1648 hP hD hS hA [0, 3, 5] rfl (by decide) 0 rfl rfl rfl rfl rfl (by decide) rfl hl.1 rfl (Nat.le_of_ble_eq_true rfl) (by decide) d_Mod_simple_85) hP hD hS hA [0, 3, 5] [1, 2, 4] rfl rfl (by decide) (by decide) (fun u90 H locs hr89 hP hD hS => ?_)
                try dsimp only at hr89
                have hP : va_P g.1 classes [((q 2), aI g 600 bs), ((q 14), aI g 620 tg), ((q 33), aI g 160 lo), (h0, .inr (10, mob q rf n mm mb u90.1 u90.2.1 av ev wi mn tp tc sc nf fd me mp xn mt wh u90.2.2.1 ag an ig)), ((q 32), aI g 160 sk), ((q 47), aI g 128 u90.2.2.2)] H := hP
                have hD : va_D A [((q 2), aI g 600 bs), ((q 14), aI g 620 tg), ((q 33), aI g 160 lo), (h0, .inr (10, mob q rf n mm mb u90.1 u90.2.1 av ev wi mn tp tc sc nf fd me mp xn mt wh u90.2.2.1 ag an ig)), ((q 32), aI g 160 sk), ((q 47), aI g 128 u90.2.2.2)] := hD
                have hP : va_P g.1 classes [(h0, .inr (10, mob q rf n mm mb u90.1 u90.2.1 av ev wi mn tp tc sc nf fd me mp xn mt wh u90.2.2.1 ag an ig)), ((q 2), aI g 600 bs), ((q 14), aI g 620 tg), ((q 32), aI g 160 sk), ((q 33), aI g 160 lo), ((q 47), aI g 128 u90.2.2.2)] H := hP.sub [3, 0, 1, 4, 2, 5] rfl
                have hD : va_D A [(h0, .inr (10, mob q rf n mm mb u90.1 u90.2.1 av ev wi mn tp tc sc nf fd me mp xn mt wh u90.2.2.1 ag an ig)), ((q 2), aI g 600 bs), ((q 14), aI g 620 tg), ((q 32), aI g 160 sk), ((q 33), aI g 160 lo), ((q 47), aI g 128 u90.2.2.2)] := hD.sub [3, 0, 1, 4, 2, 5] (by decide) rfl
                obtain ⟨hp90_0, hp90_1, hp90_2⟩ := hr89
                refine lv_goto (tgt := 399) hx hb d_Mod_simple_88 (by decide) ?_
                refine lv_iconst (v := 1) hx hb d_Mod_simple_399 (by decide) ?_
                exact tw_zret E hS (u90.1, u90.2.1, u90.2.2.1, u90.2.2.2) (by decide) (⟨(by decide), (fun h => (fun h => h) (hp90_0 h)), (by first | omega | (dsimp only <;> omega)), hp90_2⟩) hP hD d_Mod_simple_400
          · refine lv_aload_n hx hb d_Mod_simple_63 rfl (lv_at hl 1 rfl) ?_
            refine lv_iconst (v := 1) hx hb d_Mod_simple_64 (by decide) ?_
            refine tw_wv (wr := [((q 2), aI g 600 bs), ((q 14), aI g 620 tg), ((q 33), aI g 160 lo)]) (tw_runV (ws := [(h0, .inr (10, mob q rf n mm mb fa fp av ev wi mn tp tc sc nf fd me mp xn mt wh tq ag an ig)), ((q 2), aI g 600 bs), ((q 14), aI g 620 tg), ((q 32), aI g 160 sk), ((q 33), aI g 160 lo), ((q 47), aI g 128 nw)]) (wc := [(h0, .inr (10, mob q rf n mm mb fa fp av ev wi mn tp tc sc nf fd me mp xn mt wh tq ag an ig)), ((q 32), aI g 160 sk), ((q 47), aI g 128 nw)]) (As := [.int 1]) (rest := []) E hB hK hZ (g_Mod_give l g H.size h0 q rf n mm mb av ev wi mn tp tc sc nf fd me mp xn mt wh ag an ig sk fa fp tq nw 1 s1 hNW (by omega) (by omega) hsk (by omega) (fun _ => by decide)) mc_Mod_give mi_Mod_give me_Mod_give wd_1648 hP hD hS hA [0, 3, 5] rfl (by decide) 0 rfl rfl rfl rfl rfl (by decide) rfl hl.1 rfl (Nat.le_of_ble_eq_true rfl) (by decide) d_Mod_simple_65) hP hD hS hA [0, 3, 5] [1, 2, 4] rfl rfl (by decide) (by decide) (fun u92 H locs hr91 hP hD hS => ?_)
            try dsimp only at hr91
            have hP : va_P g.1 classes [((q 2), aI g 600 bs), ((q 14), aI g 620 tg), ((q 33), aI g 160 lo), (h0, .inr (10, mob q rf n mm mb u92.1 u92.2.1 av ev wi mn tp tc sc nf fd me mp xn mt wh u92.2.2.1 ag an ig)), ((q 32), aI g 160 sk), ((q 47), aI g 128 u92.2.2.2)] H := hP
            have hD : va_D A [((q 2), aI g 600 bs), ((q 14), aI g 620 tg), ((q 33), aI g 160 lo), (h0, .inr (10, mob q rf n mm mb u92.1 u92.2.1 av ev wi mn tp tc sc nf fd me mp xn mt wh u92.2.2.1 ag an ig)), ((q 32), aI g 160 sk), ((q 47), aI g 128 u92.2.2.2)] := hD
            have hP : va_P g.1 classes [(h0, .inr (10, mob q rf n mm mb u92.1 u92.2.1 av ev wi mn tp tc sc nf fd me mp xn mt wh u92.2.2.1 ag an ig)), ((q 2), aI g 600 bs), ((q 14), aI g 620 tg), ((q 32), aI g 160 sk), ((q 33), aI g 160 lo), ((q 47), aI g 128 u92.2.2.2)] H := hP.sub [3, 0, 1, 4, 2, 5] rfl
            have hD : va_D A [(h0, .inr (10, mob q rf n mm mb u92.1 u92.2.1 av ev wi mn tp tc sc nf fd me mp xn mt wh u92.2.2.1 ag an ig)), ((q 2), aI g 600 bs), ((q 14), aI g 620 tg), ((q 32), aI g 160 sk), ((q 33), aI g 160 lo), ((q 47), aI g 128 u92.2.2.2)] := hD.sub [3, 0, 1, 4, 2, 5] (by decide) rfl
            obtain ⟨hp92_0, hp92_1, hp92_2⟩ := hr91
            refine lv_goto (tgt := 399) hx hb d_Mod_simple_68 (by decide) ?_
            refine lv_iconst (v := 1) hx hb d_Mod_simple_399 (by decide) ?_
            exact tw_zret E hS (u92.1, u92.2.1, u92.2.2.1, u92.2.2.2) (by decide) (⟨(by decide), (fun h => (fun h => h) (hp92_0 h)), (by first | omega | (dsimp only <;> omega)), hp92_2⟩) hP hD d_Mod_simple_400
    · refine lv_aload_n hx hb d_Mod_simple_33 rfl (lv_at hl 1 rfl) ?_
      refine lv_iconst (v := 4) hx hb d_Mod_simple_34 (by decide) ?_
      refine tw_wv (wr := [((q 2), aI g 600 bs), ((q 14), aI g 620 tg), ((q 33), aI g 160 lo)]) (tw_runV (ws := [(h0, .inr (10, mob q rf n mm mb fa fp av ev wi mn tp tc sc nf fd me mp xn mt wh tq ag an ig)), ((q 2), aI g 600 bs), ((q 14), aI g 620 tg), ((q 32), aI g 160 sk), ((q 33), aI g 160 lo), ((q 47), aI g 128 nw)]) (wc := [(h0, .inr (10, mob q rf n mm mb fa fp av ev wi mn tp tc sc nf fd me mp xn mt wh tq ag an ig)), ((q 32), aI g 160 sk), ((q 47), aI g 128 nw)]) (As := [.int 4]) (rest := []) E hB hK hZ (g_Mod_give l g H.size h0 q rf n mm mb av ev wi mn tp tc sc nf fd me mp xn mt wh ag an ig sk fa fp tq nw 4 s1 hNW (by omega) (by omega) hsk (by omega) (fun _ => by decide)) mc_Mod_give mi_Mod_give me_Mod_give wd_1648 hP hD hS hA [0, 3, 5] rfl (by decide) 0 rfl rfl rfl rfl rfl (by decide) rfl hl.1 rfl (Nat.le_of_ble_eq_true rfl) (by decide) d_Mod_simple_35) hP hD hS hA [0, 3, 5] [1, 2, 4] rfl rfl (by decide) (by decide) (fun u94 H locs hr93 hP hD hS => ?_)
      try dsimp only at hr93
      have hP : va_P g.1 classes [((q 2), aI g 600 bs), ((q 14), aI g 620 tg), ((q 33), aI g 160 lo), (h0, .inr (10, mob q rf n mm mb u94.1 u94.2.1 av ev wi mn tp tc sc nf fd me mp xn mt wh u94.2.2.1 ag an ig)), ((q 32), aI g 160 sk), ((q 47), aI g 128 u94.2.2.2)] H := hP
      have hD : va_D A [((q 2), aI g 600 bs), ((q 14), aI g 620 tg), ((q 33), aI g 160 lo), (h0, .inr (10, mob q rf n mm mb u94.1 u94.2.1 av ev wi mn tp tc sc nf fd me mp xn mt wh u94.2.2.1 ag an ig)), ((q 32), aI g 160 sk), ((q 47), aI g 128 u94.2.2.2)] := hD
      have hP : va_P g.1 classes [(h0, .inr (10, mob q rf n mm mb u94.1 u94.2.1 av ev wi mn tp tc sc nf fd me mp xn mt wh u94.2.2.1 ag an ig)), ((q 2), aI g 600 bs), ((q 14), aI g 620 tg), ((q 32), aI g 160 sk), ((q 33), aI g 160 lo), ((q 47), aI g 128 u94.2.2.2)] H := hP.sub [3, 0, 1, 4, 2, 5] rfl
      have hD : va_D A [(h0, .inr (10, mob q rf n mm mb u94.1 u94.2.1 av ev wi mn tp tc sc nf fd me mp xn mt wh u94.2.2.1 ag an ig)), ((q 2), aI g 600 bs), ((q 14), aI g 620 tg), ((q 32), aI g 160 sk), ((q 33), aI g 160 lo), ((q 47), aI g 128 u94.2.2.2)] := hD.sub [3, 0, 1, 4, 2, 5] (by decide) rfl
      obtain ⟨hp94_0, hp94_1, hp94_2⟩ := hr93
      refine lv_goto (tgt := 399) hx hb d_Mod_simple_38 (by decide) ?_
      refine lv_iconst (v := 1) hx hb d_Mod_simple_399 (by decide) ?_
      exact tw_zret E hS (u94.1, u94.2.1, u94.2.2.1, u94.2.2.2) (by decide) (⟨(by decide), (fun h => (fun h => h) (hp94_0 h)), (by first | omega | (dsimp only <;> omega)), hp94_2⟩) hP hD d_Mod_simple_400
  · have h9 := tn_nle (a := 600) h9 (by decide) (by omega)
    have hbt := bt_lt hbs (i := wh + 1) (by omega)
    refine lv_aload_n hx hb d_Mod_simple_12 rfl (lv_at hl 0 rfl) ?_
    refine va_get (D := g.1) (ci := 10) (v := .ref (q 2)) (C := R_Mod) (T := F_Mod) (N := 61) hx hb hts in_Mod hown hK hP 0 rfl rfl 2 (by decide) (hts _ wd_1252) (fun _ h9 => h9) rfl d_Mod_simple_13 ?_
    refine lv_aload_n hx hb d_Mod_simple_16 rfl (lv_at hl 0 rfl) ?_
    refine va_get (D := g.1) (ci := 10) (v := .int (nI wh)) (C := R_Mod) (T := F_Mod) (N := 61) hx hb hts in_Mod hown hK hP 0 rfl rfl 45 (by decide) (hts _ wd_1295) (fun _ h9 => h9) rfl d_Mod_simple_17 ?_
    refine lv_iconst (v := 1) hx hb d_Mod_simple_20 (by decide) ?_
    refine lv_iadd hx hb d_Mod_simple_21 ?_
    refine tw_ri (e2 := nI (wh + 1)) (nI_add wh 1) ?_
    refine va_iald hx hb hK hP 1 0 rfl rfl (vp_in_nI (by omega) (by decide)) d_Mod_simple_22 ?_
    refine tw_ri (e2 := nI (bt bs (wh + 1))) (by rw [nI_clamp (by omega)]; exact bt_eq hbs (by omega)) ?_
    refine lv_goto (tgt := 27) hx hb d_Mod_simple_23 (by decide) ?_
    refine lv_istore_n hx hb d_Mod_simple_27 rfl hl (by decide) rfl (fun ls hl => ?_)
    have hl : lv_has ls 3 [(2, .int (nI (bt bs (wh + 1)))), (0, .ref h0), (1, .int (nI cn))] := hl
    refine lv_iload_n hx hb d_Mod_simple_28 rfl (lv_at hl 2 rfl) ?_
    refine lv_iconst (v := 1) hx hb d_Mod_simple_29 (by decide) ?_
    refine lv_icmp_ne (tgt := 41) hx hb d_Mod_simple_30 (by decide) (fun h30 => ?_) (fun h30 => ?_)
    · refine lv_iload_n hx hb d_Mod_simple_41 rfl (lv_at hl 2 rfl) ?_
      refine lv_iconst (v := 2) hx hb d_Mod_simple_42 (by decide) ?_
      refine lv_bipush (v := 8) hx hb d_Mod_simple_43 (by decide) ?_
      refine tw_si (tw_runS (ws := [(h0, .inr (10, mob q rf n mm mb fa fp av ev wi mn tp tc sc nf fd me mp xn mt wh tq ag an ig)), ((q 2), aI g 600 bs), ((q 14), aI g 620 tg), ((q 32), aI g 160 sk), ((q 33), aI g 160 lo), ((q 47), aI g 128 nw)]) (wc := []) (As := [.int (nI cn), .int 2, .int 8]) (rest := []) E hB hK hZ (c_Mod_isIn l g H.size (nI cn) 2 8) mc_Mod_isIn ms_Mod_isIn wd_1443 hP hD hS hA [] rfl (by decide) rfl rfl (by decide) rfl hl.1 rfl (Nat.le_of_ble_eq_true rfl) (by decide) d_Mod_simple_45) (fun r95 hr95 => ?_)
      obtain rfl : r95 = is_in (nI cn) 2 8 := hr95
      refine lv_if_ne (tgt := 63) hx hb d_Mod_simple_48 (by decide) (fun h48 => ?_) (fun h48 => ?_)
      · refine lv_aload_n hx hb d_Mod_simple_63 rfl (lv_at hl 1 rfl) ?_
        refine lv_iconst (v := 1) hx hb d_Mod_simple_64 (by decide) ?_
        refine tw_wv (wr := [((q 2), aI g 600 bs), ((q 14), aI g 620 tg), ((q 33), aI g 160 lo)]) (tw_runV (ws := [(h0, .inr (10, mob q rf n mm mb fa fp av ev wi mn tp tc sc nf fd me mp xn mt wh tq ag an ig)), ((q 2), aI g 600 bs), ((q 14), aI g 620 tg), ((q 32), aI g 160 sk), ((q 33), aI g 160 lo), ((q 47), aI g 128 nw)]) (wc := [(h0, .inr (10, mob q rf n mm mb fa fp av ev wi mn tp tc sc nf fd me mp xn mt wh tq ag an ig)), ((q 32), aI g 160 sk), ((q 47), aI g 128 nw)]) (As := [.int 1]) (rest := []) E hB hK hZ (g_Mod_give l g H.size h0 q rf n mm mb av ev wi mn tp tc sc nf fd me mp xn mt wh ag an ig sk fa fp tq nw 1 s1 hNW (by omega) (by omega) hsk (by omega) (fun _ => by decide)) mc_Mod_give mi_Mod_give me_Mod_give wd_1648 hP hD hS hA [0, 3, 5] rfl (by decide) 0 rfl rfl rfl rfl rfl (by decide) rfl hl.1 rfl (Nat.le_of_ble_eq_true rfl) (by decide) d_Mod_simple_65) hP hD hS hA [0, 3, 5] [1, 2, 4] rfl rfl (by decide) (by decide) (fun u97 H locs hr96 hP hD hS => ?_)
        try dsimp only at hr96
        have hP : va_P g.1 classes [((q 2), aI g 600 bs), ((q 14), aI g 620 tg), ((q 33), aI g 160 lo), (h0, .inr (10, mob q rf n mm mb u97.1 u97.2.1 av ev wi mn tp tc sc nf fd me mp xn mt wh u97.2.2.1 ag an ig)), ((q 32), aI g 160 sk), ((q 47), aI g 128 u97.2.2.2)] H := hP
        have hD : va_D A [((q 2), aI g 600 bs), ((q 14), aI g 620 tg), ((q 33), aI g 160 lo), (h0, .inr (10, mob q rf n mm mb u97.1 u97.2.1 av ev wi mn tp tc sc nf fd me mp xn mt wh u97.2.2.1 ag an ig)), ((q 32), aI g 160 sk), ((q 47), aI g 128 u97.2.2.2)] := hD
        have hP : va_P g.1 classes [(h0, .inr (10, mob q rf n mm mb u97.1 u97.2.1 av ev wi mn tp tc sc nf fd me mp xn mt wh u97.2.2.1 ag an ig)), ((q 2), aI g 600 bs), ((q 14), aI g 620 tg), ((q 32), aI g 160 sk), ((q 33), aI g 160 lo), ((q 47), aI g 128 u97.2.2.2)] H := hP.sub [3, 0, 1, 4, 2, 5] rfl
        have hD : va_D A [(h0, .inr (10, mob q rf n mm mb u97.1 u97.2.1 av ev wi mn tp tc sc nf fd me mp xn mt wh u97.2.2.1 ag an ig)), ((q 2), aI g 600 bs), ((q 14), aI g 620 tg), ((q 32), aI g 160 sk), ((q 33), aI g 160 lo), ((q 47), aI g 128 u97.2.2.2)] := hD.sub [3, 0, 1, 4, 2, 5] (by decide) rfl
        obtain ⟨hp97_0, hp97_1, hp97_2⟩ := hr96
        refine lv_goto (tgt := 399) hx hb d_Mod_simple_68 (by decide) ?_
        refine lv_iconst (v := 1) hx hb d_Mod_simple_399 (by decide) ?_
        exact tw_zret E hS (u97.1, u97.2.1, u97.2.2.1, u97.2.2.2) (by decide) (⟨(by decide), (fun h => (fun h => h) (hp97_0 h)), (by first | omega | (dsimp only <;> omega)), hp97_2⟩) hP hD d_Mod_simple_400
      · refine lv_iload_n hx hb d_Mod_simple_51 rfl (lv_at hl 2 rfl) ?_
        refine lv_bipush (v := 16) hx hb d_Mod_simple_52 (by decide) ?_
        refine lv_icmp_eq (tgt := 63) hx hb d_Mod_simple_54 (by decide) (fun h54 => ?_) (fun h54 => ?_)
        · refine lv_aload_n hx hb d_Mod_simple_63 rfl (lv_at hl 1 rfl) ?_
          refine lv_iconst (v := 1) hx hb d_Mod_simple_64 (by decide) ?_
          refine tw_wv (wr := [((q 2), aI g 600 bs), ((q 14), aI g 620 tg), ((q 33), aI g 160 lo)]) (tw_runV (ws := [(h0, .inr (10, mob q rf n mm mb fa fp av ev wi mn tp tc sc nf fd me mp xn mt wh tq ag an ig)), ((q 2), aI g 600 bs), ((q 14), aI g 620 tg), ((q 32), aI g 160 sk), ((q 33), aI g 160 lo), ((q 47), aI g 128 nw)]) (wc := [(h0, .inr (10, mob q rf n mm mb fa fp av ev wi mn tp tc sc nf fd me mp xn mt wh tq ag an ig)), ((q 32), aI g 160 sk), ((q 47), aI g 128 nw)]) (As := [.int 1]) (rest := []) E hB hK hZ (g_Mod_give l g H.size h0 q rf n mm mb av ev wi mn tp tc sc nf fd me mp xn mt wh ag an ig sk fa fp tq nw 1 s1 hNW (by omega) (by omega) hsk (by omega) (fun _ => by decide)) mc_Mod_give mi_Mod_give me_Mod_give wd_1648 hP hD hS hA [0, 3, 5] rfl (by decide) 0 rfl rfl rfl rfl rfl (by decide) rfl hl.1 rfl (Nat.le_of_ble_eq_true rfl) (by decide) d_Mod_simple_65) hP hD hS hA [0, 3, 5] [1, 2, 4] rfl rfl (by decide) (by decide) (fun u99 H locs hr98 hP hD hS => ?_)
          try dsimp only at hr98
          have hP : va_P g.1 classes [((q 2), aI g 600 bs), ((q 14), aI g 620 tg), ((q 33), aI g 160 lo), (h0, .inr (10, mob q rf n mm mb u99.1 u99.2.1 av ev wi mn tp tc sc nf fd me mp xn mt wh u99.2.2.1 ag an ig)), ((q 32), aI g 160 sk), ((q 47), aI g 128 u99.2.2.2)] H := hP
          have hD : va_D A [((q 2), aI g 600 bs), ((q 14), aI g 620 tg), ((q 33), aI g 160 lo), (h0, .inr (10, mob q rf n mm mb u99.1 u99.2.1 av ev wi mn tp tc sc nf fd me mp xn mt wh u99.2.2.1 ag an ig)), ((q 32), aI g 160 sk), ((q 47), aI g 128 u99.2.2.2)] := hD
          have hP : va_P g.1 classes [(h0, .inr (10, mob q rf n mm mb u99.1 u99.2.1 av ev wi mn tp tc sc nf fd me mp xn mt wh u99.2.2.1 ag an ig)), ((q 2), aI g 600 bs), ((q 14), aI g 620 tg), ((q 32), aI g 160 sk), ((q 33), aI g 160 lo), ((q 47), aI g 128 u99.2.2.2)] H := hP.sub [3, 0, 1, 4, 2, 5] rfl
          have hD : va_D A [(h0, .inr (10, mob q rf n mm mb u99.1 u99.2.1 av ev wi mn tp tc sc nf fd me mp xn mt wh u99.2.2.1 ag an ig)), ((q 2), aI g 600 bs), ((q 14), aI g 620 tg), ((q 32), aI g 160 sk), ((q 33), aI g 160 lo), ((q 47), aI g 128 u99.2.2.2)] := hD.sub [3, 0, 1, 4, 2, 5] (by decide) rfl
          obtain ⟨hp99_0, hp99_1, hp99_2⟩ := hr98
          refine lv_goto (tgt := 399) hx hb d_Mod_simple_68 (by decide) ?_
          refine lv_iconst (v := 1) hx hb d_Mod_simple_399 (by decide) ?_
          exact tw_zret E hS (u99.1, u99.2.1, u99.2.2.1, u99.2.2.2) (by decide) (⟨(by decide), (fun h => (fun h => h) (hp99_0 h)), (by first | omega | (dsimp only <;> omega)), hp99_2⟩) hP hD d_Mod_simple_400
        · refine lv_iload_n hx hb d_Mod_simple_57 rfl (lv_at hl 2 rfl) ?_
          refine lv_bipush (v := 17) hx hb d_Mod_simple_58 (by decide) ?_
          refine lv_icmp_ne (tgt := 71) hx hb d_Mod_simple_60 (by decide) (fun h60 => ?_) (fun h60 => ?_)
          · refine lv_iload_n hx hb d_Mod_simple_71 rfl (lv_at hl 2 rfl) ?_
            refine lv_bipush (v := 9) hx hb d_Mod_simple_72 (by decide) ?_
            refine lv_icmp_eq (tgt := 83) hx hb d_Mod_simple_74 (by decide) (fun h74 => ?_) (fun h74 => ?_)
            · refine lv_aload_n hx hb d_Mod_simple_83 rfl (lv_at hl 1 rfl) ?_
              refine lv_iconst (v := 2) hx hb d_Mod_simple_84 (by decide) ?_
              refine tw_wv (wr := [((q 2), aI g 600 bs), ((q 14), aI g 620 tg), ((q 33), aI g 160 lo)]) (tw_runV (ws := [(h0, .inr (10, mob q rf n mm mb fa fp av ev wi mn tp tc sc nf fd me mp xn mt wh tq ag an ig)), ((q 2), aI g 600 bs), ((q 14), aI g 620 tg), ((q 32), aI g 160 sk), ((q 33), aI g 160 lo), ((q 47), aI g 128 nw)]) (wc := [(h0, .inr (10, mob q rf n mm mb fa fp av ev wi mn tp tc sc nf fd me mp xn mt wh tq ag an ig)), ((q 32), aI g 160 sk), ((q 47), aI g 128 nw)]) (As := [.int 2]) (rest := []) E hB hK hZ (g_Mod_give l g H.size h0 q rf n mm mb av ev wi mn tp tc sc nf fd me mp xn mt wh ag an ig sk fa fp tq nw 2 s1 hNW (by omega) (by omega) hsk (by omega) (fun _ => by decide)) mc_Mod_give mi_Mod_give me_Mod_give wd_1648 hP hD hS hA [0, 3, 5] rfl (by decide) 0 rfl rfl rfl rfl rfl (by decide) rfl hl.1 rfl (Nat.le_of_ble_eq_true rfl) (by decide) d_Mod_simple_85) hP hD hS hA [0, 3, 5] [1, 2, 4] rfl rfl (by decide) (by decide) (fun u101 H locs hr100 hP hD hS => ?_)
              try dsimp only at hr100
              have hP : va_P g.1 classes [((q 2), aI g 600 bs), ((q 14), aI g 620 tg), ((q 33), aI g 160 lo), (h0, .inr (10, mob q rf n mm mb u101.1 u101.2.1 av ev wi mn tp tc sc nf fd me mp xn mt wh u101.2.2.1 ag an ig)), ((q 32), aI g 160 sk), ((q 47), aI g 128 u101.2.2.2)] H := hP
              have hD : va_D A [((q 2), aI g 600 bs), ((q 14), aI g 620 tg), ((q 33), aI g 160 lo), (h0, .inr (10, mob q rf n mm mb u101.1 u101.2.1 av ev wi mn tp tc sc nf fd me mp xn mt wh u101.2.2.1 ag an ig)), ((q 32), aI g 160 sk), ((q 47), aI g 128 u101.2.2.2)] := hD
              have hP : va_P g.1 classes [(h0, .inr (10, mob q rf n mm mb u101.1 u101.2.1 av ev wi mn tp tc sc nf fd me mp xn mt wh u101.2.2.1 ag an ig)), ((q 2), aI g 600 bs), ((q 14), aI g 620 tg), ((q 32), aI g 160 sk), ((q 33), aI g 160 lo), ((q 47), aI g 128 u101.2.2.2)] H := hP.sub [3, 0, 1, 4, 2, 5] rfl
              have hD : va_D A [(h0, .inr (10, mob q rf n mm mb u101.1 u101.2.1 av ev wi mn tp tc sc nf fd me mp xn mt wh u101.2.2.1 ag an ig)), ((q 2), aI g 600 bs), ((q 14), aI g 620 tg), ((q 32), aI g 160 sk), ((q 33), aI g 160 lo), ((q 47), aI g 128 u101.2.2.2)] := hD.sub [3, 0, 1, 4, 2, 5] (by decide) rfl
              obtain ⟨hp101_0, hp101_1, hp101_2⟩ := hr100
              refine lv_goto (tgt := 399) hx hb d_Mod_simple_88 (by decide) ?_
              refine lv_iconst (v := 1) hx hb d_Mod_simple_399 (by decide) ?_
              exact tw_zret E hS (u101.1, u101.2.1, u101.2.2.1, u101.2.2.2) (by decide) (⟨(by decide), (fun h => (fun h => h) (hp101_0 h)), (by first | omega | (dsimp only <;> omega)), hp101_2⟩) hP hD d_Mod_simple_400
            · refine lv_iload_n hx hb d_Mod_simple_77 rfl (lv_at hl 2 rfl) ?_
              refine lv_bipush (v := 10) hx hb d_Mod_simple_78 (by decide) ?_
              refine lv_icmp_ne (tgt := 91) hx hb d_Mod_simple_80 (by decide) (fun h80 => ?_) (fun h80 => ?_)
              · refine lv_iload_n hx hb d_Mod_simple_91 rfl (lv_at hl 2 rfl) ?_
                refine lv_bipush (v := 18) hx hb d_Mod_simple_92 (by decide) ?_
                refine lv_icmp_ne (tgt := 146) hx hb d_Mod_simple_94 (by decide) (fun h94 => ?_) (fun h94 => ?_)
                · refine lv_iload_n hx hb d_Mod_simple_146 rfl (lv_at hl 2 rfl) ?_
                  refine lv_bipush (v := 20) hx hb d_Mod_simple_147 (by decide) ?_
                  refine lv_icmp_ne (tgt := 179) hx hb d_Mod_simple_149 (by decide) (fun h149 => ?_) (fun h149 => ?_)
                  · refine lv_iload_n hx hb d_Mod_simple_179 rfl (lv_at hl 2 rfl) ?_
                    refine lv_bipush (v := 21) hx hb d_Mod_simple_180 (by decide) ?_
                    refine lv_icmp_eq (tgt := 197) hx hb d_Mod_simple_182 (by decide) (fun h182 => ?_) (fun h182 => ?_)
                    · refine lv_aload_n hx hb d_Mod_simple_197 rfl (lv_at hl 1 rfl) ?_
                      refine lv_iload_n hx hb d_Mod_simple_198 rfl (lv_at hl 0 rfl) ?_
                      refine lv_iload_n hx hb d_Mod_simple_199 rfl (lv_at hl 2 rfl) ?_
                      refine lv_bipush (v := 21) hx hb d_Mod_simple_200 (by decide) ?_
                      refine lv_icmp_ne (tgt := 209) hx hb d_Mod_simple_202 (by decide) (fun h202 => ?_) (fun h202 => ?_)
                      · refine lv_iload_n hx hb d_Mod_simple_209 rfl (lv_at hl 2 rfl) ?_
                        refine lv_bipush (v := 22) hx hb d_Mod_simple_210 (by decide) ?_
                        refine lv_icmp_ne (tgt := 219) hx hb d_Mod_simple_212 (by decide) (fun h212 => ?_) (fun h212 => ?_)
                        · refine lv_iconst (v := 4) hx hb d_Mod_simple_219 (by decide) ?_
                          refine tw_wv (wr := [((q 2), aI g 600 bs), ((q 14), aI g 620 tg)]) (tw_runV (ws := [(h0, .inr (10, mob q rf n mm mb fa fp av ev wi mn tp tc sc nf fd me mp xn mt wh tq ag an ig)), ((q 2), aI g 600 bs), ((q 14), aI g 620 tg), ((q 32), aI g 160 sk), ((q 33), aI g 160 lo), ((q 47), aI g 128 nw)]) (wc := [(h0, .inr (10, mob q rf n mm mb fa fp av ev wi mn tp tc sc nf fd me mp xn mt wh tq ag an ig)), ((q 32), aI g 160 sk), ((q 33), aI g 160 lo), ((q 47), aI g 128 nw)]) (As := [.int (nI (bt bs (wh + 1))), .int 4]) (rest := []) E hB hK hZ (g_Mod_fetch l g H.size h0 q rf n mm mb av ev wi mn tp tc sc nf fd me mp xn mt wh ag an ig sk lo fa fp tq nw (bt bs (wh + 1)) 4 s1 o1 hNW (by omega) (by omega) hsk (by omega) hlo (by omega) (by omega) (by decide)) mc_Mod_fetch mi_Mod_fetch me_Mod_fetch wd_1656 hP hD hS hA [0, 3, 4, 5] rfl (by decide) 0 rfl rfl rfl rfl rfl (by decide) rfl hl.1 rfl (Nat.le_of_ble_eq_true rfl) (by decide) d_Mod_simple_220) hP hD hS hA [0, 3, 4, 5] [1, 2] rfl rfl (by decide) (by decide) (fun u103 H locs hr102 hP hD hS => ?_)
                          try dsimp only at hr102
                          have hP : va_P g.1 classes [((q 2), aI g 600 bs), ((q 14), aI g 620 tg), (h0, .inr (10, mob q rf n mm mb u103.1 u103.2.1 av ev wi mn tp tc sc nf fd me mp xn mt wh u103.2.2.1 ag an ig)), ((q 32), aI g 160 sk), ((q 33), aI g 160 lo), ((q 47), aI g 128 u103.2.2.2)] H := hP
                          have hD : va_D A [((q 2), aI g 600 bs), ((q 14), aI g 620 tg), (h0, .inr (10, mob q rf n mm mb u103.1 u103.2.1 av ev wi mn tp tc sc nf fd me mp xn mt wh u103.2.2.1 ag an ig)), ((q 32), aI g 160 sk), ((q 33), aI g 160 lo), ((q 47), aI g 128 u103.2.2.2)] := hD
                          have hP : va_P g.1 classes [(h0, .inr (10, mob q rf n mm mb u103.1 u103.2.1 av ev wi mn tp tc sc nf fd me mp xn mt wh u103.2.2.1 ag an ig)), ((q 2), aI g 600 bs), ((q 14), aI g 620 tg), ((q 32), aI g 160 sk), ((q 33), aI g 160 lo), ((q 47), aI g 128 u103.2.2.2)] H := hP.sub [2, 0, 1, 3, 4, 5] rfl
                          have hD : va_D A [(h0, .inr (10, mob q rf n mm mb u103.1 u103.2.1 av ev wi mn tp tc sc nf fd me mp xn mt wh u103.2.2.1 ag an ig)), ((q 2), aI g 600 bs), ((q 14), aI g 620 tg), ((q 32), aI g 160 sk), ((q 33), aI g 160 lo), ((q 47), aI g 128 u103.2.2.2)] := hD.sub [2, 0, 1, 3, 4, 5] (by decide) rfl
                          obtain ⟨hp103_0, hp103_1, hp103_2⟩ := hr102
                          refine lv_goto (tgt := 399) hx hb d_Mod_simple_223 (by decide) ?_
                          refine lv_iconst (v := 1) hx hb d_Mod_simple_399 (by decide) ?_
                          exact tw_zret E hS (u103.1, u103.2.1, u103.2.2.1, u103.2.2.2) (by decide) (⟨(by decide), (fun h => (fun h => h) (hp103_0 h)), (by first | omega | (dsimp only <;> omega)), hp103_2⟩) hP hD d_Mod_simple_400
                        · refine lv_iconst (v := 2) hx hb d_Mod_simple_215 (by decide) ?_
                          refine lv_goto (tgt := 220) hx hb d_Mod_simple_216 (by decide) ?_
                          refine tw_wv (wr := [((q 2), aI g 600 bs), ((q 14), aI g 620 tg)]) (tw_runV (ws := [(h0, .inr (10, mob q rf n mm mb fa fp av ev wi mn tp tc sc nf fd me mp xn mt wh tq ag an ig)), ((q 2), aI g 600 bs), ((q 14), aI g 620 tg), ((q 32), aI g 160 sk), ((q 33), aI g 160 lo), ((q 47), aI g 128 nw)]) (wc := [(h0, .inr (10, mob q rf n mm mb fa fp av ev wi mn tp tc sc nf fd me mp xn mt wh tq ag an ig)), ((q 32), aI g 160 sk), ((q 33), aI g 160 lo), ((q 47), aI g 128 nw)]) (As := [.int (nI (bt bs (wh + 1))), .int 2]) (rest := []) E hB hK hZ (g_Mod_fetch l g H.size h0 q rf n mm mb av ev wi mn tp tc sc nf fd me mp xn mt wh ag an ig sk lo fa fp tq nw (bt bs (wh + 1)) 2 s1 o1 hNW (by omega) (by omega) hsk (by omega) hlo (by omega) (by omega) (by decide)) mc_Mod_fetch mi_Mod_fetch me_Mod_fetch wd_1656 hP hD hS hA [0, 3, 4, 5] rfl (by decide) 0 rfl rfl rfl rfl rfl (by decide) rfl hl.1 rfl (Nat.le_of_ble_eq_true rfl) (by decide) d_Mod_simple_220) hP hD hS hA [0, 3, 4, 5] [1, 2] rfl rfl (by decide) (by decide) (fun u105 H locs hr104 hP hD hS => ?_)
                          try dsimp only at hr104
                          have hP : va_P g.1 classes [((q 2), aI g 600 bs), ((q 14), aI g 620 tg), (h0, .inr (10, mob q rf n mm mb u105.1 u105.2.1 av ev wi mn tp tc sc nf fd me mp xn mt wh u105.2.2.1 ag an ig)), ((q 32), aI g 160 sk), ((q 33), aI g 160 lo), ((q 47), aI g 128 u105.2.2.2)] H := hP
                          have hD : va_D A [((q 2), aI g 600 bs), ((q 14), aI g 620 tg), (h0, .inr (10, mob q rf n mm mb u105.1 u105.2.1 av ev wi mn tp tc sc nf fd me mp xn mt wh u105.2.2.1 ag an ig)), ((q 32), aI g 160 sk), ((q 33), aI g 160 lo), ((q 47), aI g 128 u105.2.2.2)] := hD
                          have hP : va_P g.1 classes [(h0, .inr (10, mob q rf n mm mb u105.1 u105.2.1 av ev wi mn tp tc sc nf fd me mp xn mt wh u105.2.2.1 ag an ig)), ((q 2), aI g 600 bs), ((q 14), aI g 620 tg), ((q 32), aI g 160 sk), ((q 33), aI g 160 lo), ((q 47), aI g 128 u105.2.2.2)] H := hP.sub [2, 0, 1, 3, 4, 5] rfl
                          have hD : va_D A [(h0, .inr (10, mob q rf n mm mb u105.1 u105.2.1 av ev wi mn tp tc sc nf fd me mp xn mt wh u105.2.2.1 ag an ig)), ((q 2), aI g 600 bs), ((q 14), aI g 620 tg), ((q 32), aI g 160 sk), ((q 33), aI g 160 lo), ((q 47), aI g 128 u105.2.2.2)] := hD.sub [2, 0, 1, 3, 4, 5] (by decide) rfl
                          obtain ⟨hp105_0, hp105_1, hp105_2⟩ := hr104
                          refine lv_goto (tgt := 399) hx hb d_Mod_simple_223 (by decide) ?_
                          refine lv_iconst (v := 1) hx hb d_Mod_simple_399 (by decide) ?_
                          exact tw_zret E hS (u105.1, u105.2.1, u105.2.2.1, u105.2.2.2) (by decide) (⟨(by decide), (fun h => (fun h => h) (hp105_0 h)), (by first | omega | (dsimp only <;> omega)), hp105_2⟩) hP hD d_Mod_simple_400
                      · refine lv_iconst (v := 1) hx hb d_Mod_simple_205 (by decide) ?_
                        refine lv_goto (tgt := 220) hx hb d_Mod_simple_206 (by decide) ?_
                        refine tw_wv (wr := [((q 2), aI g 600 bs), ((q 14), aI g 620 tg)]) (tw_runV (ws := [(h0, .inr (10, mob q rf n mm mb fa fp av ev wi mn tp tc sc nf fd me mp xn mt wh tq ag an ig)), ((q 2), aI g 600 bs), ((q 14), aI g 620 tg), ((q 32), aI g 160 sk), ((q 33), aI g 160 lo), ((q 47), aI g 128 nw)]) (wc := [(h0, .inr (10, mob q rf n mm mb fa fp av ev wi mn tp tc sc nf fd me mp xn mt wh tq ag an ig)), ((q 32), aI g 160 sk), ((q 33), aI g 160 lo), ((q 47), aI g 128 nw)]) (As := [.int (nI (bt bs (wh + 1))), .int 1]) (rest := []) E hB hK hZ (g_Mod_fetch l g H.size h0 q rf n mm mb av ev wi mn tp tc sc nf fd me mp xn mt wh ag an ig sk lo fa fp tq nw (bt bs (wh + 1)) 1 s1 o1 hNW (by omega) (by omega) hsk (by omega) hlo (by omega) (by omega) (by decide)) mc_Mod_fetch mi_Mod_fetch me_Mod_fetch wd_1656 hP hD hS hA [0, 3, 4, 5] rfl (by decide) 0 rfl rfl rfl rfl rfl (by decide) rfl hl.1 rfl (Nat.le_of_ble_eq_true rfl) (by decide) d_Mod_simple_220) hP hD hS hA [0, 3, 4, 5] [1, 2] rfl rfl (by decide) (by decide) (fun u107 H locs hr106 hP hD hS => ?_)
                        try dsimp only at hr106
                        have hP : va_P g.1 classes [((q 2), aI g 600 bs), ((q 14), aI g 620 tg), (h0, .inr (10, mob q rf n mm mb u107.1 u107.2.1 av ev wi mn tp tc sc nf fd me mp xn mt wh u107.2.2.1 ag an ig)), ((q 32), aI g 160 sk), ((q 33), aI g 160 lo), ((q 47), aI g 128 u107.2.2.2)] H := hP
                        have hD : va_D A [((q 2), aI g 600 bs), ((q 14), aI g 620 tg), (h0, .inr (10, mob q rf n mm mb u107.1 u107.2.1 av ev wi mn tp tc sc nf fd me mp xn mt wh u107.2.2.1 ag an ig)), ((q 32), aI g 160 sk), ((q 33), aI g 160 lo), ((q 47), aI g 128 u107.2.2.2)] := hD
                        have hP : va_P g.1 classes [(h0, .inr (10, mob q rf n mm mb u107.1 u107.2.1 av ev wi mn tp tc sc nf fd me mp xn mt wh u107.2.2.1 ag an ig)), ((q 2), aI g 600 bs), ((q 14), aI g 620 tg), ((q 32), aI g 160 sk), ((q 33), aI g 160 lo), ((q 47), aI g 128 u107.2.2.2)] H := hP.sub [2, 0, 1, 3, 4, 5] rfl
                        have hD : va_D A [(h0, .inr (10, mob q rf n mm mb u107.1 u107.2.1 av ev wi mn tp tc sc nf fd me mp xn mt wh u107.2.2.1 ag an ig)), ((q 2), aI g 600 bs), ((q 14), aI g 620 tg), ((q 32), aI g 160 sk), ((q 33), aI g 160 lo), ((q 47), aI g 128 u107.2.2.2)] := hD.sub [2, 0, 1, 3, 4, 5] (by decide) rfl
                        obtain ⟨hp107_0, hp107_1, hp107_2⟩ := hr106
                        refine lv_goto (tgt := 399) hx hb d_Mod_simple_223 (by decide) ?_
                        refine lv_iconst (v := 1) hx hb d_Mod_simple_399 (by decide) ?_
                        exact tw_zret E hS (u107.1, u107.2.1, u107.2.2.1, u107.2.2.2) (by decide) (⟨(by decide), (fun h => (fun h => h) (hp107_0 h)), (by first | omega | (dsimp only <;> omega)), hp107_2⟩) hP hD d_Mod_simple_400
                    · refine lv_iload_n hx hb d_Mod_simple_185 rfl (lv_at hl 2 rfl) ?_
                      refine lv_bipush (v := 22) hx hb d_Mod_simple_186 (by decide) ?_
                      refine lv_icmp_eq (tgt := 197) hx hb d_Mod_simple_188 (by decide) (fun h188 => ?_) (fun h188 => ?_)
                      · refine lv_aload_n hx hb d_Mod_simple_197 rfl (lv_at hl 1 rfl) ?_
                        refine lv_iload_n hx hb d_Mod_simple_198 rfl (lv_at hl 0 rfl) ?_
                        refine lv_iload_n hx hb d_Mod_simple_199 rfl (lv_at hl 2 rfl) ?_
                        refine lv_bipush (v := 21) hx hb d_Mod_simple_200 (by decide) ?_
                        refine lv_icmp_ne (tgt := 209) hx hb d_Mod_simple_202 (by decide) (fun h202 => ?_) (fun h202 => ?_)
                        · refine lv_iload_n hx hb d_Mod_simple_209 rfl (lv_at hl 2 rfl) ?_
                          refine lv_bipush (v := 22) hx hb d_Mod_simple_210 (by decide) ?_
                          refine lv_icmp_ne (tgt := 219) hx hb d_Mod_simple_212 (by decide) (fun h212 => ?_) (fun h212 => ?_)
                          · refine lv_iconst (v := 4) hx hb d_Mod_simple_219 (by decide) ?_
                            refine tw_wv (wr := [((q 2), aI g 600 bs), ((q 14), aI g 620 tg)]) (tw_runV (ws := [(h0, .inr (10, mob q rf n mm mb fa fp av ev wi mn tp tc sc nf fd me mp xn mt wh tq ag an ig)), ((q 2), aI g 600 bs), ((q 14), aI g 620 tg), ((q 32), aI g 160 sk), ((q 33), aI g 160 lo), ((q 47), aI g 128 nw)]) (wc := [(h0, .inr (10, mob q rf n mm mb fa fp av ev wi mn tp tc sc nf fd me mp xn mt wh tq ag an ig)), ((q 32), aI g 160 sk), ((q 33), aI g 160 lo), ((q 47), aI g 128 nw)]) (As := [.int (nI (bt bs (wh + 1))), .int 4]) (rest := []) E hB hK hZ (g_Mod_fetch l g H.size h0 q rf n mm mb av ev wi mn tp tc sc nf fd me mp xn mt wh ag an ig sk lo fa fp tq nw (bt bs (wh + 1)) 4 s1 o1 hNW (by omega) (by omega) hsk (by omega) hlo (by omega) (by omega) (by decide)) mc_Mod_fetch mi_Mod_fetch me_Mod_fetch wd_1656 hP hD hS hA [0, 3, 4, 5] rfl (by decide) 0 rfl rfl rfl rfl rfl (by decide) rfl hl.1 rfl (Nat.le_of_ble_eq_true rfl) (by decide) d_Mod_simple_220) hP hD hS hA [0, 3, 4, 5] [1, 2] rfl rfl (by decide) (by decide) (fun u109 H locs hr108 hP hD hS => ?_)
                            try dsimp only at hr108
                            have hP : va_P g.1 classes [((q 2), aI g 600 bs), ((q 14), aI g 620 tg), (h0, .inr (10, mob q rf n mm mb u109.1 u109.2.1 av ev wi mn tp tc sc nf fd me mp xn mt wh u109.2.2.1 ag an ig)), ((q 32), aI g 160 sk), ((q 33), aI g 160 lo), ((q 47), aI g 128 u109.2.2.2)] H := hP
                            have hD : va_D A [((q 2), aI g 600 bs), ((q 14), aI g 620 tg), (h0, .inr (10, mob q rf n mm mb u109.1 u109.2.1 av ev wi mn tp tc sc nf fd me mp xn mt wh u109.2.2.1 ag an ig)), ((q 32), aI g 160 sk), ((q 33), aI g 160 lo), ((q 47), aI g 128 u109.2.2.2)] := hD
                            have hP : va_P g.1 classes [(h0, .inr (10, mob q rf n mm mb u109.1 u109.2.1 av ev wi mn tp tc sc nf fd me mp xn mt wh u109.2.2.1 ag an ig)), ((q 2), aI g 600 bs), ((q 14), aI g 620 tg), ((q 32), aI g 160 sk), ((q 33), aI g 160 lo), ((q 47), aI g 128 u109.2.2.2)] H := hP.sub [2, 0, 1, 3, 4, 5] rfl
                            have hD : va_D A [(h0, .inr (10, mob q rf n mm mb u109.1 u109.2.1 av ev wi mn tp tc sc nf fd me mp xn mt wh u109.2.2.1 ag an ig)), ((q 2), aI g 600 bs), ((q 14), aI g 620 tg), ((q 32), aI g 160 sk), ((q 33), aI g 160 lo), ((q 47), aI g 128 u109.2.2.2)] := hD.sub [2, 0, 1, 3, 4, 5] (by decide) rfl
                            obtain ⟨hp109_0, hp109_1, hp109_2⟩ := hr108
                            refine lv_goto (tgt := 399) hx hb d_Mod_simple_223 (by decide) ?_
                            refine lv_iconst (v := 1) hx hb d_Mod_simple_399 (by decide) ?_
                            exact tw_zret E hS (u109.1, u109.2.1, u109.2.2.1, u109.2.2.2) (by decide) (⟨(by decide), (fun h => (fun h => h) (hp109_0 h)), (by first | omega | (dsimp only <;> omega)), hp109_2⟩) hP hD d_Mod_simple_400
                          · refine lv_iconst (v := 2) hx hb d_Mod_simple_215 (by decide) ?_
                            refine lv_goto (tgt := 220) hx hb d_Mod_simple_216 (by decide) ?_
                            refine tw_wv (wr := [((q 2), aI g 600 bs), ((q 14), aI g 620 tg)]) (tw_runV (ws := [(h0, .inr (10, mob q rf n mm mb fa fp av ev wi mn tp tc sc nf fd me mp xn mt wh tq ag an ig)), ((q 2), aI g 600 bs), ((q 14), aI g 620 tg), ((q 32), aI g 160 sk), ((q 33), aI g 160 lo), ((q 47), aI g 128 nw)]) (wc := [(h0, .inr (10, mob q rf n mm mb fa fp av ev wi mn tp tc sc nf fd me mp xn mt wh tq ag an ig)), ((q 32), aI g 160 sk), ((q 33), aI g 160 lo), ((q 47), aI g 128 nw)]) (As := [.int (nI (bt bs (wh + 1))), .int 2]) (rest := []) E hB hK hZ (g_Mod_fetch l g H.size h0 q rf n mm mb av ev wi mn tp tc sc nf fd me mp xn mt wh ag an ig sk lo fa fp tq nw (bt bs (wh + 1)) 2 s1 o1 hNW (by omega) (by omega) hsk (by omega) hlo (by omega) (by omega) (by decide)) mc_Mod_fetch mi_Mod_fetch me_Mod_fetch wd_1656 hP hD hS hA [0, 3, 4, 5] rfl (by decide) 0 rfl rfl rfl rfl rfl (by decide) rfl hl.1 rfl (Nat.le_of_ble_eq_true rfl) (by decide) d_Mod_simple_220) hP hD hS hA [0, 3, 4, 5] [1, 2] rfl rfl (by decide) (by decide) (fun u111 H locs hr110 hP hD hS => ?_)
                            try dsimp only at hr110
                            have hP : va_P g.1 classes [((q 2), aI g 600 bs), ((q 14), aI g 620 tg), (h0, .inr (10, mob q rf n mm mb u111.1 u111.2.1 av ev wi mn tp tc sc nf fd me mp xn mt wh u111.2.2.1 ag an ig)), ((q 32), aI g 160 sk), ((q 33), aI g 160 lo), ((q 47), aI g 128 u111.2.2.2)] H := hP
                            have hD : va_D A [((q 2), aI g 600 bs), ((q 14), aI g 620 tg), (h0, .inr (10, mob q rf n mm mb u111.1 u111.2.1 av ev wi mn tp tc sc nf fd me mp xn mt wh u111.2.2.1 ag an ig)), ((q 32), aI g 160 sk), ((q 33), aI g 160 lo), ((q 47), aI g 128 u111.2.2.2)] := hD
                            have hP : va_P g.1 classes [(h0, .inr (10, mob q rf n mm mb u111.1 u111.2.1 av ev wi mn tp tc sc nf fd me mp xn mt wh u111.2.2.1 ag an ig)), ((q 2), aI g 600 bs), ((q 14), aI g 620 tg), ((q 32), aI g 160 sk), ((q 33), aI g 160 lo), ((q 47), aI g 128 u111.2.2.2)] H := hP.sub [2, 0, 1, 3, 4, 5] rfl
                            have hD : va_D A [(h0, .inr (10, mob q rf n mm mb u111.1 u111.2.1 av ev wi mn tp tc sc nf fd me mp xn mt wh u111.2.2.1 ag an ig)), ((q 2), aI g 600 bs), ((q 14), aI g 620 tg), ((q 32), aI g 160 sk), ((q 33), aI g 160 lo), ((q 47), aI g 128 u111.2.2.2)] := hD.sub [2, 0, 1, 3, 4, 5] (by decide) rfl
                            obtain ⟨hp111_0, hp111_1, hp111_2⟩ := hr110
                            refine lv_goto (tgt := 399) hx hb d_Mod_simple_223 (by decide) ?_
                            refine lv_iconst (v := 1) hx hb d_Mod_simple_399 (by decide) ?_
                            exact tw_zret E hS (u111.1, u111.2.1, u111.2.2.1, u111.2.2.2) (by decide) (⟨(by decide), (fun h => (fun h => h) (hp111_0 h)), (by first | omega | (dsimp only <;> omega)), hp111_2⟩) hP hD d_Mod_simple_400
                        · refine lv_iconst (v := 1) hx hb d_Mod_simple_205 (by decide) ?_
                          refine lv_goto (tgt := 220) hx hb d_Mod_simple_206 (by decide) ?_
                          refine tw_wv (wr := [((q 2), aI g 600 bs), ((q 14), aI g 620 tg)]) (tw_runV (ws := [(h0, .inr (10, mob q rf n mm mb fa fp av ev wi mn tp tc sc nf fd me mp xn mt wh tq ag an ig)), ((q 2), aI g 600 bs), ((q 14), aI g 620 tg), ((q 32), aI g 160 sk), ((q 33), aI g 160 lo), ((q 47), aI g 128 nw)]) (wc := [(h0, .inr (10, mob q rf n mm mb fa fp av ev wi mn tp tc sc nf fd me mp xn mt wh tq ag an ig)), ((q 32), aI g 160 sk), ((q 33), aI g 160 lo), ((q 47), aI g 128 nw)]) (As := [.int (nI (bt bs (wh + 1))), .int 1]) (rest := []) E hB hK hZ (g_Mod_fetch l g H.size h0 q rf n mm mb av ev wi mn tp tc sc nf fd me mp xn mt wh ag an ig sk lo fa fp tq nw (bt bs (wh + 1)) 1 s1 o1 hNW (by omega) (by omega) hsk (by omega) hlo (by omega) (by omega) (by decide)) mc_Mod_fetch mi_Mod_fetch me_Mod_fetch wd_1656 hP hD hS hA [0, 3, 4, 5] rfl (by decide) 0 rfl rfl rfl rfl rfl (by decide) rfl hl.1 rfl (Nat.le_of_ble_eq_true rfl) (by decide) d_Mod_simple_220) hP hD hS hA [0, 3, 4, 5] [1, 2] rfl rfl (by decide) (by decide) (fun u113 H locs hr112 hP hD hS => ?_)
                          try dsimp only at hr112
                          have hP : va_P g.1 classes [((q 2), aI g 600 bs), ((q 14), aI g 620 tg), (h0, .inr (10, mob q rf n mm mb u113.1 u113.2.1 av ev wi mn tp tc sc nf fd me mp xn mt wh u113.2.2.1 ag an ig)), ((q 32), aI g 160 sk), ((q 33), aI g 160 lo), ((q 47), aI g 128 u113.2.2.2)] H := hP
                          have hD : va_D A [((q 2), aI g 600 bs), ((q 14), aI g 620 tg), (h0, .inr (10, mob q rf n mm mb u113.1 u113.2.1 av ev wi mn tp tc sc nf fd me mp xn mt wh u113.2.2.1 ag an ig)), ((q 32), aI g 160 sk), ((q 33), aI g 160 lo), ((q 47), aI g 128 u113.2.2.2)] := hD
                          have hP : va_P g.1 classes [(h0, .inr (10, mob q rf n mm mb u113.1 u113.2.1 av ev wi mn tp tc sc nf fd me mp xn mt wh u113.2.2.1 ag an ig)), ((q 2), aI g 600 bs), ((q 14), aI g 620 tg), ((q 32), aI g 160 sk), ((q 33), aI g 160 lo), ((q 47), aI g 128 u113.2.2.2)] H := hP.sub [2, 0, 1, 3, 4, 5] rfl
                          have hD : va_D A [(h0, .inr (10, mob q rf n mm mb u113.1 u113.2.1 av ev wi mn tp tc sc nf fd me mp xn mt wh u113.2.2.1 ag an ig)), ((q 2), aI g 600 bs), ((q 14), aI g 620 tg), ((q 32), aI g 160 sk), ((q 33), aI g 160 lo), ((q 47), aI g 128 u113.2.2.2)] := hD.sub [2, 0, 1, 3, 4, 5] (by decide) rfl
                          obtain ⟨hp113_0, hp113_1, hp113_2⟩ := hr112
                          refine lv_goto (tgt := 399) hx hb d_Mod_simple_223 (by decide) ?_
                          refine lv_iconst (v := 1) hx hb d_Mod_simple_399 (by decide) ?_
                          exact tw_zret E hS (u113.1, u113.2.1, u113.2.2.1, u113.2.2.2) (by decide) (⟨(by decide), (fun h => (fun h => h) (hp113_0 h)), (by first | omega | (dsimp only <;> omega)), hp113_2⟩) hP hD d_Mod_simple_400
                      · refine lv_iload_n hx hb d_Mod_simple_191 rfl (lv_at hl 2 rfl) ?_
                        refine lv_bipush (v := 25) hx hb d_Mod_simple_192 (by decide) ?_
                        refine lv_icmp_ne (tgt := 226) hx hb d_Mod_simple_194 (by decide) (fun h194 => ?_) (fun h194 => ?_)
                        · refine lv_iload_n hx hb d_Mod_simple_226 rfl (lv_at hl 2 rfl) ?_
                          refine lv_bipush (v := 26) hx hb d_Mod_simple_227 (by decide) ?_
                          refine lv_bipush (v := 33) hx hb d_Mod_simple_229 (by decide) ?_
                          refine tw_si (tw_runS (ws := [(h0, .inr (10, mob q rf n mm mb fa fp av ev wi mn tp tc sc nf fd me mp xn mt wh tq ag an ig)), ((q 2), aI g 600 bs), ((q 14), aI g 620 tg), ((q 32), aI g 160 sk), ((q 33), aI g 160 lo), ((q 47), aI g 128 nw)]) (wc := []) (As := [.int (nI cn), .int 26, .int 33]) (rest := []) E hB hK hZ (c_Mod_isIn l g H.size (nI cn) 26 33) mc_Mod_isIn ms_Mod_isIn wd_1443 hP hD hS hA [] rfl (by decide) rfl rfl (by decide) rfl hl.1 rfl (Nat.le_of_ble_eq_true rfl) (by decide) d_Mod_simple_231) (fun r114 hr114 => ?_)
                          obtain rfl : r114 = is_in (nI cn) 26 33 := hr114
                          refine lv_if_eq (tgt := 261) hx hb d_Mod_simple_234 (by decide) (fun h234 => ?_) (fun h234 => ?_)
                          · refine lv_iload_n hx hb d_Mod_simple_261 rfl (lv_at hl 2 rfl) ?_
                            refine lv_bipush (v := 42) hx hb d_Mod_simple_262 (by decide) ?_
                            refine lv_bipush (v := 45) hx hb d_Mod_simple_264 (by decide) ?_
                            refine tw_si (tw_runS (ws := [(h0, .inr (10, mob q rf n mm mb fa fp av ev wi mn tp tc sc nf fd me mp xn mt wh tq ag an ig)), ((q 2), aI g 600 bs), ((q 14), aI g 620 tg), ((q 32), aI g 160 sk), ((q 33), aI g 160 lo), ((q 47), aI g 128 nw)]) (wc := []) (As := [.int (nI cn), .int 42, .int 45]) (rest := []) E hB hK hZ (c_Mod_isIn l g H.size (nI cn) 42 45) mc_Mod_isIn ms_Mod_isIn wd_1443 hP hD hS hA [] rfl (by decide) rfl rfl (by decide) rfl hl.1 rfl (Nat.le_of_ble_eq_true rfl) (by decide) d_Mod_simple_266) (fun r115 hr115 => ?_)
                            obtain rfl : r115 = is_in (nI cn) 42 45 := hr115
                            refine lv_if_eq (tgt := 284) hx hb d_Mod_simple_269 (by decide) (fun h269 => ?_) (fun h269 => ?_)
                            · refine lv_iload_n hx hb d_Mod_simple_284 rfl (lv_at hl 2 rfl) ?_
                              refine lv_bipush (v := 54) hx hb d_Mod_simple_285 (by decide) ?_
                              refine lv_icmp_eq (tgt := 302) hx hb d_Mod_simple_287 (by decide) (fun h287 => ?_) (fun h287 => ?_)
                              · refine lv_aload_n hx hb d_Mod_simple_302 rfl (lv_at hl 1 rfl) ?_
                                refine lv_iload_n hx hb d_Mod_simple_303 rfl (lv_at hl 0 rfl) ?_
                                refine lv_iload_n hx hb d_Mod_simple_304 rfl (lv_at hl 2 rfl) ?_
                                refine lv_bipush (v := 54) hx hb d_Mod_simple_305 (by decide) ?_
                                refine lv_icmp_ne (tgt := 314) hx hb d_Mod_simple_307 (by decide) (fun h307 => ?_) (fun h307 => ?_)
                                · refine lv_iload_n hx hb d_Mod_simple_314 rfl (lv_at hl 2 rfl) ?_
                                  refine lv_bipush (v := 55) hx hb d_Mod_simple_315 (by decide) ?_
                                  refine lv_icmp_ne (tgt := 324) hx hb d_Mod_simple_317 (by decide) (fun h317 => ?_) (fun h317 => ?_)
                                  · refine lv_iconst (v := 4) hx hb d_Mod_simple_324 (by decide) ?_
                                    refine tw_wv (wr := [((q 2), aI g 600 bs), ((q 14), aI g 620 tg), ((q 32), aI g 160 sk)]) (tw_runV (ws := [(h0, .inr (10, mob q rf n mm mb fa fp av ev wi mn tp tc sc nf fd me mp xn mt wh tq ag an ig)), ((q 2), aI g 600 bs), ((q 14), aI g 620 tg), ((q 32), aI g 160 sk), ((q 33), aI g 160 lo), ((q 47), aI g 128 nw)]) (wc := [(h0, .inr (10, mob q rf n mm mb fa fp av ev wi mn tp tc sc nf fd me mp xn mt wh tq ag an ig)), ((q 33), aI g 160 lo), ((q 47), aI g 128 nw)]) (As := [.int (nI (bt bs (wh + 1))), .int 4]) (rest := []) E hB hK hZ (g_Mod_store l g H.size h0 q rf n mm mb av ev wi mn tp tc sc nf fd me mp xn mt wh ag an ig lo fa fp tq nw (bt bs (wh + 1)) 4 o1 hNW (by omega) (by omega) hlo (by omega) (by omega) (by decide)) mc_Mod_store mi_Mod_store me_Mod_store wd_1664 hP hD hS hA [0, 4, 5] rfl (by decide) 0 rfl rfl rfl rfl rfl (by decide) rfl hl.1 rfl (Nat.le_of_ble_eq_true rfl) (by decide) d_Mod_simple_325) hP hD hS hA [0, 4, 5] [1, 2, 3] rfl rfl (by decide) (by decide) (fun u117 H locs hr116 hP hD hS => ?_)
                                    try dsimp only at hr116
                                    have hP : va_P g.1 classes [((q 2), aI g 600 bs), ((q 14), aI g 620 tg), ((q 32), aI g 160 sk), (h0, .inr (10, mob q rf n mm mb u117.1 u117.2.1 av ev wi mn tp tc sc nf fd me mp xn mt wh u117.2.2.1 ag an ig)), ((q 33), aI g 160 lo), ((q 47), aI g 128 u117.2.2.2)] H := hP
                                    have hD : va_D A [((q 2), aI g 600 bs), ((q 14), aI g 620 tg), ((q 32), aI g 160 sk), (h0, .inr (10, mob q rf n mm mb u117.1 u117.2.1 av ev wi mn tp tc sc nf fd me mp xn mt wh u117.2.2.1 ag an ig)), ((q 33), aI g 160 lo), ((q 47), aI g 128 u117.2.2.2)] := hD
                                    have hP : va_P g.1 classes [(h0, .inr (10, mob q rf n mm mb u117.1 u117.2.1 av ev wi mn tp tc sc nf fd me mp xn mt wh u117.2.2.1 ag an ig)), ((q 2), aI g 600 bs), ((q 14), aI g 620 tg), ((q 32), aI g 160 sk), ((q 33), aI g 160 lo), ((q 47), aI g 128 u117.2.2.2)] H := hP.sub [3, 0, 1, 2, 4, 5] rfl
                                    have hD : va_D A [(h0, .inr (10, mob q rf n mm mb u117.1 u117.2.1 av ev wi mn tp tc sc nf fd me mp xn mt wh u117.2.2.1 ag an ig)), ((q 2), aI g 600 bs), ((q 14), aI g 620 tg), ((q 32), aI g 160 sk), ((q 33), aI g 160 lo), ((q 47), aI g 128 u117.2.2.2)] := hD.sub [3, 0, 1, 2, 4, 5] (by decide) rfl
                                    obtain ⟨hp117_0, hp117_1, hp117_2⟩ := hr116
                                    refine lv_goto (tgt := 399) hx hb d_Mod_simple_328 (by decide) ?_
                                    refine lv_iconst (v := 1) hx hb d_Mod_simple_399 (by decide) ?_
                                    exact tw_zret E hS (u117.1, u117.2.1, u117.2.2.1, u117.2.2.2) (by decide) (⟨(by decide), (fun h => (fun h => h) (hp117_0 h)), (by first | omega | (dsimp only <;> omega)), hp117_2⟩) hP hD d_Mod_simple_400
                                  · refine lv_iconst (v := 2) hx hb d_Mod_simple_320 (by decide) ?_
                                    refine lv_goto (tgt := 325) hx hb d_Mod_simple_321 (by decide) ?_
                                    refine tw_wv (wr := [((q 2), aI g 600 bs), ((q 14), aI g 620 tg), ((q 32), aI g 160 sk)]) (tw_runV (ws := [(h0, .inr (10, mob q rf n mm mb fa fp av ev wi mn tp tc sc nf fd me mp xn mt wh tq ag an ig)), ((q 2), aI g 600 bs), ((q 14), aI g 620 tg), ((q 32), aI g 160 sk), ((q 33), aI g 160 lo), ((q 47), aI g 128 nw)]) (wc := [(h0, .inr (10, mob q rf n mm mb fa fp av ev wi mn tp tc sc nf fd me mp xn mt wh tq ag an ig)), ((q 33), aI g 160 lo), ((q 47), aI g 128 nw)]) (As := [.int (nI (bt bs (wh + 1))), .int 2]) (rest := []) E hB hK hZ (g_Mod_store l g H.size h0 q rf n mm mb av ev wi mn tp tc sc nf fd me mp xn mt wh ag an ig lo fa fp tq nw (bt bs (wh + 1)) 2 o1 hNW (by omega) (by omega) hlo (by omega) (by omega) (by decide)) mc_Mod_store mi_Mod_store me_Mod_store wd_1664 hP hD hS hA [0, 4, 5] rfl (by decide) 0 rfl rfl rfl rfl rfl (by decide) rfl hl.1 rfl (Nat.le_of_ble_eq_true rfl) (by decide) d_Mod_simple_325) hP hD hS hA [0, 4, 5] [1, 2, 3] rfl rfl (by decide) (by decide) (fun u119 H locs hr118 hP hD hS => ?_)
                                    try dsimp only at hr118
                                    have hP : va_P g.1 classes [((q 2), aI g 600 bs), ((q 14), aI g 620 tg), ((q 32), aI g 160 sk), (h0, .inr (10, mob q rf n mm mb u119.1 u119.2.1 av ev wi mn tp tc sc nf fd me mp xn mt wh u119.2.2.1 ag an ig)), ((q 33), aI g 160 lo), ((q 47), aI g 128 u119.2.2.2)] H := hP
                                    have hD : va_D A [((q 2), aI g 600 bs), ((q 14), aI g 620 tg), ((q 32), aI g 160 sk), (h0, .inr (10, mob q rf n mm mb u119.1 u119.2.1 av ev wi mn tp tc sc nf fd me mp xn mt wh u119.2.2.1 ag an ig)), ((q 33), aI g 160 lo), ((q 47), aI g 128 u119.2.2.2)] := hD
                                    have hP : va_P g.1 classes [(h0, .inr (10, mob q rf n mm mb u119.1 u119.2.1 av ev wi mn tp tc sc nf fd me mp xn mt wh u119.2.2.1 ag an ig)), ((q 2), aI g 600 bs), ((q 14), aI g 620 tg), ((q 32), aI g 160 sk), ((q 33), aI g 160 lo), ((q 47), aI g 128 u119.2.2.2)] H := hP.sub [3, 0, 1, 2, 4, 5] rfl
                                    have hD : va_D A [(h0, .inr (10, mob q rf n mm mb u119.1 u119.2.1 av ev wi mn tp tc sc nf fd me mp xn mt wh u119.2.2.1 ag an ig)), ((q 2), aI g 600 bs), ((q 14), aI g 620 tg), ((q 32), aI g 160 sk), ((q 33), aI g 160 lo), ((q 47), aI g 128 u119.2.2.2)] := hD.sub [3, 0, 1, 2, 4, 5] (by decide) rfl
                                    obtain ⟨hp119_0, hp119_1, hp119_2⟩ := hr118
                                    refine lv_goto (tgt := 399) hx hb d_Mod_simple_328 (by decide) ?_
                                    refine lv_iconst (v := 1) hx hb d_Mod_simple_399 (by decide) ?_
                                    exact tw_zret E hS (u119.1, u119.2.1, u119.2.2.1, u119.2.2.2) (by decide) (⟨(by decide), (fun h => (fun h => h) (hp119_0 h)), (by first | omega | (dsimp only <;> omega)), hp119_2⟩) hP hD d_Mod_simple_400
                                · refine lv_iconst (v := 1) hx hb d_Mod_simple_310 (by decide) ?_
                                  refine lv_goto (tgt := 325) hx hb d_Mod_simple_311 (by decide) ?_
                                  refine tw_wv (wr := [((q 2), aI g 600 bs), ((q 14), aI g 620 tg), ((q 32), aI g 160 sk)]) (tw_runV (ws := [(h0, .inr (10, mob q rf n mm mb fa fp av ev wi mn tp tc sc nf fd me mp xn mt wh tq ag an ig)), ((q 2), aI g 600 bs), ((q 14), aI g 620 tg), ((q 32), aI g 160 sk), ((q 33), aI g 160 lo), ((q 47), aI g 128 nw)]) (wc := [(h0, .inr (10, mob q rf n mm mb fa fp av ev wi mn tp tc sc nf fd me mp xn mt wh tq ag an ig)), ((q 33), aI g 160 lo), ((q 47), aI g 128 nw)]) (As := [.int (nI (bt bs (wh + 1))), .int 1]) (rest := []) E hB hK hZ (g_Mod_store l g H.size h0 q rf n mm mb av ev wi mn tp tc sc nf fd me mp xn mt wh ag an ig lo fa fp tq nw (bt bs (wh + 1)) 1 o1 hNW (by omega) (by omega) hlo (by omega) (by omega) (by decide)) mc_Mod_store mi_Mod_store me_Mod_store wd_1664 hP hD hS hA [0, 4, 5] rfl (by decide) 0 rfl rfl rfl rfl rfl (by decide) rfl hl.1 rfl (Nat.le_of_ble_eq_true rfl) (by decide) d_Mod_simple_325) hP hD hS hA [0, 4, 5] [1, 2, 3] rfl rfl (by decide) (by decide) (fun u121 H locs hr120 hP hD hS => ?_)
                                  try dsimp only at hr120
                                  have hP : va_P g.1 classes [((q 2), aI g 600 bs), ((q 14), aI g 620 tg), ((q 32), aI g 160 sk), (h0, .inr (10, mob q rf n mm mb u121.1 u121.2.1 av ev wi mn tp tc sc nf fd me mp xn mt wh u121.2.2.1 ag an ig)), ((q 33), aI g 160 lo), ((q 47), aI g 128 u121.2.2.2)] H := hP
                                  have hD : va_D A [((q 2), aI g 600 bs), ((q 14), aI g 620 tg), ((q 32), aI g 160 sk), (h0, .inr (10, mob q rf n mm mb u121.1 u121.2.1 av ev wi mn tp tc sc nf fd me mp xn mt wh u121.2.2.1 ag an ig)), ((q 33), aI g 160 lo), ((q 47), aI g 128 u121.2.2.2)] := hD
                                  have hP : va_P g.1 classes [(h0, .inr (10, mob q rf n mm mb u121.1 u121.2.1 av ev wi mn tp tc sc nf fd me mp xn mt wh u121.2.2.1 ag an ig)), ((q 2), aI g 600 bs), ((q 14), aI g 620 tg), ((q 32), aI g 160 sk), ((q 33), aI g 160 lo), ((q 47), aI g 128 u121.2.2.2)] H := hP.sub [3, 0, 1, 2, 4, 5] rfl
                                  have hD : va_D A [(h0, .inr (10, mob q rf n mm mb u121.1 u121.2.1 av ev wi mn tp tc sc nf fd me mp xn mt wh u121.2.2.1 ag an ig)), ((q 2), aI g 600 bs), ((q 14), aI g 620 tg), ((q 32), aI g 160 sk), ((q 33), aI g 160 lo), ((q 47), aI g 128 u121.2.2.2)] := hD.sub [3, 0, 1, 2, 4, 5] (by decide) rfl
                                  obtain ⟨hp121_0, hp121_1, hp121_2⟩ := hr120
                                  refine lv_goto (tgt := 399) hx hb d_Mod_simple_328 (by decide) ?_
                                  refine lv_iconst (v := 1) hx hb d_Mod_simple_399 (by decide) ?_
                                  exact tw_zret E hS (u121.1, u121.2.1, u121.2.2.1, u121.2.2.2) (by decide) (⟨(by decide), (fun h => (fun h => h) (hp121_0 h)), (by first | omega | (dsimp only <;> omega)), hp121_2⟩) hP hD d_Mod_simple_400
                              · refine lv_iload_n hx hb d_Mod_simple_290 rfl (lv_at hl 2 rfl) ?_
                                refine lv_bipush (v := 55) hx hb d_Mod_simple_291 (by decide) ?_
                                refine lv_icmp_eq (tgt := 302) hx hb d_Mod_simple_293 (by decide) (fun h293 => ?_) (fun h293 => ?_)
                                · refine lv_aload_n hx hb d_Mod_simple_302 rfl (lv_at hl 1 rfl) ?_
                                  refine lv_iload_n hx hb d_Mod_simple_303 rfl (lv_at hl 0 rfl) ?_
                                  refine lv_iload_n hx hb d_Mod_simple_304 rfl (lv_at hl 2 rfl) ?_
                                  refine lv_bipush (v := 54) hx hb d_Mod_simple_305 (by decide) ?_
                                  refine lv_icmp_ne (tgt := 314) hx hb d_Mod_simple_307 (by decide) (fun h307 => ?_) (fun h307 => ?_)
                                  · refine lv_iload_n hx hb d_Mod_simple_314 rfl (lv_at hl 2 rfl) ?_
                                    refine lv_bipush (v := 55) hx hb d_Mod_simple_315 (by decide) ?_
                                    refine lv_icmp_ne (tgt := 324) hx hb d_Mod_simple_317 (by decide) (fun h317 => ?_) (fun h317 => ?_)
                                    · refine lv_iconst (v := 4) hx hb d_Mod_simple_324 (by decide) ?_
                                      refine tw_wv (wr := [((q 2), aI g 600 bs), ((q 14), aI g 620 tg), ((q 32), aI g 160 sk)]) (tw_runV (ws := [(h0, .inr (10, mob q rf n mm mb fa fp av ev wi mn tp tc sc nf fd me mp xn mt wh tq ag an ig)), ((q 2), aI g 600 bs), ((q 14), aI g 620 tg), ((q 32), aI g 160 sk), ((q 33), aI g 160 lo), ((q 47), aI g 128 nw)]) (wc := [(h0, .inr (10, mob q rf n mm mb fa fp av ev wi mn tp tc sc nf fd me mp xn mt wh tq ag an ig)), ((q 33), aI g 160 lo), ((q 47), aI g 128 nw)]) (As := [.int (nI (bt bs (wh + 1))), .int 4]) (rest := []) E hB hK hZ (g_Mod_store l g H.size h0 q rf n mm mb av ev wi mn tp tc sc nf fd me mp xn mt wh ag an ig lo fa fp tq nw (bt bs (wh + 1)) 4 o1 hNW (by omega) (by omega) hlo (by omega) (by omega) (by decide)) mc_Mod_store mi_Mod_store me_Mod_store wd_1664 hP hD hS hA [0, 4, 5] rfl (by decide) 0 rfl rfl rfl rfl rfl (by decide) rfl hl.1 rfl (Nat.le_of_ble_eq_true rfl) (by decide) d_Mod_simple_325) hP hD hS hA [0, 4, 5] [1, 2, 3] rfl rfl (by decide) (by decide) (fun u123 H locs hr122 hP hD hS => ?_)
                                      try dsimp only at hr122
                                      have hP : va_P g.1 classes [((q 2), aI g 600 bs), ((q 14), aI g 620 tg), ((q 32), aI g 160 sk), (h0, .inr (10, mob q rf n mm mb u123.1 u123.2.1 av ev wi mn tp tc sc nf fd me mp xn mt wh u123.2.2.1 ag an ig)), ((q 33), aI g 160 lo), ((q 47), aI g 128 u123.2.2.2)] H := hP
                                      have hD : va_D A [((q 2), aI g 600 bs), ((q 14), aI g 620 tg), ((q 32), aI g 160 sk), (h0, .inr (10, mob q rf n mm mb u123.1 u123.2.1 av ev wi mn tp tc sc nf fd me mp xn mt wh u123.2.2.1 ag an ig)), ((q 33), aI g 160 lo), ((q 47), aI g 128 u123.2.2.2)] := hD
                                      have hP : va_P g.1 classes [(h0, .inr (10, mob q rf n mm mb u123.1 u123.2.1 av ev wi mn tp tc sc nf fd me mp xn mt wh u123.2.2.1 ag an ig)), ((q 2), aI g 600 bs), ((q 14), aI g 620 tg), ((q 32), aI g 160 sk), ((q 33), aI g 160 lo), ((q 47), aI g 128 u123.2.2.2)] H := hP.sub [3, 0, 1, 2, 4, 5] rfl
                                      have hD : va_D A [(h0, .inr (10, mob q rf n mm mb u123.1 u123.2.1 av ev wi mn tp tc sc nf fd me mp xn mt wh u123.2.2.1 ag an ig)), ((q 2), aI g 600 bs), ((q 14), aI g 620 tg), ((q 32), aI g 160 sk), ((q 33), aI g 160 lo), ((q 47), aI g 128 u123.2.2.2)] := hD.sub [3, 0, 1, 2, 4, 5] (by decide) rfl
                                      obtain ⟨hp123_0, hp123_1, hp123_2⟩ := hr122
                                      refine lv_goto (tgt := 399) hx hb d_Mod_simple_328 (by decide) ?_
                                      refine lv_iconst (v := 1) hx hb d_Mod_simple_399 (by decide) ?_
                                      exact tw_zret E hS (u123.1, u123.2.1, u123.2.2.1, u123.2.2.2) (by decide) (⟨(by decide), (fun h => (fun h => h) (hp123_0 h)), (by first | omega | (dsimp only <;> omega)), hp123_2⟩) hP hD d_Mod_simple_400
                                    · refine lv_iconst (v := 2) hx hb d_Mod_simple_320 (by decide) ?_
                                      refine lv_goto (tgt := 325) hx hb d_Mod_simple_321 (by decide) ?_
                                      refine tw_wv (wr := [((q 2), aI g 600 bs), ((q 14), aI g 620 tg), ((q 32), aI g 160 sk)]) (tw_runV (ws := [(h0, .inr (10, mob q rf n mm mb fa fp av ev wi mn tp tc sc nf fd me mp xn mt wh tq ag an ig)), ((q 2), aI g 600 bs), ((q 14), aI g 620 tg), ((q 32), aI g 160 sk), ((q 33), aI g 160 lo), ((q 47), aI g 128 nw)]) (wc := [(h0, .inr (10, mob q rf n mm mb fa fp av ev wi mn tp tc sc nf fd me mp xn mt wh tq ag an ig)), ((q 33), aI g 160 lo), ((q 47), aI g 128 nw)]) (As := [.int (nI (bt bs (wh + 1))), .int 2]) (rest := []) E hB hK hZ (g_Mod_store l g H.size h0 q rf n mm mb av ev wi mn tp tc sc nf fd me mp xn mt wh ag an ig lo fa fp tq nw (bt bs (wh + 1)) 2 o1 hNW (by omega) (by omega) hlo (by omega) (by omega) (by decide)) mc_Mod_store mi_Mod_store me_Mod_store wd_1664 hP hD hS hA [0, 4, 5] rfl (by decide) 0 rfl rfl rfl rfl rfl (by decide) rfl hl.1 rfl (Nat.le_of_ble_eq_true rfl) (by decide) d_Mod_simple_325) hP hD hS hA [0, 4, 5] [1, 2, 3] rfl rfl (by decide) (by decide) (fun u125 H locs hr124 hP hD hS => ?_)
                                      try dsimp only at hr124
                                      have hP : va_P g.1 classes [((q 2), aI g 600 bs), ((q 14), aI g 620 tg), ((q 32), aI g 160 sk), (h0, .inr (10, mob q rf n mm mb u125.1 u125.2.1 av ev wi mn tp tc sc nf fd me mp xn mt wh u125.2.2.1 ag an ig)), ((q 33), aI g 160 lo), ((q 47), aI g 128 u125.2.2.2)] H := hP
                                      have hD : va_D A [((q 2), aI g 600 bs), ((q 14), aI g 620 tg), ((q 32), aI g 160 sk), (h0, .inr (10, mob q rf n mm mb u125.1 u125.2.1 av ev wi mn tp tc sc nf fd me mp xn mt wh u125.2.2.1 ag an ig)), ((q 33), aI g 160 lo), ((q 47), aI g 128 u125.2.2.2)] := hD
                                      have hP : va_P g.1 classes [(h0, .inr (10, mob q rf n mm mb u125.1 u125.2.1 av ev wi mn tp tc sc nf fd me mp xn mt wh u125.2.2.1 ag an ig)), ((q 2), aI g 600 bs), ((q 14), aI g 620 tg), ((q 32), aI g 160 sk), ((q 33), aI g 160 lo), ((q 47), aI g 128 u125.2.2.2)] H := hP.sub [3, 0, 1, 2, 4, 5] rfl
                                      have hD : va_D A [(h0, .inr (10, mob q rf n mm mb u125.1 u125.2.1 av ev wi mn tp tc sc nf fd me mp xn mt wh u125.2.2.1 ag an ig)), ((q 2), aI g 600 bs), ((q 14), aI g 620 tg), ((q 32), aI g 160 sk), ((q 33), aI g 160 lo), ((q 47), aI g 128 u125.2.2.2)] := hD.sub [3, 0, 1, 2, 4, 5] (by decide) rfl
                                      obtain ⟨hp125_0, hp125_1, hp125_2⟩ := hr124
                                      refine lv_goto (tgt := 399) hx hb d_Mod_simple_328 (by decide) ?_
                                      refine lv_iconst (v := 1) hx hb d_Mod_simple_399 (by decide) ?_
                                      exact tw_zret E hS (u125.1, u125.2.1, u125.2.2.1, u125.2.2.2) (by decide) (⟨(by decide), (fun h => (fun h => h) (hp125_0 h)), (by first | omega | (dsimp only <;> omega)), hp125_2⟩) hP hD d_Mod_simple_400
                                  · refine lv_iconst (v := 1) hx hb d_Mod_simple_310 (by decide) ?_
                                    refine lv_goto (tgt := 325) hx hb d_Mod_simple_311 (by decide) ?_
                                    refine tw_wv (wr := [((q 2), aI g 600 bs), ((q 14), aI g 620 tg), ((q 32), aI g 160 sk)]) (tw_runV (ws := [(h0, .inr (10, mob q rf n mm mb fa fp av ev wi mn tp tc sc nf fd me mp xn mt wh tq ag an ig)), ((q 2), aI g 600 bs), ((q 14), aI g 620 tg), ((q 32), aI g 160 sk), ((q 33), aI g 160 lo), ((q 47), aI g 128 nw)]) (wc := [(h0, .inr (10, mob q rf n mm mb fa fp av ev wi mn tp tc sc nf fd me mp xn mt wh tq ag an ig)), ((q 33), aI g 160 lo), ((q 47), aI g 128 nw)]) (As := [.int (nI (bt bs (wh + 1))), .int 1]) (rest := []) E hB hK hZ (g_Mod_store l g H.size h0 q rf n mm mb av ev wi mn tp tc sc nf fd me mp xn mt wh ag an ig lo fa fp tq nw (bt bs (wh + 1)) 1 o1 hNW (by omega) (by omega) hlo (by omega) (by omega) (by decide)) mc_Mod_store mi_Mod_store me_Mod_store wd_1664 hP hD hS hA [0, 4, 5] rfl (by decide) 0 rfl rfl rfl rfl rfl (by decide) rfl hl.1 rfl (Nat.le_of_ble_eq_true rfl) (by decide) d_Mod_simple_325) hP hD hS hA [0, 4, 5] [1, 2, 3] rfl rfl (by decide) (by decide) (fun u127 H locs hr126 hP hD hS => ?_)
                                    try dsimp only at hr126
                                    have hP : va_P g.1 classes [((q 2), aI g 600 bs), ((q 14), aI g 620 tg), ((q 32), aI g 160 sk), (h0, .inr (10, mob q rf n mm mb u127.1 u127.2.1 av ev wi mn tp tc sc nf fd me mp xn mt wh u127.2.2.1 ag an ig)), ((q 33), aI g 160 lo), ((q 47), aI g 128 u127.2.2.2)] H := hP
                                    have hD : va_D A [((q 2), aI g 600 bs), ((q 14), aI g 620 tg), ((q 32), aI g 160 sk), (h0, .inr (10, mob q rf n mm mb u127.1 u127.2.1 av ev wi mn tp tc sc nf fd me mp xn mt wh u127.2.2.1 ag an ig)), ((q 33), aI g 160 lo), ((q 47), aI g 128 u127.2.2.2)] := hD
                                    have hP : va_P g.1 classes [(h0, .inr (10, mob q rf n mm mb u127.1 u127.2.1 av ev wi mn tp tc sc nf fd me mp xn mt wh u127.2.2.1 ag an ig)), ((q 2), aI g 600 bs), ((q 14), aI g 620 tg), ((q 32), aI g 160 sk), ((q 33), aI g 160 lo), ((q 47), aI g 128 u127.2.2.2)] H := hP.sub [3, 0, 1, 2, 4, 5] rfl
                                    have hD : va_D A [(h0, .inr (10, mob q rf n mm mb u127.1 u127.2.1 av ev wi mn tp tc sc nf fd me mp xn mt wh u127.2.2.1 ag an ig)), ((q 2), aI g 600 bs), ((q 14), aI g 620 tg), ((q 32), aI g 160 sk), ((q 33), aI g 160 lo), ((q 47), aI g 128 u127.2.2.2)] := hD.sub [3, 0, 1, 2, 4, 5] (by decide) rfl
                                    obtain ⟨hp127_0, hp127_1, hp127_2⟩ := hr126
                                    refine lv_goto (tgt := 399) hx hb d_Mod_simple_328 (by decide) ?_
                                    refine lv_iconst (v := 1) hx hb d_Mod_simple_399 (by decide) ?_
                                    exact tw_zret E hS (u127.1, u127.2.1, u127.2.2.1, u127.2.2.2) (by decide) (⟨(by decide), (fun h => (fun h => h) (hp127_0 h)), (by first | omega | (dsimp only <;> omega)), hp127_2⟩) hP hD d_Mod_simple_400
                                · refine lv_iload_n hx hb d_Mod_simple_296 rfl (lv_at hl 2 rfl) ?_
                                  refine lv_bipush (v := 58) hx hb d_Mod_simple_297 (by decide) ?_
                                  refine lv_icmp_ne (tgt := 331) hx hb d_Mod_simple_299 (by decide) (fun h299 => ?_) (fun h299 => ?_)
                                  · refine lv_iload_n hx hb d_Mod_simple_331 rfl (lv_at hl 2 rfl) ?_
                                    refine lv_bipush (v := 59) hx hb d_Mod_simple_332 (by decide) ?_
                                    refine lv_bipush (v := 66) hx hb d_Mod_simple_334 (by decide) ?_
                                    refine tw_si (tw_runS (ws := [(h0, .inr (10, mob q rf n mm mb fa fp av ev wi mn tp tc sc nf fd me mp xn mt wh tq ag an ig)), ((q 2), aI g 600 bs), ((q 14), aI g 620 tg), ((q 32), aI g 160 sk), ((q 33), aI g 160 lo), ((q 47), aI g 128 nw)]) (wc := []) (As := [.int (nI cn), .int 59, .int 66]) (rest := []) E hB hK hZ (c_Mod_isIn l g H.size (nI cn) 59 66) mc_Mod_isIn ms_Mod_isIn wd_1443 hP hD hS hA [] rfl (by decide) rfl rfl (by decide) rfl hl.1 rfl (Nat.le_of_ble_eq_true rfl) (by decide) d_Mod_simple_336) (fun r128 hr128 => ?_)
                                    obtain rfl : r128 = is_in (nI cn) 59 66 := hr128
                                    refine lv_if_eq (tgt := 366) hx hb d_Mod_simple_339 (by decide) (fun h339 => ?_) (fun h339 => ?_)
                                    · refine lv_iload_n hx hb d_Mod_simple_366 rfl (lv_at hl 2 rfl) ?_
                                      refine lv_bipush (v := 75) hx hb d_Mod_simple_367 (by decide) ?_
                                      refine lv_bipush (v := 78) hx hb d_Mod_simple_369 (by decide) ?_
                                      refine tw_si (tw_runS (ws := [(h0, .inr (10, mob q rf n mm mb fa fp av ev wi mn tp tc sc nf fd me mp xn mt wh tq ag an ig)), ((q 2), aI g 600 bs), ((q 14), aI g 620 tg), ((q 32), aI g 160 sk), ((q 33), aI g 160 lo), ((q 47), aI g 128 nw)]) (wc := []) (As := [.int (nI cn), .int 75, .int 78]) (rest := []) E hB hK hZ (c_Mod_isIn l g H.size (nI cn) 75 78) mc_Mod_isIn ms_Mod_isIn wd_1443 hP hD hS hA [] rfl (by decide) rfl rfl (by decide) rfl hl.1 rfl (Nat.le_of_ble_eq_true rfl) (by decide) d_Mod_simple_371) (fun r129 hr129 => ?_)
                                      obtain rfl : r129 = is_in (nI cn) 75 78 := hr129
                                      refine lv_if_eq (tgt := 389) hx hb d_Mod_simple_374 (by decide) (fun h374 => ?_) (fun h374 => ?_)
                                      · refine lv_iload_n hx hb d_Mod_simple_389 rfl (lv_at hl 2 rfl) ?_
                                        refine lv_if_ne (tgt := 397) hx hb d_Mod_simple_390 (by decide) (fun h390 => ?_) (fun h390 => ?_)
                                        · refine lv_iconst (v := 0) hx hb d_Mod_simple_397 (by decide) ?_
                                          exact tw_zret E hS (fa, fp, tq, nw) (by decide) (⟨(by decide), (fun h => h), (by first | omega | (dsimp only <;> omega)), hNW⟩) hP hD d_Mod_simple_398
                                        · refine lv_iconst (v := 1) hx hb d_Mod_simple_393 (by decide) ?_
                                          refine lv_goto (tgt := 398) hx hb d_Mod_simple_394 (by decide) ?_
                                          exact tw_zret E hS (fa, fp, tq, nw) (by decide) (⟨(by decide), (fun h => h), (by first | omega | (dsimp only <;> omega)), hNW⟩) hP hD d_Mod_simple_398
                                      · obtain ⟨i1, i2⟩ := is_inN h374
                                        have i1 := tn_nlt (b := 75) i1 (by omega) (by decide)
                                        have i2 := tn_nlt (a := 78) i2 (by decide) (by omega)
                                        refine lv_aload_n hx hb d_Mod_simple_377 rfl (lv_at hl 1 rfl) ?_
                                        refine lv_iload_n hx hb d_Mod_simple_378 rfl (lv_at hl 2 rfl) ?_
                                        refine lv_bipush (v := 75) hx hb d_Mod_simple_379 (by decide) ?_
                                        refine lv_isub hx hb d_Mod_simple_381 ?_
                                        refine tw_ri (e2 := nI (cn - 75)) (pk_sub (b := 75) (by omega)) ?_
                                        refine lv_iconst (v := 4) hx hb d_Mod_simple_382 (by decide) ?_
                                        refine tw_wv (wr := [((q 2), aI g 600 bs), ((q 14), aI g 620 tg), ((q 32), aI g 160 sk)]) (tw_runV (ws := [(h0, .inr (10, mob q rf n mm mb fa fp av ev wi mn tp tc sc nf fd me mp xn mt wh tq ag an ig)), ((q 2), aI g 600 bs), ((q 14), aI g 620 tg), ((q 32), aI g 160 sk), ((q 33), aI g 160 lo), ((q 47), aI g 128 nw)]) (wc := [(h0, .inr (10, mob q rf n mm mb fa fp av ev wi mn tp tc sc nf fd me mp xn mt wh tq ag an ig)), ((q 33), aI g 160 lo), ((q 47), aI g 128 nw)]) (As := [.int (nI (cn - 75)), .int 4]) (rest := []) E hB hK hZ (g_Mod_store l g H.size h0 q rf n mm mb av ev wi mn tp tc sc nf fd me mp xn mt wh ag an ig lo fa fp tq nw (cn - 75) 4 o1 hNW (by omega) (by omega) hlo (by omega) (by omega) (by decide)) mc_Mod_store mi_Mod_store me_Mod_store wd_1664 hP hD hS hA [0, 4, 5] rfl (by decide) 0 rfl rfl rfl rfl rfl (by decide) rfl hl.1 rfl (Nat.le_of_ble_eq_true rfl) (by decide) d_Mod_simple_383) hP hD hS hA [0, 4, 5] [1, 2, 3] rfl rfl (by decide) (by decide) (fun u131 H locs hr130 hP hD hS => ?_)
                                        try dsimp only at hr130
                                        have hP : va_P g.1 classes [((q 2), aI g 600 bs), ((q 14), aI g 620 tg), ((q 32), aI g 160 sk), (h0, .inr (10, mob q rf n mm mb u131.1 u131.2.1 av ev wi mn tp tc sc nf fd me mp xn mt wh u131.2.2.1 ag an ig)), ((q 33), aI g 160 lo), ((q 47), aI g 128 u131.2.2.2)] H := hP
                                        have hD : va_D A [((q 2), aI g 600 bs), ((q 14), aI g 620 tg), ((q 32), aI g 160 sk), (h0, .inr (10, mob q rf n mm mb u131.1 u131.2.1 av ev wi mn tp tc sc nf fd me mp xn mt wh u131.2.2.1 ag an ig)), ((q 33), aI g 160 lo), ((q 47), aI g 128 u131.2.2.2)] := hD
                                        have hP : va_P g.1 classes [(h0, .inr (10, mob q rf n mm mb u131.1 u131.2.1 av ev wi mn tp tc sc nf fd me mp xn mt wh u131.2.2.1 ag an ig)), ((q 2), aI g 600 bs), ((q 14), aI g 620 tg), ((q 32), aI g 160 sk), ((q 33), aI g 160 lo), ((q 47), aI g 128 u131.2.2.2)] H := hP.sub [3, 0, 1, 2, 4, 5] rfl
                                        have hD : va_D A [(h0, .inr (10, mob q rf n mm mb u131.1 u131.2.1 av ev wi mn tp tc sc nf fd me mp xn mt wh u131.2.2.1 ag an ig)), ((q 2), aI g 600 bs), ((q 14), aI g 620 tg), ((q 32), aI g 160 sk), ((q 33), aI g 160 lo), ((q 47), aI g 128 u131.2.2.2)] := hD.sub [3, 0, 1, 2, 4, 5] (by decide) rfl
                                        obtain ⟨hp131_0, hp131_1, hp131_2⟩ := hr130
                                        refine lv_goto (tgt := 399) hx hb d_Mod_simple_386 (by decide) ?_
                                        refine lv_iconst (v := 1) hx hb d_Mod_simple_399 (by decide) ?_
                                        exact tw_zret E hS (u131.1, u131.2.1, u131.2.2.1, u131.2.2.2) (by decide) (⟨(by decide), (fun h => (fun h => h) (hp131_0 h)), (by first | omega | (dsimp only <;> omega)), hp131_2⟩) hP hD d_Mod_simple_400
                                    · obtain ⟨i1, i2⟩ := is_inN h339
                                      have i1 := tn_nlt (b := 59) i1 (by omega) (by decide)
                                      have i2 := tn_nlt (a := 66) i2 (by decide) (by omega)
                                      refine lv_aload_n hx hb d_Mod_simple_342 rfl (lv_at hl 1 rfl) ?_
                                      refine lv_iload_n hx hb d_Mod_simple_343 rfl (lv_at hl 2 rfl) ?_
                                      refine lv_bipush (v := 59) hx hb d_Mod_simple_344 (by decide) ?_
                                      refine lv_isub hx hb d_Mod_simple_346 ?_
                                      refine tw_ri (e2 := nI (cn - 59)) (pk_sub (b := 59) (by omega)) ?_
                                      refine lv_iconst (v := 4) hx hb d_Mod_simple_347 (by decide) ?_
                                      refine lv_irem hx hb d_Mod_simple_348 (by decide) ?_
                                      refine tw_ri (e2 := nI ((cn - 59) % 4)) (nI_mod4 _ (by omega)) ?_
                                      refine lv_iload_n hx hb d_Mod_simple_349 rfl (lv_at hl 2 rfl) ?_
                                      refine lv_bipush (v := 63) hx hb d_Mod_simple_350 (by decide) ?_
                                      refine lv_icmp_ge (tgt := 359) hx hb d_Mod_simple_352 (by decide) (fun h352 => ?_) (fun h352 => ?_)
                                      · refine lv_iconst (v := 2) hx hb d_Mod_simple_359 (by decide) ?_
                                        refine tw_wv (wr := [((q 2), aI g 600 bs), ((q 14), aI g 620 tg), ((q 32), aI g 160 sk)]) (tw_runV (ws := [(h0, .inr (10, mob q rf n mm mb fa fp av ev wi mn tp tc sc nf fd me mp xn mt wh tq ag an ig)), ((q 2), aI g 600 bs), ((q 14), aI g 620 tg), ((q 32), aI g 160 sk), ((q 33), aI g 160 lo), ((q 47), aI g 128 nw)]) (wc := [(h0, .inr (10, mob q rf n mm mb fa fp av ev wi mn tp tc sc nf fd me mp xn mt wh tq ag an ig)), ((q 33), aI g 160 lo), ((q 47), aI g 128 nw)]) (As := [.int (nI ((cn - 59) % 4)), .int 2]) (rest := []) E hB hK hZ (g_Mod_store l g H.size h0 q rf n mm mb av ev wi mn tp tc sc nf fd me mp xn mt wh ag an ig lo fa fp tq nw ((cn - 59) % 4) 2 o1 hNW (by omega) (by omega) hlo (by omega) (by omega) (by decide)) mc_Mod_store mi_Mod_store me_Mod_store wd_1664 hP hD hS hA [0, 4, 5] rfl (by decide) 0 rfl rfl rfl rfl rfl (by decide) rfl hl.1 rfl (Nat.le_of_ble_eq_true rfl) (by decide) d_Mod_simple_360) hP hD hS hA [0, 4, 5] [1, 2, 3] rfl rfl (by decide) (by decide) (fun u133 H locs hr132 hP hD hS => ?_)
                                        try dsimp only at hr132
                                        have hP : va_P g.1 classes [((q 2), aI g 600 bs), ((q 14), aI g 620 tg), ((q 32), aI g 160 sk), (h0, .inr (10, mob q rf n mm mb u133.1 u133.2.1 av ev wi mn tp tc sc nf fd me mp xn mt wh u133.2.2.1 ag an ig)), ((q 33), aI g 160 lo), ((q 47), aI g 128 u133.2.2.2)] H := hP
                                        have hD : va_D A [((q 2), aI g 600 bs), ((q 14), aI g 620 tg), ((q 32), aI g 160 sk), (h0, .inr (10, mob q rf n mm mb u133.1 u133.2.1 av ev wi mn tp tc sc nf fd me mp xn mt wh u133.2.2.1 ag an ig)), ((q 33), aI g 160 lo), ((q 47), aI g 128 u133.2.2.2)] := hD
                                        have hP : va_P g.1 classes [(h0, .inr (10, mob q rf n mm mb u133.1 u133.2.1 av ev wi mn tp tc sc nf fd me mp xn mt wh u133.2.2.1 ag an ig)), ((q 2), aI g 600 bs), ((q 14), aI g 620 tg), ((q 32), aI g 160 sk), ((q 33), aI g 160 lo), ((q 47), aI g 128 u133.2.2.2)] H := hP.sub [3, 0, 1, 2, 4, 5] rfl
                                        have hD : va_D A [(h0, .inr (10, mob q rf n mm mb u133.1 u133.2.1 av ev wi mn tp tc sc nf fd me mp xn mt wh u133.2.2.1 ag an ig)), ((q 2), aI g 600 bs), ((q 14), aI g 620 tg), ((q 32), aI g 160 sk), ((q 33), aI g 160 lo), ((q 47), aI g 128 u133.2.2.2)] := hD.sub [3, 0, 1, 2, 4, 5] (by decide) rfl
                                        obtain ⟨hp133_0, hp133_1, hp133_2⟩ := hr132
                                        refine lv_goto (tgt := 399) hx hb d_Mod_simple_363 (by decide) ?_
                                        refine lv_iconst (v := 1) hx hb d_Mod_simple_399 (by decide) ?_
                                        exact tw_zret E hS (u133.1, u133.2.1, u133.2.2.1, u133.2.2.2) (by decide) (⟨(by decide), (fun h => (fun h => h) (hp133_0 h)), (by first | omega | (dsimp only <;> omega)), hp133_2⟩) hP hD d_Mod_simple_400
                                      · refine lv_iconst (v := 1) hx hb d_Mod_simple_355 (by decide) ?_
                                        refine lv_goto (tgt := 360) hx hb d_Mod_simple_356 (by decide) ?_
                                        refine tw_wv (wr := [((q 2), aI g 600 bs), ((q 14), aI g 620 tg), ((q 32), aI g 160 sk)]) (tw_runV (ws := [(h0, .inr (10, mob q rf n mm mb fa fp av ev wi mn tp tc sc nf fd me mp xn mt wh tq ag an ig)), ((q 2), aI g 600 bs), ((q 14), aI g 620 tg), ((q 32), aI g 160 sk), ((q 33), aI g 160 lo), ((q 47), aI g 128 nw)]) (wc := [(h0, .inr (10, mob q rf n mm mb fa fp av ev wi mn tp tc sc nf fd me mp xn mt wh tq ag an ig)), ((q 33), aI g 160 lo), ((q 47), aI g 128 nw)]) (As := [.int (nI ((cn - 59) % 4)), .int 1]) (rest := []) E hB hK hZ (g_Mod_store l g H.size h0 q rf n mm mb av ev wi mn tp tc sc nf fd me mp xn mt wh ag an ig lo fa fp tq nw ((cn - 59) % 4) 1 o1 hNW (by omega) (by omega) hlo (by omega) (by omega) (by decide)) mc_Mod_store mi_Mod_store me_Mod_store wd_1664 hP hD hS hA [0, 4, 5] rfl (by decide) 0 rfl rfl rfl rfl rfl (by decide) rfl hl.1 rfl (Nat.le_of_ble_eq_true rfl) (by decide) d_Mod_simple_360) hP hD hS hA [0, 4, 5] [1, 2, 3] rfl rfl (by decide) (by decide) (fun u135 H locs hr134 hP hD hS => ?_)
                                        try dsimp only at hr134
                                        have hP : va_P g.1 classes [((q 2), aI g 600 bs), ((q 14), aI g 620 tg), ((q 32), aI g 160 sk), (h0, .inr (10, mob q rf n mm mb u135.1 u135.2.1 av ev wi mn tp tc sc nf fd me mp xn mt wh u135.2.2.1 ag an ig)), ((q 33), aI g 160 lo), ((q 47), aI g 128 u135.2.2.2)] H := hP
                                        have hD : va_D A [((q 2), aI g 600 bs), ((q 14), aI g 620 tg), ((q 32), aI g 160 sk), (h0, .inr (10, mob q rf n mm mb u135.1 u135.2.1 av ev wi mn tp tc sc nf fd me mp xn mt wh u135.2.2.1 ag an ig)), ((q 33), aI g 160 lo), ((q 47), aI g 128 u135.2.2.2)] := hD
                                        have hP : va_P g.1 classes [(h0, .inr (10, mob q rf n mm mb u135.1 u135.2.1 av ev wi mn tp tc sc nf fd me mp xn mt wh u135.2.2.1 ag an ig)), ((q 2), aI g 600 bs), ((q 14), aI g 620 tg), ((q 32), aI g 160 sk), ((q 33), aI g 160 lo), ((q 47), aI g 128 u135.2.2.2)] H := hP.sub [3, 0, 1, 2, 4, 5] rfl
                                        have hD : va_D A [(h0, .inr (10, mob q rf n mm mb u135.1 u135.2.1 av ev wi mn tp tc sc nf fd me mp xn mt wh u135.2.2.1 ag an ig)), ((q 2), aI g 600 bs), ((q 14), aI g 620 tg), ((q 32), aI g 160 sk), ((q 33), aI g 160 lo), ((q 47), aI g 128 u135.2.2.2)] := hD.sub [3, 0, 1, 2, 4, 5] (by decide) rfl
                                        obtain ⟨hp135_0, hp135_1, hp135_2⟩ := hr134
                                        refine lv_goto (tgt := 399) hx hb d_Mod_simple_363 (by decide) ?_
                                        refine lv_iconst (v := 1) hx hb d_Mod_simple_399 (by decide) ?_
                                        exact tw_zret E hS (u135.1, u135.2.1, u135.2.2.1, u135.2.2.2) (by decide) (⟨(by decide), (fun h => (fun h => h) (hp135_0 h)), (by first | omega | (dsimp only <;> omega)), hp135_2⟩) hP hD d_Mod_simple_400
                                  · refine lv_aload_n hx hb d_Mod_simple_302 rfl (lv_at hl 1 rfl) ?_
                                    refine lv_iload_n hx hb d_Mod_simple_303 rfl (lv_at hl 0 rfl) ?_
                                    refine lv_iload_n hx hb d_Mod_simple_304 rfl (lv_at hl 2 rfl) ?_
                                    refine lv_bipush (v := 54) hx hb d_Mod_simple_305 (by decide) ?_
                                    refine lv_icmp_ne (tgt := 314) hx hb d_Mod_simple_307 (by decide) (fun h307 => ?_) (fun h307 => ?_)
                                    · refine lv_iload_n hx hb d_Mod_simple_314 rfl (lv_at hl 2 rfl) ?_
                                      refine lv_bipush (v := 55) hx hb d_Mod_simple_315 (by decide) ?_
                                      refine lv_icmp_ne (tgt := 324) hx hb d_Mod_simple_317 (by decide) (fun h317 => ?_) (fun h317 => ?_)
                                      · refine lv_iconst (v := 4) hx hb d_Mod_simple_324 (by decide) ?_
                                        refine tw_wv (wr := [((q 2), aI g 600 bs), ((q 14), aI g 620 tg), ((q 32), aI g 160 sk)]) (tw_runV (ws := [(h0, .inr (10, mob q rf n mm mb fa fp av ev wi mn tp tc sc nf fd me mp xn mt wh tq ag an ig)), ((q 2), aI g 600 bs), ((q 14), aI g 620 tg), ((q 32), aI g 160 sk), ((q 33), aI g 160 lo), ((q 47), aI g 128 nw)]) (wc := [(h0, .inr (10, mob q rf n mm mb fa fp av ev wi mn tp tc sc nf fd me mp xn mt wh tq ag an ig)), ((q 33), aI g 160 lo), ((q 47), aI g 128 nw)]) (As := [.int (nI (bt bs (wh + 1))), .int 4]) (rest := []) E hB hK hZ (g_Mod_store l g H.size h0 q rf n mm mb av ev wi mn tp tc sc nf fd me mp xn mt wh ag an ig lo fa fp tq nw (bt bs (wh + 1)) 4 o1 hNW (by omega) (by omega) hlo (by omega) (by omega) (by decide)) mc_Mod_store mi_Mod_store me_Mod_store wd_1664 hP hD hS hA [0, 4, 5] rfl (by decide) 0 rfl rfl rfl rfl rfl (by decide) rfl hl.1 rfl (Nat.le_of_ble_eq_true rfl) (by decide) d_Mod_simple_325) hP hD hS hA [0, 4, 5] [1, 2, 3] rfl rfl (by decide) (by decide) (fun u137 H locs hr136 hP hD hS => ?_)
                                        try dsimp only at hr136
                                        have hP : va_P g.1 classes [((q 2), aI g 600 bs), ((q 14), aI g 620 tg), ((q 32), aI g 160 sk), (h0, .inr (10, mob q rf n mm mb u137.1 u137.2.1 av ev wi mn tp tc sc nf fd me mp xn mt wh u137.2.2.1 ag an ig)), ((q 33), aI g 160 lo), ((q 47), aI g 128 u137.2.2.2)] H := hP
                                        have hD : va_D A [((q 2), aI g 600 bs), ((q 14), aI g 620 tg), ((q 32), aI g 160 sk), (h0, .inr (10, mob q rf n mm mb u137.1 u137.2.1 av ev wi mn tp tc sc nf fd me mp xn mt wh u137.2.2.1 ag an ig)), ((q 33), aI g 160 lo), ((q 47), aI g 128 u137.2.2.2)] := hD
                                        have hP : va_P g.1 classes [(h0, .inr (10, mob q rf n mm mb u137.1 u137.2.1 av ev wi mn tp tc sc nf fd me mp xn mt wh u137.2.2.1 ag an ig)), ((q 2), aI g 600 bs), ((q 14), aI g 620 tg), ((q 32), aI g 160 sk), ((q 33), aI g 160 lo), ((q 47), aI g 128 u137.2.2.2)] H := hP.sub [3, 0, 1, 2, 4, 5] rfl
                                        have hD : va_D A [(h0, .inr (10, mob q rf n mm mb u137.1 u137.2.1 av ev wi mn tp tc sc nf fd me mp xn mt wh u137.2.2.1 ag an ig)), ((q 2), aI g 600 bs), ((q 14), aI g 620 tg), ((q 32), aI g 160 sk), ((q 33), aI g 160 lo), ((q 47), aI g 128 u137.2.2.2)] := hD.sub [3, 0, 1, 2, 4, 5] (by decide) rfl
                                        obtain ⟨hp137_0, hp137_1, hp137_2⟩ := hr136
                                        refine lv_goto (tgt := 399) hx hb d_Mod_simple_328 (by decide) ?_
                                        refine lv_iconst (v := 1) hx hb d_Mod_simple_399 (by decide) ?_
                                        exact tw_zret E hS (u137.1, u137.2.1, u137.2.2.1, u137.2.2.2) (by decide) (⟨(by decide), (fun h => (fun h => h) (hp137_0 h)), (by first | omega | (dsimp only <;> omega)), hp137_2⟩) hP hD d_Mod_simple_400
                                      · refine lv_iconst (v := 2) hx hb d_Mod_simple_320 (by decide) ?_
                                        refine lv_goto (tgt := 325) hx hb d_Mod_simple_321 (by decide) ?_
                                        refine tw_wv (wr := [((q 2), aI g 600 bs), ((q 14), aI g 620 tg), ((q 32), aI g 160 sk)]) (tw_runV (ws := [(h0, .inr (10, mob q rf n mm mb fa fp av ev wi mn tp tc sc nf fd me mp xn mt wh tq ag an ig)), ((q 2), aI g 600 bs), ((q 14), aI g 620 tg), ((q 32), aI g 160 sk), ((q 33), aI g 160 lo), ((q 47), aI g 128 nw)]) (wc := [(h0, .inr (10, mob q rf n mm mb fa fp av ev wi mn tp tc sc nf fd me mp xn mt wh tq ag an ig)), ((q 33), aI g 160 lo), ((q 47), aI g 128 nw)]) (As := [.int (nI (bt bs (wh + 1))), .int 2]) (rest := []) E hB hK hZ (g_Mod_store l g H.size h0 q rf n mm mb av ev wi mn tp tc sc nf fd me mp xn mt wh ag an ig lo fa fp tq nw (bt bs (wh + 1)) 2 o1 hNW (by omega) (by omega) hlo (by omega) (by omega) (by decide)) mc_Mod_store mi_Mod_store me_Mod_store wd_1664 hP hD hS hA [0, 4, 5] rfl (by decide) 0 rfl rfl rfl rfl rfl (by decide) rfl hl.1 rfl (Nat.le_of_ble_eq_true rfl) (by decide) d_Mod_simple_325) hP hD hS hA [0, 4, 5] [1, 2, 3] rfl rfl (by decide) (by decide) (fun u139 H locs hr138 hP hD hS => ?_)
                                        try dsimp only at hr138
                                        have hP : va_P g.1 classes [((q 2), aI g 600 bs), ((q 14), aI g 620 tg), ((q 32), aI g 160 sk), (h0, .inr (10, mob q rf n mm mb u139.1 u139.2.1 av ev wi mn tp tc sc nf fd me mp xn mt wh u139.2.2.1 ag an ig)), ((q 33), aI g 160 lo), ((q 47), aI g 128 u139.2.2.2)] H := hP
                                        have hD : va_D A [((q 2), aI g 600 bs), ((q 14), aI g 620 tg), ((q 32), aI g 160 sk), (h0, .inr (10, mob q rf n mm mb u139.1 u139.2.1 av ev wi mn tp tc sc nf fd me mp xn mt wh u139.2.2.1 ag an ig)), ((q 33), aI g 160 lo), ((q 47), aI g 128 u139.2.2.2)] := hD
                                        have hP : va_P g.1 classes [(h0, .inr (10, mob q rf n mm mb u139.1 u139.2.1 av ev wi mn tp tc sc nf fd me mp xn mt wh u139.2.2.1 ag an ig)), ((q 2), aI g 600 bs), ((q 14), aI g 620 tg), ((q 32), aI g 160 sk), ((q 33), aI g 160 lo), ((q 47), aI g 128 u139.2.2.2)] H := hP.sub [3, 0, 1, 2, 4, 5] rfl
                                        have hD : va_D A [(h0, .inr (10, mob q rf n mm mb u139.1 u139.2.1 av ev wi mn tp tc sc nf fd me mp xn mt wh u139.2.2.1 ag an ig)), ((q 2), aI g 600 bs), ((q 14), aI g 620 tg), ((q 32), aI g 160 sk), ((q 33), aI g 160 lo), ((q 47), aI g 128 u139.2.2.2)] := hD.sub [3, 0, 1, 2, 4, 5] (by decide) rfl
                                        obtain ⟨hp139_0, hp139_1, hp139_2⟩ := hr138
                                        refine lv_goto (tgt := 399) hx hb d_Mod_simple_328 (by decide) ?_
                                        refine lv_iconst (v := 1) hx hb d_Mod_simple_399 (by decide) ?_
                                        exact tw_zret E hS (u139.1, u139.2.1, u139.2.2.1, u139.2.2.2) (by decide) (⟨(by decide), (fun h => (fun h => h) (hp139_0 h)), (by first | omega | (dsimp only <;> omega)), hp139_2⟩) hP hD d_Mod_simple_400
                                    · refine lv_iconst (v := 1) hx hb d_Mod_simple_310 (by decide) ?_
                                      refine lv_goto (tgt := 325) hx hb d_Mod_simple_311 (by decide) ?_
                                      refine tw_wv (wr := [((q 2), aI g 600 bs), ((q 14), aI g 620 tg), ((q 32), aI g 160 sk)]) (tw_runV (ws := [(h0, .inr (10, mob q rf n mm mb fa fp av ev wi mn tp tc sc nf fd me mp xn mt wh tq ag an ig)), ((q 2), aI g 600 bs), ((q 14), aI g 620 tg), ((q 32), aI g 160 sk), ((q 33), aI g 160 lo), ((q 47), aI g 128 nw)]) (wc := [(h0, .inr (10, mob q rf n mm mb fa fp av ev wi mn tp tc sc nf fd me mp xn mt wh tq ag an ig)), ((q 33), aI g 160 lo), ((q 47), aI g 128 nw)]) (As := [.int (nI (bt bs (wh + 1))), .int 1]) (rest := []) E hB hK hZ (g_Mod_store l g H.size h0 q rf n mm mb av ev wi mn tp tc sc nf fd me mp xn mt wh ag an ig lo fa fp tq nw (bt bs (wh + 1)) 1 o1 hNW (by omega) (by omega) hlo (by omega) (by omega) (by decide)) mc_Mod_store mi_Mod_store me_Mod_store wd_1664 hP hD hS hA [0, 4, 5] rfl (by decide) 0 rfl rfl rfl rfl rfl (by decide) rfl hl.1 rfl (Nat.le_of_ble_eq_true rfl) (by decide) d_Mod_simple_325) hP hD hS hA [0, 4, 5] [1, 2, 3] rfl rfl (by decide) (by decide) (fun u141 H locs hr140 hP hD hS => ?_)
                                      try dsimp only at hr140
                                      have hP : va_P g.1 classes [((q 2), aI g 600 bs), ((q 14), aI g 620 tg), ((q 32), aI g 160 sk), (h0, .inr (10, mob q rf n mm mb u141.1 u141.2.1 av ev wi mn tp tc sc nf fd me mp xn mt wh u141.2.2.1 ag an ig)), ((q 33), aI g 160 lo), ((q 47), aI g 128 u141.2.2.2)] H := hP
                                      have hD : va_D A [((q 2), aI g 600 bs), ((q 14), aI g 620 tg), ((q 32), aI g 160 sk), (h0, .inr (10, mob q rf n mm mb u141.1 u141.2.1 av ev wi mn tp tc sc nf fd me mp xn mt wh u141.2.2.1 ag an ig)), ((q 33), aI g 160 lo), ((q 47), aI g 128 u141.2.2.2)] := hD
                                      have hP : va_P g.1 classes [(h0, .inr (10, mob q rf n mm mb u141.1 u141.2.1 av ev wi mn tp tc sc nf fd me mp xn mt wh u141.2.2.1 ag an ig)), ((q 2), aI g 600 bs), ((q 14), aI g 620 tg), ((q 32), aI g 160 sk), ((q 33), aI g 160 lo), ((q 47), aI g 128 u141.2.2.2)] H := hP.sub [3, 0, 1, 2, 4, 5] rfl
                                      have hD : va_D A [(h0, .inr (10, mob q rf n mm mb u141.1 u141.2.1 av ev wi mn tp tc sc nf fd me mp xn mt wh u141.2.2.1 ag an ig)), ((q 2), aI g 600 bs), ((q 14), aI g 620 tg), ((q 32), aI g 160 sk), ((q 33), aI g 160 lo), ((q 47), aI g 128 u141.2.2.2)] := hD.sub [3, 0, 1, 2, 4, 5] (by decide) rfl
                                      obtain ⟨hp141_0, hp141_1, hp141_2⟩ := hr140
                                      refine lv_goto (tgt := 399) hx hb d_Mod_simple_328 (by decide) ?_
                                      refine lv_iconst (v := 1) hx hb d_Mod_simple_399 (by decide) ?_
                                      exact tw_zret E hS (u141.1, u141.2.1, u141.2.2.1, u141.2.2.2) (by decide) (⟨(by decide), (fun h => (fun h => h) (hp141_0 h)), (by first | omega | (dsimp only <;> omega)), hp141_2⟩) hP hD d_Mod_simple_400
                            · obtain ⟨i1, i2⟩ := is_inN h269
                              have i1 := tn_nlt (b := 42) i1 (by omega) (by decide)
                              have i2 := tn_nlt (a := 45) i2 (by decide) (by omega)
                              refine lv_aload_n hx hb d_Mod_simple_272 rfl (lv_at hl 1 rfl) ?_
                              refine lv_iload_n hx hb d_Mod_simple_273 rfl (lv_at hl 2 rfl) ?_
                              refine lv_bipush (v := 42) hx hb d_Mod_simple_274 (by decide) ?_
                              refine lv_isub hx hb d_Mod_simple_276 ?_
                              refine tw_ri (e2 := nI (cn - 42)) (pk_sub (b := 42) (by omega)) ?_
                              refine lv_iconst (v := 4) hx hb d_Mod_simple_277 (by decide) ?_
                              refine tw_wv (wr := [((q 2), aI g 600 bs), ((q 14), aI g 620 tg)]) (tw_runV (ws := [(h0, .inr (10, mob q rf n mm mb fa fp av ev wi mn tp tc sc nf fd me mp xn mt wh tq ag an ig)), ((q 2), aI g 600 bs), ((q 14), aI g 620 tg), ((q 32), aI g 160 sk), ((q 33), aI g 160 lo), ((q 47), aI g 128 nw)]) (wc := [(h0, .inr (10, mob q rf n mm mb fa fp av ev wi mn tp tc sc nf fd me mp xn mt wh tq ag an ig)), ((q 32), aI g 160 sk), ((q 33), aI g 160 lo), ((q 47), aI g 128 nw)]) (As := [.int (nI (cn - 42)), .int 4]) (rest := []) E hB hK hZ (g_Mod_fetch l g H.size h0 q rf n mm mb av ev wi mn tp tc sc nf fd me mp xn mt wh ag an ig sk lo fa fp tq nw (cn - 42) 4 s1 o1 hNW (by omega) (by omega) hsk (by omega) hlo (by omega) (by omega) (by decide)) mc_Mod_fetch mi_Mod_fetch me_Mod_fetch wd_1656 hP hD hS hA [0, 3, 4, 5] rfl (by decide) 0 rfl rfl rfl rfl rfl (by decide) rfl hl.1 rfl (Nat.le_of_ble_eq_true rfl) (by decide) d_Mod_simple_278) hP hD hS hA [0, 3, 4, 5] [1, 2] rfl rfl (by decide) (by decide) (fun u143 H locs hr142 hP hD hS => ?_)
                              try dsimp only at hr142
                              have hP : va_P g.1 classes [((q 2), aI g 600 bs), ((q 14), aI g 620 tg), (h0, .inr (10, mob q rf n mm mb u143.1 u143.2.1 av ev wi mn tp tc sc nf fd me mp xn mt wh u143.2.2.1 ag an ig)), ((q 32), aI g 160 sk), ((q 33), aI g 160 lo), ((q 47), aI g 128 u143.2.2.2)] H := hP
                              have hD : va_D A [((q 2), aI g 600 bs), ((q 14), aI g 620 tg), (h0, .inr (10, mob q rf n mm mb u143.1 u143.2.1 av ev wi mn tp tc sc nf fd me mp xn mt wh u143.2.2.1 ag an ig)), ((q 32), aI g 160 sk), ((q 33), aI g 160 lo), ((q 47), aI g 128 u143.2.2.2)] := hD
                              have hP : va_P g.1 classes [(h0, .inr (10, mob q rf n mm mb u143.1 u143.2.1 av ev wi mn tp tc sc nf fd me mp xn mt wh u143.2.2.1 ag an ig)), ((q 2), aI g 600 bs), ((q 14), aI g 620 tg), ((q 32), aI g 160 sk), ((q 33), aI g 160 lo), ((q 47), aI g 128 u143.2.2.2)] H := hP.sub [2, 0, 1, 3, 4, 5] rfl
                              have hD : va_D A [(h0, .inr (10, mob q rf n mm mb u143.1 u143.2.1 av ev wi mn tp tc sc nf fd me mp xn mt wh u143.2.2.1 ag an ig)), ((q 2), aI g 600 bs), ((q 14), aI g 620 tg), ((q 32), aI g 160 sk), ((q 33), aI g 160 lo), ((q 47), aI g 128 u143.2.2.2)] := hD.sub [2, 0, 1, 3, 4, 5] (by decide) rfl
                              obtain ⟨hp143_0, hp143_1, hp143_2⟩ := hr142
                              refine lv_goto (tgt := 399) hx hb d_Mod_simple_281 (by decide) ?_
                              refine lv_iconst (v := 1) hx hb d_Mod_simple_399 (by decide) ?_
                              exact tw_zret E hS (u143.1, u143.2.1, u143.2.2.1, u143.2.2.2) (by decide) (⟨(by decide), (fun h => (fun h => h) (hp143_0 h)), (by first | omega | (dsimp only <;> omega)), hp143_2⟩) hP hD d_Mod_simple_400
                          · obtain ⟨i1, i2⟩ := is_inN h234
                            have i1 := tn_nlt (b := 26) i1 (by omega) (by decide)
                            have i2 := tn_nlt (a := 33) i2 (by decide) (by omega)
                            refine lv_aload_n hx hb d_Mod_simple_237 rfl (lv_at hl 1 rfl) ?_
                            refine lv_iload_n hx hb d_Mod_simple_238 rfl (lv_at hl 2 rfl) ?_
                            refine lv_bipush (v := 26) hx hb d_Mod_simple_239 (by decide) ?_
                            refine lv_isub hx hb d_Mod_simple_241 ?_
                            refine tw_ri (e2 := nI (cn - 26)) (pk_sub (b := 26) (by omega)) ?_
                            refine lv_iconst (v := 4) hx hb d_Mod_simple_242 (by decide) ?_
                            refine lv_irem hx hb d_Mod_simple_243 (by decide) ?_
                            refine tw_ri (e2 := nI ((cn - 26) % 4)) (nI_mod4 _ (by omega)) ?_
                            refine lv_iload_n hx hb d_Mod_simple_244 rfl (lv_at hl 2 rfl) ?_
                            refine lv_bipush (v := 30) hx hb d_Mod_simple_245 (by decide) ?_
                            refine lv_icmp_ge (tgt := 254) hx hb d_Mod_simple_247 (by decide) (fun h247 => ?_) (fun h247 => ?_)
                            · refine lv_iconst (v := 2) hx hb d_Mod_simple_254 (by decide) ?_
                              refine tw_wv (wr := [((q 2), aI g 600 bs), ((q 14), aI g 620 tg)]) (tw_runV (ws := [(h0, .inr (10, mob q rf n mm mb fa fp av ev wi mn tp tc sc nf fd me mp xn mt wh tq ag an ig)), ((q 2), aI g 600 bs), ((q 14), aI g 620 tg), ((q 32), aI g 160 sk), ((q 33), aI g 160 lo), ((q 47), aI g 128 nw)]) (wc := [(h0, .inr (10, mob q rf n mm mb fa fp av ev wi mn tp tc sc nf fd me mp xn mt wh tq ag an ig)), ((q 32), aI g 160 sk), ((q 33), aI g 160 lo), ((q 47), aI g 128 nw)]) (As := [.int (nI ((cn - 26) % 4)), .int 2]) (rest := []) E hB hK hZ (g_Mod_fetch l g H.size h0 q rf n mm mb av ev wi mn tp tc sc nf fd me mp xn mt wh ag an ig sk lo fa fp tq nw ((cn - 26) % 4) 2 s1 o1 hNW (by omega) (by omega) hsk (by omega) hlo (by omega) (by omega) (by decide)) mc_Mod_fetch mi_Mod_fetch me_Mod_fetch wd_1656 hP hD hS hA [0, 3, 4, 5] rfl (by decide) 0 rfl rfl rfl rfl rfl (by decide) rfl hl.1 rfl (Nat.le_of_ble_eq_true rfl) (by decide) d_Mod_simple_255) hP hD hS hA [0, 3, 4, 5] [1, 2] rfl rfl (by decide) (by decide) (fun u145 H locs hr144 hP hD hS => ?_)
                              try dsimp only at hr144
                              have hP : va_P g.1 classes [((q 2), aI g 600 bs), ((q 14), aI g 620 tg), (h0, .inr (10, mob q rf n mm mb u145.1 u145.2.1 av ev wi mn tp tc sc nf fd me mp xn mt wh u145.2.2.1 ag an ig)), ((q 32), aI g 160 sk), ((q 33), aI g 160 lo), ((q 47), aI g 128 u145.2.2.2)] H := hP
                              have hD : va_D A [((q 2), aI g 600 bs), ((q 14), aI g 620 tg), (h0, .inr (10, mob q rf n mm mb u145.1 u145.2.1 av ev wi mn tp tc sc nf fd me mp xn mt wh u145.2.2.1 ag an ig)), ((q 32), aI g 160 sk), ((q 33), aI g 160 lo), ((q 47), aI g 128 u145.2.2.2)] := hD
                              have hP : va_P g.1 classes [(h0, .inr (10, mob q rf n mm mb u145.1 u145.2.1 av ev wi mn tp tc sc nf fd me mp xn mt wh u145.2.2.1 ag an ig)), ((q 2), aI g 600 bs), ((q 14), aI g 620 tg), ((q 32), aI g 160 sk), ((q 33), aI g 160 lo), ((q 47), aI g 128 u145.2.2.2)] H := hP.sub [2, 0, 1, 3, 4, 5] rfl
                              have hD : va_D A [(h0, .inr (10, mob q rf n mm mb u145.1 u145.2.1 av ev wi mn tp tc sc nf fd me mp xn mt wh u145.2.2.1 ag an ig)), ((q 2), aI g 600 bs), ((q 14), aI g 620 tg), ((q 32), aI g 160 sk), ((q 33), aI g 160 lo), ((q 47), aI g 128 u145.2.2.2)] := hD.sub [2, 0, 1, 3, 4, 5] (by decide) rfl
                              obtain ⟨hp145_0, hp145_1, hp145_2⟩ := hr144
                              refine lv_goto (tgt := 399) hx hb d_Mod_simple_258 (by decide) ?_
                              refine lv_iconst (v := 1) hx hb d_Mod_simple_399 (by decide) ?_
                              exact tw_zret E hS (u145.1, u145.2.1, u145.2.2.1, u145.2.2.2) (by decide) (⟨(by decide), (fun h => (fun h => h) (hp145_0 h)), (by first | omega | (dsimp only <;> omega)), hp145_2⟩) hP hD d_Mod_simple_400
                            · refine lv_iconst (v := 1) hx hb d_Mod_simple_250 (by decide) ?_
                              refine lv_goto (tgt := 255) hx hb d_Mod_simple_251 (by decide) ?_
                              refine tw_wv (wr := [((q 2), aI g 600 bs), ((q 14), aI g 620 tg)]) (tw_runV (ws := [(h0, .inr (10, mob q rf n mm mb fa fp av ev wi mn tp tc sc nf fd me mp xn mt wh tq ag an ig)), ((q 2), aI g 600 bs), ((q 14), aI g 620 tg), ((q 32), aI g 160 sk), ((q 33), aI g 160 lo), ((q 47), aI g 128 nw)]) (wc := [(h0, .inr (10, mob q rf n mm mb fa fp av ev wi mn tp tc sc nf fd me mp xn mt wh tq ag an ig)), ((q 32), aI g 160 sk), ((q 33), aI g 160 lo), ((q 47), aI g 128 nw)]) (As := [.int (nI ((cn - 26) % 4)), .int 1]) (rest := []) E hB hK hZ (g_Mod_fetch l g H.size h0 q rf n mm mb av ev wi mn tp tc sc nf fd me mp xn mt wh ag an ig sk lo fa fp tq nw ((cn - 26) % 4) 1 s1 o1 hNW (by omega) (by omega) hsk (by omega) hlo (by omega) (by omega) (by decide)) mc_Mod_fetch mi_Mod_fetch me_Mod_fetch wd_1656 hP hD hS hA [0, 3, 4, 5] rfl (by decide) 0 rfl rfl rfl rfl rfl (by decide) rfl hl.1 rfl (Nat.le_of_ble_eq_true rfl) (by decide) d_Mod_simple_255) hP hD hS hA [0, 3, 4, 5] [1, 2] rfl rfl (by decide) (by decide) (fun u147 H locs hr146 hP hD hS => ?_)
                              try dsimp only at hr146
                              have hP : va_P g.1 classes [((q 2), aI g 600 bs), ((q 14), aI g 620 tg), (h0, .inr (10, mob q rf n mm mb u147.1 u147.2.1 av ev wi mn tp tc sc nf fd me mp xn mt wh u147.2.2.1 ag an ig)), ((q 32), aI g 160 sk), ((q 33), aI g 160 lo), ((q 47), aI g 128 u147.2.2.2)] H := hP
                              have hD : va_D A [((q 2), aI g 600 bs), ((q 14), aI g 620 tg), (h0, .inr (10, mob q rf n mm mb u147.1 u147.2.1 av ev wi mn tp tc sc nf fd me mp xn mt wh u147.2.2.1 ag an ig)), ((q 32), aI g 160 sk), ((q 33), aI g 160 lo), ((q 47), aI g 128 u147.2.2.2)] := hD
                              have hP : va_P g.1 classes [(h0, .inr (10, mob q rf n mm mb u147.1 u147.2.1 av ev wi mn tp tc sc nf fd me mp xn mt wh u147.2.2.1 ag an ig)), ((q 2), aI g 600 bs), ((q 14), aI g 620 tg), ((q 32), aI g 160 sk), ((q 33), aI g 160 lo), ((q 47), aI g 128 u147.2.2.2)] H := hP.sub [2, 0, 1, 3, 4, 5] rfl
                              have hD : va_D A [(h0, .inr (10, mob q rf n mm mb u147.1 u147.2.1 av ev wi mn tp tc sc nf fd me mp xn mt wh u147.2.2.1 ag an ig)), ((q 2), aI g 600 bs), ((q 14), aI g 620 tg), ((q 32), aI g 160 sk), ((q 33), aI g 160 lo), ((q 47), aI g 128 u147.2.2.2)] := hD.sub [2, 0, 1, 3, 4, 5] (by decide) rfl
                              obtain ⟨hp147_0, hp147_1, hp147_2⟩ := hr146
                              refine lv_goto (tgt := 399) hx hb d_Mod_simple_258 (by decide) ?_
                              refine lv_iconst (v := 1) hx hb d_Mod_simple_399 (by decide) ?_
                              exact tw_zret E hS (u147.1, u147.2.1, u147.2.2.1, u147.2.2.2) (by decide) (⟨(by decide), (fun h => (fun h => h) (hp147_0 h)), (by first | omega | (dsimp only <;> omega)), hp147_2⟩) hP hD d_Mod_simple_400
                        · refine lv_aload_n hx hb d_Mod_simple_197 rfl (lv_at hl 1 rfl) ?_
                          refine lv_iload_n hx hb d_Mod_simple_198 rfl (lv_at hl 0 rfl) ?_
                          refine lv_iload_n hx hb d_Mod_simple_199 rfl (lv_at hl 2 rfl) ?_
                          refine lv_bipush (v := 21) hx hb d_Mod_simple_200 (by decide) ?_
                          refine lv_icmp_ne (tgt := 209) hx hb d_Mod_simple_202 (by decide) (fun h202 => ?_) (fun h202 => ?_)
                          · refine lv_iload_n hx hb d_Mod_simple_209 rfl (lv_at hl 2 rfl) ?_
                            refine lv_bipush (v := 22) hx hb d_Mod_simple_210 (by decide) ?_
                            refine lv_icmp_ne (tgt := 219) hx hb d_Mod_simple_212 (by decide) (fun h212 => ?_) (fun h212 => ?_)
                            · refine lv_iconst (v := 4) hx hb d_Mod_simple_219 (by decide) ?_
                              refine tw_wv (wr := [((q 2), aI g 600 bs), ((q 14), aI g 620 tg)]) (tw_runV (ws := [(h0, .inr (10, mob q rf n mm mb fa fp av ev wi mn tp tc sc nf fd me mp xn mt wh tq ag an ig)), ((q 2), aI g 600 bs), ((q 14), aI g 620 tg), ((q 32), aI g 160 sk), ((q 33), aI g 160 lo), ((q 47), aI g 128 nw)]) (wc := [(h0, .inr (10, mob q rf n mm mb fa fp av ev wi mn tp tc sc nf fd me mp xn mt wh tq ag an ig)), ((q 32), aI g 160 sk), ((q 33), aI g 160 lo), ((q 47), aI g 128 nw)]) (As := [.int (nI (bt bs (wh + 1))), .int 4]) (rest := []) E hB hK hZ (g_Mod_fetch l g H.size h0 q rf n mm mb av ev wi mn tp tc sc nf fd me mp xn mt wh ag an ig sk lo fa fp tq nw (bt bs (wh + 1)) 4 s1 o1 hNW (by omega) (by omega) hsk (by omega) hlo (by omega) (by omega) (by decide)) mc_Mod_fetch mi_Mod_fetch me_Mod_fetch wd_1656 hP hD hS hA [0, 3, 4, 5] rfl (by decide) 0 rfl rfl rfl rfl rfl (by decide) rfl hl.1 rfl (Nat.le_of_ble_eq_true rfl) (by decide) d_Mod_simple_220) hP hD hS hA [0, 3, 4, 5] [1, 2] rfl rfl (by decide) (by decide) (fun u149 H locs hr148 hP hD hS => ?_)
                              try dsimp only at hr148
                              have hP : va_P g.1 classes [((q 2), aI g 600 bs), ((q 14), aI g 620 tg), (h0, .inr (10, mob q rf n mm mb u149.1 u149.2.1 av ev wi mn tp tc sc nf fd me mp xn mt wh u149.2.2.1 ag an ig)), ((q 32), aI g 160 sk), ((q 33), aI g 160 lo), ((q 47), aI g 128 u149.2.2.2)] H := hP
                              have hD : va_D A [((q 2), aI g 600 bs), ((q 14), aI g 620 tg), (h0, .inr (10, mob q rf n mm mb u149.1 u149.2.1 av ev wi mn tp tc sc nf fd me mp xn mt wh u149.2.2.1 ag an ig)), ((q 32), aI g 160 sk), ((q 33), aI g 160 lo), ((q 47), aI g 128 u149.2.2.2)] := hD
                              have hP : va_P g.1 classes [(h0, .inr (10, mob q rf n mm mb u149.1 u149.2.1 av ev wi mn tp tc sc nf fd me mp xn mt wh u149.2.2.1 ag an ig)), ((q 2), aI g 600 bs), ((q 14), aI g 620 tg), ((q 32), aI g 160 sk), ((q 33), aI g 160 lo), ((q 47), aI g 128 u149.2.2.2)] H := hP.sub [2, 0, 1, 3, 4, 5] rfl
                              have hD : va_D A [(h0, .inr (10, mob q rf n mm mb u149.1 u149.2.1 av ev wi mn tp tc sc nf fd me mp xn mt wh u149.2.2.1 ag an ig)), ((q 2), aI g 600 bs), ((q 14), aI g 620 tg), ((q 32), aI g 160 sk), ((q 33), aI g 160 lo), ((q 47), aI g 128 u149.2.2.2)] := hD.sub [2, 0, 1, 3, 4, 5] (by decide) rfl
                              obtain ⟨hp149_0, hp149_1, hp149_2⟩ := hr148
                              refine lv_goto (tgt := 399) hx hb d_Mod_simple_223 (by decide) ?_
                              refine lv_iconst (v := 1) hx hb d_Mod_simple_399 (by decide) ?_
                              exact tw_zret E hS (u149.1, u149.2.1, u149.2.2.1, u149.2.2.2) (by decide) (⟨(by decide), (fun h => (fun h => h) (hp149_0 h)), (by first | omega | (dsimp only <;> omega)), hp149_2⟩) hP hD d_Mod_simple_400
                            · refine lv_iconst (v := 2) hx hb d_Mod_simple_215 (by decide) ?_
                              refine lv_goto (tgt := 220) hx hb d_Mod_simple_216 (by decide) ?_
                              refine tw_wv (wr := [((q 2), aI g 600 bs), ((q 14), aI g 620 tg)]) (tw_runV (ws := [(h0, .inr (10, mob q rf n mm mb fa fp av ev wi mn tp tc sc nf fd me mp xn mt wh tq ag an ig)), ((q 2), aI g 600 bs), ((q 14), aI g 620 tg), ((q 32), aI g 160 sk), ((q 33), aI g 160 lo), ((q 47), aI g 128 nw)]) (wc := [(h0, .inr (10, mob q rf n mm mb fa fp av ev wi mn tp tc sc nf fd me mp xn mt wh tq ag an ig)), ((q 32), aI g 160 sk), ((q 33), aI g 160 lo), ((q 47), aI g 128 nw)]) (As := [.int (nI (bt bs (wh + 1))), .int 2]) (rest := []) E hB hK hZ (g_Mod_fetch l g H.size h0 q rf n mm mb av ev wi mn tp tc sc nf fd me mp xn mt wh ag an ig sk lo fa fp tq nw (bt bs (wh + 1)) 2 s1 o1 hNW (by omega) (by omega) hsk (by omega) hlo (by omega) (by omega) (by decide)) mc_Mod_fetch mi_Mod_fetch me_Mod_fetch wd_1656 hP hD hS hA [0, 3, 4, 5] rfl (by decide) 0 rfl rfl rfl rfl rfl (by decide) rfl hl.1 rfl (Nat.le_of_ble_eq_true rfl) (by decide) d_Mod_simple_220) hP hD hS hA [0, 3, 4, 5] [1, 2] rfl rfl (by decide) (by decide) (fun u151 H locs hr150 hP hD hS => ?_)
                              try dsimp only at hr150
                              have hP : va_P g.1 classes [((q 2), aI g 600 bs), ((q 14), aI g 620 tg), (h0, .inr (10, mob q rf n mm mb u151.1 u151.2.1 av ev wi mn tp tc sc nf fd me mp xn mt wh u151.2.2.1 ag an ig)), ((q 32), aI g 160 sk), ((q 33), aI g 160 lo), ((q 47), aI g 128 u151.2.2.2)] H := hP
                              have hD : va_D A [((q 2), aI g 600 bs), ((q 14), aI g 620 tg), (h0, .inr (10, mob q rf n mm mb u151.1 u151.2.1 av ev wi mn tp tc sc nf fd me mp xn mt wh u151.2.2.1 ag an ig)), ((q 32), aI g 160 sk), ((q 33), aI g 160 lo), ((q 47), aI g 128 u151.2.2.2)] := hD
                              have hP : va_P g.1 classes [(h0, .inr (10, mob q rf n mm mb u151.1 u151.2.1 av ev wi mn tp tc sc nf fd me mp xn mt wh u151.2.2.1 ag an ig)), ((q 2), aI g 600 bs), ((q 14), aI g 620 tg), ((q 32), aI g 160 sk), ((q 33), aI g 160 lo), ((q 47), aI g 128 u151.2.2.2)] H := hP.sub [2, 0, 1, 3, 4, 5] rfl
                              have hD : va_D A [(h0, .inr (10, mob q rf n mm mb u151.1 u151.2.1 av ev wi mn tp tc sc nf fd me mp xn mt wh u151.2.2.1 ag an ig)), ((q 2), aI g 600 bs), ((q 14), aI g 620 tg), ((q 32), aI g 160 sk), ((q 33), aI g 160 lo), ((q 47), aI g 128 u151.2.2.2)] := hD.sub [2, 0, 1, 3, 4, 5] (by decide) rfl
                              obtain ⟨hp151_0, hp151_1, hp151_2⟩ := hr150
                              refine lv_goto (tgt := 399) hx hb d_Mod_simple_223 (by decide) ?_
                              refine lv_iconst (v := 1) hx hb d_Mod_simple_399 (by decide) ?_
                              exact tw_zret E hS (u151.1, u151.2.1, u151.2.2.1, u151.2.2.2) (by decide) (⟨(by decide), (fun h => (fun h => h) (hp151_0 h)), (by first | omega | (dsimp only <;> omega)), hp151_2⟩) hP hD d_Mod_simple_400
                          · refine lv_iconst (v := 1) hx hb d_Mod_simple_205 (by decide) ?_
                            refine lv_goto (tgt := 220) hx hb d_Mod_simple_206 (by decide) ?_
                            refine tw_wv (wr := [((q 2), aI g 600 bs), ((q 14), aI g 620 tg)]) (tw_runV (ws := [(h0, .inr (10, mob q rf n mm mb fa fp av ev wi mn tp tc sc nf fd me mp xn mt wh tq ag an ig)), ((q 2), aI g 600 bs), ((q 14), aI g 620 tg), ((q 32), aI g 160 sk), ((q 33), aI g 160 lo), ((q 47), aI g 128 nw)]) (wc := [(h0, .inr (10, mob q rf n mm mb fa fp av ev wi mn tp tc sc nf fd me mp xn mt wh tq ag an ig)), ((q 32), aI g 160 sk), ((q 33), aI g 160 lo), ((q 47), aI g 128 nw)]) (As := [.int (nI (bt bs (wh + 1))), .int 1]) (rest := []) E hB hK hZ (g_Mod_fetch l g H.size h0 q rf n mm mb av ev wi mn tp tc sc nf fd me mp xn mt wh ag an ig sk lo fa fp tq nw (bt bs (wh + 1)) 1 s1 o1 hNW (by omega) (by omega) hsk (by omega) hlo (by omega) (by omega) (by decide)) mc_Mod_fetch mi_Mod_fetch me_Mod_fetch wd_1656 hP hD hS hA [0, 3, 4, 5] rfl (by decide) 0 rfl rfl rfl rfl rfl (by decide) rfl hl.1 rfl (Nat.le_of_ble_eq_true rfl) (by decide) d_Mod_simple_220) hP hD hS hA [0, 3, 4, 5] [1, 2] rfl rfl (by decide) (by decide) (fun u153 H locs hr152 hP hD hS => ?_)
                            try dsimp only at hr152
                            have hP : va_P g.1 classes [((q 2), aI g 600 bs), ((q 14), aI g 620 tg), (h0, .inr (10, mob q rf n mm mb u153.1 u153.2.1 av ev wi mn tp tc sc nf fd me mp xn mt wh u153.2.2.1 ag an ig)), ((q 32), aI g 160 sk), ((q 33), aI g 160 lo), ((q 47), aI g 128 u153.2.2.2)] H := hP
                            have hD : va_D A [((q 2), aI g 600 bs), ((q 14), aI g 620 tg), (h0, .inr (10, mob q rf n mm mb u153.1 u153.2.1 av ev wi mn tp tc sc nf fd me mp xn mt wh u153.2.2.1 ag an ig)), ((q 32), aI g 160 sk), ((q 33), aI g 160 lo), ((q 47), aI g 128 u153.2.2.2)] := hD
                            have hP : va_P g.1 classes [(h0, .inr (10, mob q rf n mm mb u153.1 u153.2.1 av ev wi mn tp tc sc nf fd me mp xn mt wh u153.2.2.1 ag an ig)), ((q 2), aI g 600 bs), ((q 14), aI g 620 tg), ((q 32), aI g 160 sk), ((q 33), aI g 160 lo), ((q 47), aI g 128 u153.2.2.2)] H := hP.sub [2, 0, 1, 3, 4, 5] rfl
                            have hD : va_D A [(h0, .inr (10, mob q rf n mm mb u153.1 u153.2.1 av ev wi mn tp tc sc nf fd me mp xn mt wh u153.2.2.1 ag an ig)), ((q 2), aI g 600 bs), ((q 14), aI g 620 tg), ((q 32), aI g 160 sk), ((q 33), aI g 160 lo), ((q 47), aI g 128 u153.2.2.2)] := hD.sub [2, 0, 1, 3, 4, 5] (by decide) rfl
                            obtain ⟨hp153_0, hp153_1, hp153_2⟩ := hr152
                            refine lv_goto (tgt := 399) hx hb d_Mod_simple_223 (by decide) ?_
                            refine lv_iconst (v := 1) hx hb d_Mod_simple_399 (by decide) ?_
                            exact tw_zret E hS (u153.1, u153.2.1, u153.2.2.1, u153.2.2.2) (by decide) (⟨(by decide), (fun h => (fun h => h) (hp153_0 h)), (by first | omega | (dsimp only <;> omega)), hp153_2⟩) hP hD d_Mod_simple_400
                  · have hn2 := fo_20 hfo h149 hn1
                    have t21 := t2_lt hbs (i := wh + 1) (by omega)
                    refine lv_aload_n hx hb d_Mod_simple_152 rfl (lv_at hl 1 rfl) ?_
                    refine lv_aload_n hx hb d_Mod_simple_153 rfl (lv_at hl 1 rfl) ?_
                    refine lv_aload_n hx hb d_Mod_simple_154 rfl (lv_at hl 1 rfl) ?_
                    refine lv_aload_n hx hb d_Mod_simple_155 rfl (lv_at hl 1 rfl) ?_
                    refine va_get (D := g.1) (ci := 10) (v := .int (nI wh)) (C := R_Mod) (T := F_Mod) (N := 61) hx hb hts in_Mod hown hK hP 0 rfl rfl 45 (by decide) (hts _ wd_1295) (fun _ h9 => h9) rfl d_Mod_simple_156 ?_
                    refine lv_iconst (v := 1) hx hb d_Mod_simple_159 (by decide) ?_
                    refine lv_iadd hx hb d_Mod_simple_160 ?_
                    refine tw_ri (e2 := nI (wh + 1)) (nI_add wh 1) ?_
                    refine tw_si (tw_runV (ws := [(h0, .inr (10, mob q rf n mm mb fa fp av ev wi mn tp tc sc nf fd me mp xn mt wh tq ag an ig)), ((q 2), aI g 600 bs), ((q 14), aI g 620 tg), ((q 32), aI g 160 sk), ((q 33), aI g 160 lo), ((q 47), aI g 128 nw)]) (wc := [(h0, .inr (10, mob q rf n mm mb fa fp av ev wi mn tp tc sc nf fd me mp xn mt wh tq ag an ig)), ((q 2), aI g 600 bs)]) (As := [.int (nI (wh + 1))]) (rest := [.ref h0, .ref h0]) E hB hK hZ (g_Mod_twoAt l g H.size h0 q rf n mm mb fa fp av ev wi mn tp tc sc nf fd me mp xn mt wh tq ag an ig bs (wh + 1) hbs (by omega)) mc_Mod_twoAt mi_Mod_twoAt me_Mod_twoAt wd_1616 hP hD hS hA [0, 1] rfl (by decide) 0 rfl rfl rfl rfl rfl (by decide) rfl hl.1 rfl (Nat.le_of_ble_eq_true rfl) (by decide) d_Mod_simple_161) (fun r154 hr154 => ?_)
                    have hB154 := hr154
                    subst hB154
                    refine lv_iconst (v := 5) hx hb d_Mod_simple_164 (by decide) ?_
                    refine tw_si (tw_runV (ws := [(h0, .inr (10, mob q rf n mm mb fa fp av ev wi mn tp tc sc nf fd me mp xn mt wh tq ag an ig)), ((q 2), aI g 600 bs), ((q 14), aI g 620 tg), ((q 32), aI g 160 sk), ((q 33), aI g 160 lo), ((q 47), aI g 128 nw)]) (wc := [(h0, .inr (10, mob q rf n mm mb fa fp av ev wi mn tp tc sc nf fd me mp xn mt wh tq ag an ig)), ((q 14), aI g 620 tg)]) (As := [.int (nI (t2 bs (wh + 1))), .int 5]) (rest := [.ref h0]) E hB hK hZ (g_Mod_isTagN l g H.size h0 q rf n mm mb fa fp av ev wi mn tp tc sc nf fd me mp xn mt wh tq ag an ig tg (t2 bs (wh + 1)) 5 (by omega) (by omega)) mc_Mod_isTag mi_Mod_isTag me_Mod_isTag wd_1508 hP hD hS hA [0, 2] rfl (by decide) 0 rfl rfl rfl rfl rfl (by decide) rfl hl.1 rfl (Nat.le_of_ble_eq_true rfl) (by decide) d_Mod_simple_165) (fun r155 hr155 => ?_)
                    have hB155 := hr155
                    refine tw_wv (wr := [((q 2), aI g 600 bs), ((q 14), aI g 620 tg), ((q 32), aI g 160 sk), ((q 33), aI g 160 lo), ((q 47), aI g 128 nw)]) (tw_runV (ws := [(h0, .inr (10, mob q rf n mm mb fa fp av ev wi mn tp tc sc nf fd me mp xn mt wh tq ag an ig)), ((q 2), aI g 600 bs), ((q 14), aI g 620 tg), ((q 32), aI g 160 sk), ((q 33), aI g 160 lo), ((q 47), aI g 128 nw)]) (wc := [(h0, .inr (10, mob q rf n mm mb fa fp av ev wi mn tp tc sc nf fd me mp xn mt wh tq ag an ig))]) (As := [.int r155]) (rest := []) E hB hK hZ (g_Mod_refer l g H.size h0 q rf n mm mb av ev wi mn tp tc sc nf fd me mp xn mt wh tq ag an ig fa fp r155) mc_Mod_refer mi_Mod_refer me_Mod_refer wd_1652 hP hD hS hA [0] rfl (by decide) 0 rfl rfl rfl rfl rfl (by decide) rfl hl.1 rfl (Nat.le_of_ble_eq_true rfl) (by decide) d_Mod_simple_168) hP hD hS hA [0] [1, 2, 3, 4, 5] rfl rfl (by decide) (by decide) (fun u157 H locs hr156 hP hD hS => ?_)
                    try dsimp only at hr156
                    have hP : va_P g.1 classes [((q 2), aI g 600 bs), ((q 14), aI g 620 tg), ((q 32), aI g 160 sk), ((q 33), aI g 160 lo), ((q 47), aI g 128 nw), (h0, .inr (10, mob q rf n mm mb u157.1 u157.2 av ev wi mn tp tc sc nf fd me mp xn mt wh tq ag an ig))] H := hP
                    have hD : va_D A [((q 2), aI g 600 bs), ((q 14), aI g 620 tg), ((q 32), aI g 160 sk), ((q 33), aI g 160 lo), ((q 47), aI g 128 nw), (h0, .inr (10, mob q rf n mm mb u157.1 u157.2 av ev wi mn tp tc sc nf fd me mp xn mt wh tq ag an ig))] := hD
                    have hP : va_P g.1 classes [(h0, .inr (10, mob q rf n mm mb u157.1 u157.2 av ev wi mn tp tc sc nf fd me mp xn mt wh tq ag an ig)), ((q 2), aI g 600 bs), ((q 14), aI g 620 tg), ((q 32), aI g 160 sk), ((q 33), aI g 160 lo), ((q 47), aI g 128 nw)] H := hP.sub [5, 0, 1, 2, 3, 4] rfl
                    have hD : va_D A [(h0, .inr (10, mob q rf n mm mb u157.1 u157.2 av ev wi mn tp tc sc nf fd me mp xn mt wh tq ag an ig)), ((q 2), aI g 600 bs), ((q 14), aI g 620 tg), ((q 32), aI g 160 sk), ((q 33), aI g 160 lo), ((q 47), aI g 128 nw)] := hD.sub [5, 0, 1, 2, 3, 4] (by decide) rfl
                    obtain ⟨hp157_0, hp157_1⟩ := hr156
                    refine lv_aload_n hx hb d_Mod_simple_171 rfl (lv_at hl 1 rfl) ?_
                    refine lv_iconst (v := 2) hx hb d_Mod_simple_172 (by decide) ?_
                    refine tw_wv (wr := [((q 2), aI g 600 bs), ((q 14), aI g 620 tg), ((q 33), aI g 160 lo)]) (tw_runV (ws := [(h0, .inr (10, mob q rf n mm mb u157.1 u157.2 av ev wi mn tp tc sc nf fd me mp xn mt wh tq ag an ig)), ((q 2), aI g 600 bs), ((q 14), aI g 620 tg), ((q 32), aI g 160 sk), ((q 33), aI g 160 lo), ((q 47), aI g 128 nw)]) (wc := [(h0, .inr (10, mob q rf n mm mb u157.1 u157.2 av ev wi mn tp tc sc nf fd me mp xn mt wh tq ag an ig)), ((q 32), aI g 160 sk), ((q 47), aI g 128 nw)]) (As := [.int 2]) (rest := []) E hB hK hZ (g_Mod_give l g H.size h0 q rf n mm mb av ev wi mn tp tc sc nf fd me mp xn mt wh ag an ig sk u157.1 u157.2 tq nw 2 s1 hNW (by omega) (by omega) hsk (by omega) (fun _ => by decide)) mc_Mod_give mi_Mod_give me_Mod_give wd_1648 hP hD hS hA [0, 3, 5] rfl (by decide) 0 rfl rfl rfl rfl rfl (by decide) rfl hl.1 rfl (Nat.le_of_ble_eq_true rfl) (by decide) d_Mod_simple_173) hP hD hS hA [0, 3, 5] [1, 2, 4] rfl rfl (by decide) (by decide) (fun u159 H locs hr158 hP hD hS => ?_)
                    try dsimp only at hr158
                    have hP : va_P g.1 classes [((q 2), aI g 600 bs), ((q 14), aI g 620 tg), ((q 33), aI g 160 lo), (h0, .inr (10, mob q rf n mm mb u159.1 u159.2.1 av ev wi mn tp tc sc nf fd me mp xn mt wh u159.2.2.1 ag an ig)), ((q 32), aI g 160 sk), ((q 47), aI g 128 u159.2.2.2)] H := hP
                    have hD : va_D A [((q 2), aI g 600 bs), ((q 14), aI g 620 tg), ((q 33), aI g 160 lo), (h0, .inr (10, mob q rf n mm mb u159.1 u159.2.1 av ev wi mn tp tc sc nf fd me mp xn mt wh u159.2.2.1 ag an ig)), ((q 32), aI g 160 sk), ((q 47), aI g 128 u159.2.2.2)] := hD
                    have hP : va_P g.1 classes [(h0, .inr (10, mob q rf n mm mb u159.1 u159.2.1 av ev wi mn tp tc sc nf fd me mp xn mt wh u159.2.2.1 ag an ig)), ((q 2), aI g 600 bs), ((q 14), aI g 620 tg), ((q 32), aI g 160 sk), ((q 33), aI g 160 lo), ((q 47), aI g 128 u159.2.2.2)] H := hP.sub [3, 0, 1, 4, 2, 5] rfl
                    have hD : va_D A [(h0, .inr (10, mob q rf n mm mb u159.1 u159.2.1 av ev wi mn tp tc sc nf fd me mp xn mt wh u159.2.2.1 ag an ig)), ((q 2), aI g 600 bs), ((q 14), aI g 620 tg), ((q 32), aI g 160 sk), ((q 33), aI g 160 lo), ((q 47), aI g 128 u159.2.2.2)] := hD.sub [3, 0, 1, 4, 2, 5] (by decide) rfl
                    obtain ⟨hp159_0, hp159_1, hp159_2⟩ := hr158
                    refine lv_goto (tgt := 399) hx hb d_Mod_simple_176 (by decide) ?_
                    refine lv_iconst (v := 1) hx hb d_Mod_simple_399 (by decide) ?_
                    exact tw_zret E hS (u159.1, u159.2.1, u159.2.2.1, u159.2.2.2) (by decide) (⟨(by decide), (fun h => (fun h => (fun h => h) (hp157_0 h)) (hp159_0 h)), (by first | omega | (dsimp only <;> omega)), hp159_2⟩) hP hD d_Mod_simple_400
                · refine lv_aload_n hx hb d_Mod_simple_97 rfl (lv_at hl 1 rfl) ?_
                  refine lv_aload_n hx hb d_Mod_simple_98 rfl (lv_at hl 1 rfl) ?_
                  refine lv_iload_n hx hb d_Mod_simple_99 rfl (lv_at hl 0 rfl) ?_
                  refine lv_iconst (v := 3) hx hb d_Mod_simple_100 (by decide) ?_
                  refine tw_si (tw_runV (ws := [(h0, .inr (10, mob q rf n mm mb fa fp av ev wi mn tp tc sc nf fd me mp xn mt wh tq ag an ig)), ((q 2), aI g 600 bs), ((q 14), aI g 620 tg), ((q 32), aI g 160 sk), ((q 33), aI g 160 lo), ((q 47), aI g 128 nw)]) (wc := [(h0, .inr (10, mob q rf n mm mb fa fp av ev wi mn tp tc sc nf fd me mp xn mt wh tq ag an ig)), ((q 14), aI g 620 tg)]) (As := [.int (nI (bt bs (wh + 1))), .int 3]) (rest := [.ref h0]) E hB hK hZ (g_Mod_isTagN l g H.size h0 q rf n mm mb fa fp av ev wi mn tp tc sc nf fd me mp xn mt wh tq ag an ig tg (bt bs (wh + 1)) 3 (by omega) (by omega)) mc_Mod_isTag mi_Mod_isTag me_Mod_isTag wd_1508 hP hD hS hA [0, 2] rfl (by decide) 0 rfl rfl rfl rfl rfl (by decide) rfl hl.1 rfl (Nat.le_of_ble_eq_true rfl) (by decide) d_Mod_simple_101) (fun r160 hr160 => ?_)
                  have hB160 := hr160
                  refine lv_if_ne (tgt := 117) hx hb d_Mod_simple_104 (by decide) (fun h104 => ?_) (fun h104 => ?_)
                  · have hT104 := hB160.2 (hB160.1.resolve_left h104)
                    refine lv_iconst (v := 1) hx hb d_Mod_simple_117 (by decide) ?_
                    refine lv_goto (tgt := 122) hx hb d_Mod_simple_118 (by decide) ?_
                    refine tw_wv (wr := [((q 2), aI g 600 bs), ((q 14), aI g 620 tg), ((q 32), aI g 160 sk), ((q 33), aI g 160 lo), ((q 47), aI g 128 nw)]) (tw_runV (ws := [(h0, .inr (10, mob q rf n mm mb fa fp av ev wi mn tp tc sc nf fd me mp xn mt wh tq ag an ig)), ((q 2), aI g 600 bs), ((q 14), aI g 620 tg), ((q 32), aI g 160 sk), ((q 33), aI g 160 lo), ((q 47), aI g 128 nw)]) (wc := [(h0, .inr (10, mob q rf n mm mb fa fp av ev wi mn tp tc sc nf fd me mp xn mt wh tq ag an ig))]) (As := [.int 1]) (rest := []) E hB hK hZ (g_Mod_refer l g H.size h0 q rf n mm mb av ev wi mn tp tc sc nf fd me mp xn mt wh tq ag an ig fa fp 1) mc_Mod_refer mi_Mod_refer me_Mod_refer wd_1652 hP hD hS hA [0] rfl (by decide) 0 rfl rfl rfl rfl rfl (by decide) rfl hl.1 rfl (Nat.le_of_ble_eq_true rfl) (by decide) d_Mod_simple_122) hP hD hS hA [0] [1, 2, 3, 4, 5] rfl rfl (by decide) (by decide) (fun u162 H locs hr161 hP hD hS => ?_)
                    try dsimp only at hr161
                    have hP : va_P g.1 classes [((q 2), aI g 600 bs), ((q 14), aI g 620 tg), ((q 32), aI g 160 sk), ((q 33), aI g 160 lo), ((q 47), aI g 128 nw), (h0, .inr (10, mob q rf n mm mb u162.1 u162.2 av ev wi mn tp tc sc nf fd me mp xn mt wh tq ag an ig))] H := hP
                    have hD : va_D A [((q 2), aI g 600 bs), ((q 14), aI g 620 tg), ((q 32), aI g 160 sk), ((q 33), aI g 160 lo), ((q 47), aI g 128 nw), (h0, .inr (10, mob q rf n mm mb u162.1 u162.2 av ev wi mn tp tc sc nf fd me mp xn mt wh tq ag an ig))] := hD
                    have hP : va_P g.1 classes [(h0, .inr (10, mob q rf n mm mb u162.1 u162.2 av ev wi mn tp tc sc nf fd me mp xn mt wh tq ag an ig)), ((q 2), aI g 600 bs), ((q 14), aI g 620 tg), ((q 32), aI g 160 sk), ((q 33), aI g 160 lo), ((q 47), aI g 128 nw)] H := hP.sub [5, 0, 1, 2, 3, 4] rfl
                    have hD : va_D A [(h0, .inr (10, mob q rf n mm mb u162.1 u162.2 av ev wi mn tp tc sc nf fd me mp xn mt wh tq ag an ig)), ((q 2), aI g 600 bs), ((q 14), aI g 620 tg), ((q 32), aI g 160 sk), ((q 33), aI g 160 lo), ((q 47), aI g 128 nw)] := hD.sub [5, 0, 1, 2, 3, 4] (by decide) rfl
                    obtain ⟨hp162_0, hp162_1⟩ := hr161
                    refine lv_aload_n hx hb d_Mod_simple_125 rfl (lv_at hl 1 rfl) ?_
                    refine lv_aload_n hx hb d_Mod_simple_126 rfl (lv_at hl 1 rfl) ?_
                    refine lv_iload_n hx hb d_Mod_simple_127 rfl (lv_at hl 0 rfl) ?_
                    refine lv_iconst (v := 3) hx hb d_Mod_simple_128 (by decide) ?_
                    refine tw_si (tw_runV (ws := [(h0, .inr (10, mob q rf n mm mb u162.1 u162.2 av ev wi mn tp tc sc nf fd me mp xn mt wh tq ag an ig)), ((q 2), aI g 600 bs), ((q 14), aI g 620 tg), ((q 32), aI g 160 sk), ((q 33), aI g 160 lo), ((q 47), aI g 128 nw)]) (wc := [(h0, .inr (10, mob q rf n mm mb u162.1 u162.2 av ev wi mn tp tc sc nf fd me mp xn mt wh tq ag an ig)), ((q 14), aI g 620 tg)]) (As := [.int (nI (bt bs (wh + 1))), .int 3]) (rest := [.ref h0]) E hB hK hZ (g_Mod_isTagN l g H.size h0 q rf n mm mb u162.1 u162.2 av ev wi mn tp tc sc nf fd me mp xn mt wh tq ag an ig tg (bt bs (wh + 1)) 3 (by omega) (by omega)) mc_Mod_isTag mi_Mod_isTag me_Mod_isTag wd_1508 hP hD hS hA [0, 2] rfl (by decide) 0 rfl rfl rfl rfl rfl (by decide) rfl hl.1 rfl (Nat.le_of_ble_eq_true rfl) (by decide) d_Mod_simple_129) (fun r163 hr163 => ?_)
                    have hB163 := hr163
                    refine lv_if_eq (tgt := 139) hx hb d_Mod_simple_132 (by decide) (fun h132 => ?_) (fun h132 => ?_)
                    · refine lv_iconst (v := 4) hx hb d_Mod_simple_139 (by decide) ?_
                      refine tw_wv (wr := [((q 2), aI g 600 bs), ((q 14), aI g 620 tg), ((q 33), aI g 160 lo)]) (tw_runV (ws := [(h0, .inr (10, mob q rf n mm mb u162.1 u162.2 av ev wi mn tp tc sc nf fd me mp xn mt wh tq ag an ig)), ((q 2), aI g 600 bs), ((q 14), aI g 620 tg), ((q 32), aI g 160 sk), ((q 33), aI g 160 lo), ((q 47), aI g 128 nw)]) (wc := [(h0, .inr (10, mob q rf n mm mb u162.1 u162.2 av ev wi mn tp tc sc nf fd me mp xn mt wh tq ag an ig)), ((q 32), aI g 160 sk), ((q 47), aI g 128 nw)]) (As := [.int 4]) (rest := []) E hB hK hZ (g_Mod_give l g H.size h0 q rf n mm mb av ev wi mn tp tc sc nf fd me mp xn mt wh ag an ig sk u162.1 u162.2 tq nw 4 s1 hNW (by omega) (by omega) hsk (by omega) (fun _ => by decide)) mc_Mod_give mi_Mod_give me_Mod_give wd_1648 hP hD hS hA [0, 3, 5] rfl (by decide) 0 rfl rfl rfl rfl rfl (by decide) rfl hl.1 rfl (Nat.le_of_ble_eq_true rfl) (by decide) d_Mod_simple_140) hP hD hS hA [0, 3, 5] [1, 2, 4] rfl rfl (by decide) (by decide) (fun u165 H locs hr164 hP hD hS => ?_)
                      try dsimp only at hr164
                      have hP : va_P g.1 classes [((q 2), aI g 600 bs), ((q 14), aI g 620 tg), ((q 33), aI g 160 lo), (h0, .inr (10, mob q rf n mm mb u165.1 u165.2.1 av ev wi mn tp tc sc nf fd me mp xn mt wh u165.2.2.1 ag an ig)), ((q 32), aI g 160 sk), ((q 47), aI g 128 u165.2.2.2)] H := hP
                      have hD : va_D A [((q 2), aI g 600 bs), ((q 14), aI g 620 tg), ((q 33), aI g 160 lo), (h0, .inr (10, mob q rf n mm mb u165.1 u165.2.1 av ev wi mn tp tc sc nf fd me mp xn mt wh u165.2.2.1 ag an ig)), ((q 32), aI g 160 sk), ((q 47), aI g 128 u165.2.2.2)] := hD
                      have hP : va_P g.1 classes [(h0, .inr (10, mob q rf n mm mb u165.1 u165.2.1 av ev wi mn tp tc sc nf fd me mp xn mt wh u165.2.2.1 ag an ig)), ((q 2), aI g 600 bs), ((q 14), aI g 620 tg), ((q 32), aI g 160 sk), ((q 33), aI g 160 lo), ((q 47), aI g 128 u165.2.2.2)] H := hP.sub [3, 0, 1, 4, 2, 5] rfl
                      have hD : va_D A [(h0, .inr (10, mob q rf n mm mb u165.1 u165.2.1 av ev wi mn tp tc sc nf fd me mp xn mt wh u165.2.2.1 ag an ig)), ((q 2), aI g 600 bs), ((q 14), aI g 620 tg), ((q 32), aI g 160 sk), ((q 33), aI g 160 lo), ((q 47), aI g 128 u165.2.2.2)] := hD.sub [3, 0, 1, 4, 2, 5] (by decide) rfl
                      obtain ⟨hp165_0, hp165_1, hp165_2⟩ := hr164
                      refine lv_goto (tgt := 399) hx hb d_Mod_simple_143 (by decide) ?_
                      refine lv_iconst (v := 1) hx hb d_Mod_simple_399 (by decide) ?_
                      exact tw_zret E hS (u165.1, u165.2.1, u165.2.2.1, u165.2.2.2) (by decide) (⟨(by decide), (fun h => (fun h => (fun h => h) (hp162_0 h)) (hp165_0 h)), (by first | omega | (dsimp only <;> omega)), hp165_2⟩) hP hD d_Mod_simple_400
                    · have hT132 := hB163.2 (hB163.1.resolve_left h132)
                      refine lv_iconst (v := 1) hx hb d_Mod_simple_135 (by decide) ?_
                      refine lv_goto (tgt := 140) hx hb d_Mod_simple_136 (by decide) ?_
                      refine tw_wv (wr := [((q 2), aI g 600 bs), ((q 14), aI g 620 tg), ((q 33), aI g 160 lo)]) (tw_runV (ws := [(h0, .inr (10, mob q rf n mm mb u162.1 u162.2 av ev wi mn tp tc sc nf fd me mp xn mt wh tq ag an ig)), ((q 2), aI g 600 bs), ((q 14), aI g 620 tg), ((q 32), aI g 160 sk), ((q 33), aI g 160 lo), ((q 47), aI g 128 nw)]) (wc := [(h0, .inr (10, mob q rf n mm mb u162.1 u162.2 av ev wi mn tp tc sc nf fd me mp xn mt wh tq ag an ig)), ((q 32), aI g 160 sk), ((q 47), aI g 128 nw)]) (As := [.int 1]) (rest := []) E hB hK hZ (g_Mod_give l g H.size h0 q rf n mm mb av ev wi mn tp tc sc nf fd me mp xn mt wh ag an ig sk u162.1 u162.2 tq nw 1 s1 hNW (by omega) (by omega) hsk (by omega) (fun _ => by decide)) mc_Mod_give mi_Mod_give me_Mod_give wd_1648 hP hD hS hA [0, 3, 5] rfl (by decide) 0 rfl rfl rfl rfl rfl (by decide) rfl hl.1 rfl (Nat.le_of_ble_eq_true rfl) (by decide) d_Mod_simple_140) hP hD hS hA [0, 3, 5] [1, 2, 4] rfl rfl (by decide) (by decide) (fun u167 H locs hr166 hP hD hS => ?_)
                      try dsimp only at hr166
                      have hP : va_P g.1 classes [((q 2), aI g 600 bs), ((q 14), aI g 620 tg), ((q 33), aI g 160 lo), (h0, .inr (10, mob q rf n mm mb u167.1 u167.2.1 av ev wi mn tp tc sc nf fd me mp xn mt wh u167.2.2.1 ag an ig)), ((q 32), aI g 160 sk), ((q 47), aI g 128 u167.2.2.2)] H := hP
                      have hD : va_D A [((q 2), aI g 600 bs), ((q 14), aI g 620 tg), ((q 33), aI g 160 lo), (h0, .inr (10, mob q rf n mm mb u167.1 u167.2.1 av ev wi mn tp tc sc nf fd me mp xn mt wh u167.2.2.1 ag an ig)), ((q 32), aI g 160 sk), ((q 47), aI g 128 u167.2.2.2)] := hD
                      have hP : va_P g.1 classes [(h0, .inr (10, mob q rf n mm mb u167.1 u167.2.1 av ev wi mn tp tc sc nf fd me mp xn mt wh u167.2.2.1 ag an ig)), ((q 2), aI g 600 bs), ((q 14), aI g 620 tg), ((q 32), aI g 160 sk), ((q 33), aI g 160 lo), ((q 47), aI g 128 u167.2.2.2)] H := hP.sub [3, 0, 1, 4, 2, 5] rfl
                      have hD : va_D A [(h0, .inr (10, mob q rf n mm mb u167.1 u167.2.1 av ev wi mn tp tc sc nf fd me mp xn mt wh u167.2.2.1 ag an ig)), ((q 2), aI g 600 bs), ((q 14), aI g 620 tg), ((q 32), aI g 160 sk), ((q 33), aI g 160 lo), ((q 47), aI g 128 u167.2.2.2)] := hD.sub [3, 0, 1, 4, 2, 5] (by decide) rfl
                      obtain ⟨hp167_0, hp167_1, hp167_2⟩ := hr166
                      refine lv_goto (tgt := 399) hx hb d_Mod_simple_143 (by decide) ?_
                      refine lv_iconst (v := 1) hx hb d_Mod_simple_399 (by decide) ?_
                      exact tw_zret E hS (u167.1, u167.2.1, u167.2.2.1, u167.2.2.2) (by decide) (⟨(by decide), (fun h => (fun h => (fun h => h) (hp162_0 h)) (hp167_0 h)), (by first | omega | (dsimp only <;> omega)), hp167_2⟩) hP hD d_Mod_simple_400
                  · refine lv_aload_n hx hb d_Mod_simple_107 rfl (lv_at hl 1 rfl) ?_
                    refine lv_iload_n hx hb d_Mod_simple_108 rfl (lv_at hl 0 rfl) ?_
                    refine lv_bipush (v := 8) hx hb d_Mod_simple_109 (by decide) ?_
                    refine tw_si (tw_runV (ws := [(h0, .inr (10, mob q rf n mm mb fa fp av ev wi mn tp tc sc nf fd me mp xn mt wh tq ag an ig)), ((q 2), aI g 600 bs), ((q 14), aI g 620 tg), ((q 32), aI g 160 sk), ((q 33), aI g 160 lo), ((q 47), aI g 128 nw)]) (wc := [(h0, .inr (10, mob q rf n mm mb fa fp av ev wi mn tp tc sc nf fd me mp xn mt wh tq ag an ig)), ((q 14), aI g 620 tg)]) (As := [.int (nI (bt bs (wh + 1))), .int 8]) (rest := [.ref h0]) E hB hK hZ (g_Mod_isTagN l g H.size h0 q rf n mm mb fa fp av ev wi mn tp tc sc nf fd me mp xn mt wh tq ag an ig tg (bt bs (wh + 1)) 8 (by omega) (by omega)) mc_Mod_isTag mi_Mod_isTag me_Mod_isTag wd_1508 hP hD hS hA [0, 2] rfl (by decide) 0 rfl rfl rfl rfl rfl (by decide) rfl hl.1 rfl (Nat.le_of_ble_eq_true rfl) (by decide) d_Mod_simple_111) (fun r168 hr168 => ?_)
                    have hB168 := hr168
                    refine lv_if_eq (tgt := 121) hx hb d_Mod_simple_114 (by decide) (fun h114 => ?_) (fun h114 => ?_)
                    · refine lv_iconst (v := 0) hx hb d_Mod_simple_121 (by decide) ?_
                      refine tw_wv (wr := [((q 2), aI g 600 bs), ((q 14), aI g 620 tg), ((q 32), aI g 160 sk), ((q 33), aI g 160 lo), ((q 47), aI g 128 nw)]) (tw_runV (ws := [(h0, .inr (10, mob q rf n mm mb fa fp av ev wi mn tp tc sc nf fd me mp xn mt wh tq ag an ig)), ((q 2), aI g 600 bs), ((q 14), aI g 620 tg), ((q 32), aI g 160 sk), ((q 33), aI g 160 lo), ((q 47), aI g 128 nw)]) (wc := [(h0, .inr (10, mob q rf n mm mb fa fp av ev wi mn tp tc sc nf fd me mp xn mt wh tq ag an ig))]) (As := [.int 0]) (rest := []) E hB hK hZ (g_Mod_refer l g H.size h0 q rf n mm mb av ev wi mn tp tc sc nf fd me mp xn mt wh tq ag an ig fa fp 0) mc_Mod_refer mi_Mod_refer me_Mod_refer wd_1652 hP hD hS hA [0] rfl (by decide) 0 rfl rfl rfl rfl rfl (by decide) rfl hl.1 rfl (Nat.le_of_ble_eq_true rfl) (by decide) d_Mod_simple_122) hP hD hS hA [0] [1, 2, 3, 4, 5] rfl rfl (by decide) (by decide) (fun u170 H locs hr169 hP hD hS => ?_)
                      try dsimp only at hr169
                      have hP : va_P g.1 classes [((q 2), aI g 600 bs), ((q 14), aI g 620 tg), ((q 32), aI g 160 sk), ((q 33), aI g 160 lo), ((q 47), aI g 128 nw), (h0, .inr (10, mob q rf n mm mb u170.1 u170.2 av ev wi mn tp tc sc nf fd me mp xn mt wh tq ag an ig))] H := hP
                      have hD : va_D A [((q 2), aI g 600 bs), ((q 14), aI g 620 tg), ((q 32), aI g 160 sk), ((q 33), aI g 160 lo), ((q 47), aI g 128 nw), (h0, .inr (10, mob q rf n mm mb u170.1 u170.2 av ev wi mn tp tc sc nf fd me mp xn mt wh tq ag an ig))] := hD
                      have hP : va_P g.1 classes [(h0, .inr (10, mob q rf n mm mb u170.1 u170.2 av ev wi mn tp tc sc nf fd me mp xn mt wh tq ag an ig)), ((q 2), aI g 600 bs), ((q 14), aI g 620 tg), ((q 32), aI g 160 sk), ((q 33), aI g 160 lo), ((q 47), aI g 128 nw)] H := hP.sub [5, 0, 1, 2, 3, 4] rfl
                      have hD : va_D A [(h0, .inr (10, mob q rf n mm mb u170.1 u170.2 av ev wi mn tp tc sc nf fd me mp xn mt wh tq ag an ig)), ((q 2), aI g 600 bs), ((q 14), aI g 620 tg), ((q 32), aI g 160 sk), ((q 33), aI g 160 lo), ((q 47), aI g 128 nw)] := hD.sub [5, 0, 1, 2, 3, 4] (by decide) rfl
                      obtain ⟨hp170_0, hp170_1⟩ := hr169
                      refine lv_aload_n hx hb d_Mod_simple_125 rfl (lv_at hl 1 rfl) ?_
                      refine lv_aload_n hx hb d_Mod_simple_126 rfl (lv_at hl 1 rfl) ?_
                      refine lv_iload_n hx hb d_Mod_simple_127 rfl (lv_at hl 0 rfl) ?_
                      refine lv_iconst (v := 3) hx hb d_Mod_simple_128 (by decide) ?_
                      refine tw_si (tw_runV (ws := [(h0, .inr (10, mob q rf n mm mb u170.1 u170.2 av ev wi mn tp tc sc nf fd me mp xn mt wh tq ag an ig)), ((q 2), aI g 600 bs), ((q 14), aI g 620 tg), ((q 32), aI g 160 sk), ((q 33), aI g 160 lo), ((q 47), aI g 128 nw)]) (wc := [(h0, .inr (10, mob q rf n mm mb u170.1 u170.2 av ev wi mn tp tc sc nf fd me mp xn mt wh tq ag an ig)), ((q 14), aI g 620 tg)]) (As := [.int (nI (bt bs (wh + 1))), .int 3]) (rest := [.ref h0]) E hB hK hZ (g_Mod_isTagN l g H.size h0 q rf n mm mb u170.1 u170.2 av ev wi mn tp tc sc nf fd me mp xn mt wh tq ag an ig tg (bt bs (wh + 1)) 3 (by omega) (by omega)) mc_Mod_isTag mi_Mod_isTag me_Mod_isTag wd_1508 hP hD hS hA [0, 2] rfl (by decide) 0 rfl rfl rfl rfl rfl (by decide) rfl hl.1 rfl (Nat.le_of_ble_eq_true rfl) (by decide) d_Mod_simple_129) (fun r171 hr171 => ?_)
                      have hB171 := hr171
                      refine lv_if_eq (tgt := 139) hx hb d_Mod_simple_132 (by decide) (fun h132 => ?_) (fun h132 => ?_)
                      · refine lv_iconst (v := 4) hx hb d_Mod_simple_139 (by decide) ?_
                        refine tw_wv (wr := [((q 2), aI g 600 bs), ((q 14), aI g 620 tg), ((q 33), aI g 160 lo)]) (tw_runV (ws := [(h0, .inr (10, mob q rf n mm mb u170.1 u170.2 av ev wi mn tp tc sc nf fd me mp xn mt wh tq ag an ig)), ((q 2), aI g 600 bs), ((q 14), aI g 620 tg), ((q 32), aI g 160 sk), ((q 33), aI g 160 lo), ((q 47), aI g 128 nw)]) (wc := [(h0, .inr (10, mob q rf n mm mb u170.1 u170.2 av ev wi mn tp tc sc nf fd me mp xn mt wh tq ag an ig)), ((q 32), aI g 160 sk), ((q 47), aI g 128 nw)]) (As := [.int 4]) (rest := []) E hB hK hZ (g_Mod_give l g H.size h0 q rf n mm mb av ev wi mn tp tc sc nf fd me mp xn mt wh ag an ig sk u170.1 u170.2 tq nw 4 s1 hNW (by omega) (by omega) hsk (by omega) (fun _ => by decide)) mc_Mod_give mi_Mod_give me_Mod_give wd_1648 hP hD hS hA [0, 3, 5] rfl (by decide) 0 rfl rfl rfl rfl rfl (by decide) rfl hl.1 rfl (Nat.le_of_ble_eq_true rfl) (by decide) d_Mod_simple_140) hP hD hS hA [0, 3, 5] [1, 2, 4] rfl rfl (by decide) (by decide) (fun u173 H locs hr172 hP hD hS => ?_)
                        try dsimp only at hr172
                        have hP : va_P g.1 classes [((q 2), aI g 600 bs), ((q 14), aI g 620 tg), ((q 33), aI g 160 lo), (h0, .inr (10, mob q rf n mm mb u173.1 u173.2.1 av ev wi mn tp tc sc nf fd me mp xn mt wh u173.2.2.1 ag an ig)), ((q 32), aI g 160 sk), ((q 47), aI g 128 u173.2.2.2)] H := hP
                        have hD : va_D A [((q 2), aI g 600 bs), ((q 14), aI g 620 tg), ((q 33), aI g 160 lo), (h0, .inr (10, mob q rf n mm mb u173.1 u173.2.1 av ev wi mn tp tc sc nf fd me mp xn mt wh u173.2.2.1 ag an ig)), ((q 32), aI g 160 sk), ((q 47), aI g 128 u173.2.2.2)] := hD
                        have hP : va_P g.1 classes [(h0, .inr (10, mob q rf n mm mb u173.1 u173.2.1 av ev wi mn tp tc sc nf fd me mp xn mt wh u173.2.2.1 ag an ig)), ((q 2), aI g 600 bs), ((q 14), aI g 620 tg), ((q 32), aI g 160 sk), ((q 33), aI g 160 lo), ((q 47), aI g 128 u173.2.2.2)] H := hP.sub [3, 0, 1, 4, 2, 5] rfl
                        have hD : va_D A [(h0, .inr (10, mob q rf n mm mb u173.1 u173.2.1 av ev wi mn tp tc sc nf fd me mp xn mt wh u173.2.2.1 ag an ig)), ((q 2), aI g 600 bs), ((q 14), aI g 620 tg), ((q 32), aI g 160 sk), ((q 33), aI g 160 lo), ((q 47), aI g 128 u173.2.2.2)] := hD.sub [3, 0, 1, 4, 2, 5] (by decide) rfl
                        obtain ⟨hp173_0, hp173_1, hp173_2⟩ := hr172
                        refine lv_goto (tgt := 399) hx hb d_Mod_simple_143 (by decide) ?_
                        refine lv_iconst (v := 1) hx hb d_Mod_simple_399 (by decide) ?_
                        exact tw_zret E hS (u173.1, u173.2.1, u173.2.2.1, u173.2.2.2) (by decide) (⟨(by decide), (fun h => (fun h => (fun h => h) (hp170_0 h)) (hp173_0 h)), (by first | omega | (dsimp only <;> omega)), hp173_2⟩) hP hD d_Mod_simple_400
                      · have hT132 := hB171.2 (hB171.1.resolve_left h132)
                        refine lv_iconst (v := 1) hx hb d_Mod_simple_135 (by decide) ?_
                        refine lv_goto (tgt := 140) hx hb d_Mod_simple_136 (by decide) ?_
                        refine tw_wv (wr := [((q 2), aI g 600 bs), ((q 14), aI g 620 tg), ((q 33), aI g 160 lo)]) (tw_runV (ws := [(h0, .inr (10, mob q rf n mm mb u170.1 u170.2 av ev wi mn tp tc sc nf fd me mp xn mt wh tq ag an ig)), ((q 2), aI g 600 bs), ((q 14), aI g 620 tg), ((q 32), aI g 160 sk), ((q 33), aI g 160 lo), ((q 47), aI g 128 nw)]) (wc := [(h0, .inr (10, mob q rf n mm mb u170.1 u170.2 av ev wi mn tp tc sc nf fd me mp xn mt wh tq ag an ig)), ((q 32), aI g 160 sk), ((q 47), aI g 128 nw)]) (As := [.int 1]) (rest := []) E hB hK hZ (g_Mod_give l g H.size h0 q rf n mm mb av ev wi mn tp tc sc nf fd me mp xn mt wh ag an ig sk u170.1 u170.2 tq nw 1 s1 hNW (by omega) (by omega) hsk (by omega) (fun _ => by decide)) mc_Mod_give mi_Mod_give me_Mod_give wd_1648 hP hD hS hA [0, 3, 5] rfl (by decide) 0 rfl rfl rfl rfl rfl (by decide) rfl hl.1 rfl (Nat.le_of_ble_eq_true rfl) (by decide) d_Mod_simple_140) hP hD hS hA [0, 3, 5] [1, 2, 4] rfl rfl (by decide) (by decide) (fun u175 H locs hr174 hP hD hS => ?_)
                        try dsimp only at hr174
                        have hP : va_P g.1 classes [((q 2), aI g 600 bs), ((q 14), aI g 620 tg), ((q 33), aI g 160 lo), (h0, .inr (10, mob q rf n mm mb u175.1 u175.2.1 av ev wi mn tp tc sc nf fd me mp xn mt wh u175.2.2.1 ag an ig)), ((q 32), aI g 160 sk), ((q 47), aI g 128 u175.2.2.2)] H := hP
                        have hD : va_D A [((q 2), aI g 600 bs), ((q 14), aI g 620 tg), ((q 33), aI g 160 lo), (h0, .inr (10, mob q rf n mm mb u175.1 u175.2.1 av ev wi mn tp tc sc nf fd me mp xn mt wh u175.2.2.1 ag an ig)), ((q 32), aI g 160 sk), ((q 47), aI g 128 u175.2.2.2)] := hD
                        have hP : va_P g.1 classes [(h0, .inr (10, mob q rf n mm mb u175.1 u175.2.1 av ev wi mn tp tc sc nf fd me mp xn mt wh u175.2.2.1 ag an ig)), ((q 2), aI g 600 bs), ((q 14), aI g 620 tg), ((q 32), aI g 160 sk), ((q 33), aI g 160 lo), ((q 47), aI g 128 u175.2.2.2)] H := hP.sub [3, 0, 1, 4, 2, 5] rfl
                        have hD : va_D A [(h0, .inr (10, mob q rf n mm mb u175.1 u175.2.1 av ev wi mn tp tc sc nf fd me mp xn mt wh u175.2.2.1 ag an ig)), ((q 2), aI g 600 bs), ((q 14), aI g 620 tg), ((q 32), aI g 160 sk), ((q 33), aI g 160 lo), ((q 47), aI g 128 u175.2.2.2)] := hD.sub [3, 0, 1, 4, 2, 5] (by decide) rfl
                        obtain ⟨hp175_0, hp175_1, hp175_2⟩ := hr174
                        refine lv_goto (tgt := 399) hx hb d_Mod_simple_143 (by decide) ?_
                        refine lv_iconst (v := 1) hx hb d_Mod_simple_399 (by decide) ?_
                        exact tw_zret E hS (u175.1, u175.2.1, u175.2.2.1, u175.2.2.2) (by decide) (⟨(by decide), (fun h => (fun h => (fun h => h) (hp170_0 h)) (hp175_0 h)), (by first | omega | (dsimp only <;> omega)), hp175_2⟩) hP hD d_Mod_simple_400
                    · have hT114 := hB168.2 (hB168.1.resolve_left h114)
                      refine lv_iconst (v := 1) hx hb d_Mod_simple_117 (by decide) ?_
                      refine lv_goto (tgt := 122) hx hb d_Mod_simple_118 (by decide) ?_
                      refine tw_wv (wr := [((q 2), aI g 600 bs), ((q 14), aI g 620 tg), ((q 32), aI g 160 sk), ((q 33), aI g 160 lo), ((q 47), aI g 128 nw)]) (tw_runV (ws := [(h0, .inr (10, mob q rf n mm mb fa fp av ev wi mn tp tc sc nf fd me mp xn mt wh tq ag an ig)), ((q 2), aI g 600 bs), ((q 14), aI g 620 tg), ((q 32), aI g 160 sk), ((q 33), aI g 160 lo), ((q 47), aI g 128 nw)]) (wc := [(h0, .inr (10, mob q rf n mm mb fa fp av ev wi mn tp tc sc nf fd me mp xn mt wh tq ag an ig))]) (As := [.int 1]) (rest := []) E hB hK hZ (g_Mod_refer l g H.size h0 q rf n mm mb av ev wi mn tp tc sc nf fd me mp xn mt wh tq ag an ig fa fp 1) mc_Mod_refer mi_Mod_refer me_Mod_refer wd_1652 hP hD hS hA [0] rfl (by decide) 0 rfl rfl rfl rfl rfl (by decide) rfl hl.1 rfl (Nat.le_of_ble_eq_true rfl) (by decide) d_Mod_simple_122) hP hD hS hA [0] [1, 2, 3, 4, 5] rfl rfl (by decide) (by decide) (fun u177 H locs hr176 hP hD hS => ?_)
                      try dsimp only at hr176
                      have hP : va_P g.1 classes [((q 2), aI g 600 bs), ((q 14), aI g 620 tg), ((q 32), aI g 160 sk), ((q 33), aI g 160 lo), ((q 47), aI g 128 nw), (h0, .inr (10, mob q rf n mm mb u177.1 u177.2 av ev wi mn tp tc sc nf fd me mp xn mt wh tq ag an ig))] H := hP
                      have hD : va_D A [((q 2), aI g 600 bs), ((q 14), aI g 620 tg), ((q 32), aI g 160 sk), ((q 33), aI g 160 lo), ((q 47), aI g 128 nw), (h0, .inr (10, mob q rf n mm mb u177.1 u177.2 av ev wi mn tp tc sc nf fd me mp xn mt wh tq ag an ig))] := hD
                      have hP : va_P g.1 classes [(h0, .inr (10, mob q rf n mm mb u177.1 u177.2 av ev wi mn tp tc sc nf fd me mp xn mt wh tq ag an ig)), ((q 2), aI g 600 bs), ((q 14), aI g 620 tg), ((q 32), aI g 160 sk), ((q 33), aI g 160 lo), ((q 47), aI g 128 nw)] H := hP.sub [5, 0, 1, 2, 3, 4] rfl
                      have hD : va_D A [(h0, .inr (10, mob q rf n mm mb u177.1 u177.2 av ev wi mn tp tc sc nf fd me mp xn mt wh tq ag an ig)), ((q 2), aI g 600 bs), ((q 14), aI g 620 tg), ((q 32), aI g 160 sk), ((q 33), aI g 160 lo), ((q 47), aI g 128 nw)] := hD.sub [5, 0, 1, 2, 3, 4] (by decide) rfl
                      obtain ⟨hp177_0, hp177_1⟩ := hr176
                      refine lv_aload_n hx hb d_Mod_simple_125 rfl (lv_at hl 1 rfl) ?_
                      refine lv_aload_n hx hb d_Mod_simple_126 rfl (lv_at hl 1 rfl) ?_
                      refine lv_iload_n hx hb d_Mod_simple_127 rfl (lv_at hl 0 rfl) ?_
                      refine lv_iconst (v := 3) hx hb d_Mod_simple_128 (by decide) ?_
                      refine tw_si (tw_runV (ws := [(h0, .inr (10, mob q rf n mm mb u177.1 u177.2 av ev wi mn tp tc sc nf fd me mp xn mt wh tq ag an ig)), ((q 2), aI g 600 bs), ((q 14), aI g 620 tg), ((q 32), aI g 160 sk), ((q 33), aI g 160 lo), ((q 47), aI g 128 nw)]) (wc := [(h0, .inr (10, mob q rf n mm mb u177.1 u177.2 av ev wi mn tp tc sc nf fd me mp xn mt wh tq ag an ig)), ((q 14), aI g 620 tg)]) (As := [.int (nI (bt bs (wh + 1))), .int 3]) (rest := [.ref h0]) E hB hK hZ (g_Mod_isTagN l g H.size h0 q rf n mm mb u177.1 u177.2 av ev wi mn tp tc sc nf fd me mp xn mt wh tq ag an ig tg (bt bs (wh + 1)) 3 (by omega) (by omega)) mc_Mod_isTag mi_Mod_isTag me_Mod_isTag wd_1508 hP hD hS hA [0, 2] rfl (by decide) 0 rfl rfl rfl rfl rfl (by decide) rfl hl.1 rfl (Nat.le_of_ble_eq_true rfl) (by decide) d_Mod_simple_129) (fun r178 hr178 => ?_)
                      have hB178 := hr178
                      refine lv_if_eq (tgt := 139) hx hb d_Mod_simple_132 (by decide) (fun h132 => ?_) (fun h132 => ?_)
                      · refine lv_iconst (v := 4) hx hb d_Mod_simple_139 (by decide) ?_
                        refine tw_wv (wr := [((q 2), aI g 600 bs), ((q 14), aI g 620 tg), ((q 33), aI g 160 lo)]) (tw_runV (ws := [(h0, .inr (10, mob q rf n mm mb u177.1 u177.2 av ev wi mn tp tc sc nf fd me mp xn mt wh tq ag an ig)), ((q 2), aI g 600 bs), ((q 14), aI g 620 tg), ((q 32), aI g 160 sk), ((q 33), aI g 160 lo), ((q 47), aI g 128 nw)]) (wc := [(h0, .inr (10, mob q rf n mm mb u177.1 u177.2 av ev wi mn tp tc sc nf fd me mp xn mt wh tq ag an ig)), ((q 32), aI g 160 sk), ((q 47), aI g 128 nw)]) (As := [.int 4]) (rest := []) E hB hK hZ (g_Mod_give l g H.size h0 q rf n mm mb av ev wi mn tp tc sc nf fd me mp xn mt wh ag an ig sk u177.1 u177.2 tq nw 4 s1 hNW (by omega) (by omega) hsk (by omega) (fun _ => by decide)) mc_Mod_give mi_Mod_give me_Mod_give wd_1648 hP hD hS hA [0, 3, 5] rfl (by decide) 0 rfl rfl rfl rfl rfl (by decide) rfl hl.1 rfl (Nat.le_of_ble_eq_true rfl) (by decide) d_Mod_simple_140) hP hD hS hA [0, 3, 5] [1, 2, 4] rfl rfl (by decide) (by decide) (fun u180 H locs hr179 hP hD hS => ?_)
                        try dsimp only at hr179
                        have hP : va_P g.1 classes [((q 2), aI g 600 bs), ((q 14), aI g 620 tg), ((q 33), aI g 160 lo), (h0, .inr (10, mob q rf n mm mb u180.1 u180.2.1 av ev wi mn tp tc sc nf fd me mp xn mt wh u180.2.2.1 ag an ig)), ((q 32), aI g 160 sk), ((q 47), aI g 128 u180.2.2.2)] H := hP
                        have hD : va_D A [((q 2), aI g 600 bs), ((q 14), aI g 620 tg), ((q 33), aI g 160 lo), (h0, .inr (10, mob q rf n mm mb u180.1 u180.2.1 av ev wi mn tp tc sc nf fd me mp xn mt wh u180.2.2.1 ag an ig)), ((q 32), aI g 160 sk), ((q 47), aI g 128 u180.2.2.2)] := hD
                        have hP : va_P g.1 classes [(h0, .inr (10, mob q rf n mm mb u180.1 u180.2.1 av ev wi mn tp tc sc nf fd me mp xn mt wh u180.2.2.1 ag an ig)), ((q 2), aI g 600 bs), ((q 14), aI g 620 tg), ((q 32), aI g 160 sk), ((q 33), aI g 160 lo), ((q 47), aI g 128 u180.2.2.2)] H := hP.sub [3, 0, 1, 4, 2, 5] rfl
                        have hD : va_D A [(h0, .inr (10, mob q rf n mm mb u180.1 u180.2.1 av ev wi mn tp tc sc nf fd me mp xn mt wh u180.2.2.1 ag an ig)), ((q 2), aI g 600 bs), ((q 14), aI g 620 tg), ((q 32), aI g 160 sk), ((q 33), aI g 160 lo), ((q 47), aI g 128 u180.2.2.2)] := hD.sub [3, 0, 1, 4, 2, 5] (by decide) rfl
                        obtain ⟨hp180_0, hp180_1, hp180_2⟩ := hr179
                        refine lv_goto (tgt := 399) hx hb d_Mod_simple_143 (by decide) ?_
                        refine lv_iconst (v := 1) hx hb d_Mod_simple_399 (by decide) ?_
                        exact tw_zret E hS (u180.1, u180.2.1, u180.2.2.1, u180.2.2.2) (by decide) (⟨(by decide), (fun h => (fun h => (fun h => h) (hp177_0 h)) (hp180_0 h)), (by first | omega | (dsimp only <;> omega)), hp180_2⟩) hP hD d_Mod_simple_400
                      · have hT132 := hB178.2 (hB178.1.resolve_left h132)
                        refine lv_iconst (v := 1) hx hb d_Mod_simple_135 (by decide) ?_
                        refine lv_goto (tgt := 140) hx hb d_Mod_simple_136 (by decide) ?_
                        refine tw_wv (wr := [((q 2), aI g 600 bs), ((q 14), aI g 620 tg), ((q 33), aI g 160 lo)]) (tw_runV (ws := [(h0, .inr (10, mob q rf n mm mb u177.1 u177.2 av ev wi mn tp tc sc nf fd me mp xn mt wh tq ag an ig)), ((q 2), aI g 600 bs), ((q 14), aI g 620 tg), ((q 32), aI g 160 sk), ((q 33), aI g 160 lo), ((q 47), aI g 128 nw)]) (wc := [(h0, .inr (10, mob q rf n mm mb u177.1 u177.2 av ev wi mn tp tc sc nf fd me mp xn mt wh tq ag an ig)), ((q 32), aI g 160 sk), ((q 47), aI g 128 nw)]) (As := [.int 1]) (rest := []) E hB hK hZ (g_Mod_give l g H.size h0 q rf n mm mb av ev wi mn tp tc sc nf fd me mp xn mt wh ag an ig sk u177.1 u177.2 tq nw 1 s1 hNW (by omega) (by omega) hsk (by omega) (fun _ => by decide)) mc_Mod_give mi_Mod_give me_Mod_give wd_1648 hP hD hS hA [0, 3, 5] rfl (by decide) 0 rfl rfl rfl rfl rfl (by decide) rfl hl.1 rfl (Nat.le_of_ble_eq_true rfl) (by decide) d_Mod_simple_140) hP hD hS hA [0, 3, 5] [1, 2, 4] rfl rfl (by decide) (by decide) (fun u182 H locs hr181 hP hD hS => ?_)
                        try dsimp only at hr181
                        have hP : va_P g.1 classes [((q 2), aI g 600 bs), ((q 14), aI g 620 tg), ((q 33), aI g 160 lo), (h0, .inr (10, mob q rf n mm mb u182.1 u182.2.1 av ev wi mn tp tc sc nf fd me mp xn mt wh u182.2.2.1 ag an ig)), ((q 32), aI g 160 sk), ((q 47), aI g 128 u182.2.2.2)] H := hP
                        have hD : va_D A [((q 2), aI g 600 bs), ((q 14), aI g 620 tg), ((q 33), aI g 160 lo), (h0, .inr (10, mob q rf n mm mb u182.1 u182.2.1 av ev wi mn tp tc sc nf fd me mp xn mt wh u182.2.2.1 ag an ig)), ((q 32), aI g 160 sk), ((q 47), aI g 128 u182.2.2.2)] := hD
                        have hP : va_P g.1 classes [(h0, .inr (10, mob q rf n mm mb u182.1 u182.2.1 av ev wi mn tp tc sc nf fd me mp xn mt wh u182.2.2.1 ag an ig)), ((q 2), aI g 600 bs), ((q 14), aI g 620 tg), ((q 32), aI g 160 sk), ((q 33), aI g 160 lo), ((q 47), aI g 128 u182.2.2.2)] H := hP.sub [3, 0, 1, 4, 2, 5] rfl
                        have hD : va_D A [(h0, .inr (10, mob q rf n mm mb u182.1 u182.2.1 av ev wi mn tp tc sc nf fd me mp xn mt wh u182.2.2.1 ag an ig)), ((q 2), aI g 600 bs), ((q 14), aI g 620 tg), ((q 32), aI g 160 sk), ((q 33), aI g 160 lo), ((q 47), aI g 128 u182.2.2.2)] := hD.sub [3, 0, 1, 4, 2, 5] (by decide) rfl
                        obtain ⟨hp182_0, hp182_1, hp182_2⟩ := hr181
                        refine lv_goto (tgt := 399) hx hb d_Mod_simple_143 (by decide) ?_
                        refine lv_iconst (v := 1) hx hb d_Mod_simple_399 (by decide) ?_
                        exact tw_zret E hS (u182.1, u182.2.1, u182.2.2.1, u182.2.2.2) (by decide) (⟨(by decide), (fun h => (fun h => (fun h => h) (hp177_0 h)) (hp182_0 h)), (by first | omega | (dsimp only <;> omega)), hp182_2⟩) hP hD d_Mod_simple_400
              · refine lv_aload_n hx hb d_Mod_simple_83 rfl (lv_at hl 1 rfl) ?_
                refine lv_iconst (v := 2) hx hb d_Mod_simple_84 (by decide) ?_
                refine tw_wv (wr := [((q 2), aI g 600 bs), ((q 14), aI g 620 tg), ((q 33), aI g 160 lo)]) (tw_runV (ws := [(h0, .inr (10, mob q rf n mm mb fa fp av ev wi mn tp tc sc nf fd me mp xn mt wh tq ag an ig)), ((q 2), aI g 600 bs), ((q 14), aI g 620 tg), ((q 32), aI g 160 sk), ((q 33), aI g 160 lo), ((q 47), aI g 128 nw)]) (wc := [(h0, .inr (10, mob q rf n mm mb fa fp av ev wi mn tp tc sc nf fd me mp xn mt wh tq ag an ig)), ((q 32), aI g 160 sk), ((q 47), aI g 128 nw)]) (As := [.int 2]) (rest := []) E hB hK hZ (g_Mod_give l g H.size h0 q rf n mm mb av ev wi mn tp tc sc nf fd me mp xn mt wh ag an ig sk fa fp tq nw 2 s1 hNW (by omega) (by omega) hsk (by omega) (fun _ => by decide)) mc_Mod_give mi_Mod_give me_Mod_give wd_1648 hP hD hS hA [0, 3, 5] rfl (by decide) 0 rfl rfl rfl rfl rfl (by decide) rfl hl.1 rfl (Nat.le_of_ble_eq_true rfl) (by decide) d_Mod_simple_85) hP hD hS hA [0, 3, 5] [1, 2, 4] rfl rfl (by decide) (by decide) (fun u184 H locs hr183 hP hD hS => ?_)
                try dsimp only at hr183
                have hP : va_P g.1 classes [((q 2), aI g 600 bs), ((q 14), aI g 620 tg), ((q 33), aI g 160 lo), (h0, .inr (10, mob q rf n mm mb u184.1 u184.2.1 av ev wi mn tp tc sc nf fd me mp xn mt wh u184.2.2.1 ag an ig)), ((q 32), aI g 160 sk), ((q 47), aI g 128 u184.2.2.2)] H := hP
                have hD : va_D A [((q 2), aI g 600 bs), ((q 14), aI g 620 tg), ((q 33), aI g 160 lo), (h0, .inr (10, mob q rf n mm mb u184.1 u184.2.1 av ev wi mn tp tc sc nf fd me mp xn mt wh u184.2.2.1 ag an ig)), ((q 32), aI g 160 sk), ((q 47), aI g 128 u184.2.2.2)] := hD
                have hP : va_P g.1 classes [(h0, .inr (10, mob q rf n mm mb u184.1 u184.2.1 av ev wi mn tp tc sc nf fd me mp xn mt wh u184.2.2.1 ag an ig)), ((q 2), aI g 600 bs), ((q 14), aI g 620 tg), ((q 32), aI g 160 sk), ((q 33), aI g 160 lo), ((q 47), aI g 128 u184.2.2.2)] H := hP.sub [3, 0, 1, 4, 2, 5] rfl
                have hD : va_D A [(h0, .inr (10, mob q rf n mm mb u184.1 u184.2.1 av ev wi mn tp tc sc nf fd me mp xn mt wh u184.2.2.1 ag an ig)), ((q 2), aI g 600 bs), ((q 14), aI g 620 tg), ((q 32), aI g 160 sk), ((q 33), aI g 160 lo), ((q 47), aI g 128 u184.2.2.2)] := hD.sub [3, 0, 1, 4, 2, 5] (by decide) rfl
                obtain ⟨hp184_0, hp184_1, hp184_2⟩ := hr183
                refine lv_goto (tgt := 399) hx hb d_Mod_simple_88 (by decide) ?_
                refine lv_iconst (v := 1) hx hb d_Mod_simple_399 (by decide) ?_
                exact tw_zret E hS (u184.1, u184.2.1, u184.2.2.1, u184.2.2.2) (by decide) (⟨(by decide), (fun h => (fun h => h) (hp184_0 h)), (by first | omega | (dsimp only <;> omega)), hp184_2⟩) hP hD d_Mod_simple_400
          · refine lv_aload_n hx hb d_Mod_simple_63 rfl (lv_at hl 1 rfl) ?_
            refine lv_iconst (v := 1) hx hb d_Mod_simple_64 (by decide) ?_
            refine tw_wv (wr := [((q 2), aI g 600 bs), ((q 14), aI g 620 tg), ((q 33), aI g 160 lo)]) (tw_runV (ws := [(h0, .inr (10, mob q rf n mm mb fa fp av ev wi mn tp tc sc nf fd me mp xn mt wh tq ag an ig)), ((q 2), aI g 600 bs), ((q 14), aI g 620 tg), ((q 32), aI g 160 sk), ((q 33), aI g 160 lo), ((q 47), aI g 128 nw)]) (wc := [(h0, .inr (10, mob q rf n mm mb fa fp av ev wi mn tp tc sc nf fd me mp xn mt wh tq ag an ig)), ((q 32), aI g 160 sk), ((q 47), aI g 128 nw)]) (As := [.int 1]) (rest := []) E hB hK hZ (g_Mod_give l g H.size h0 q rf n mm mb av ev wi mn tp tc sc nf fd me mp xn mt wh ag an ig sk fa fp tq nw 1 s1 hNW (by omega) (by omega) hsk (by omega) (fun _ => by decide)) mc_Mod_give mi_Mod_give me_Mod_give wd_1648 hP hD hS hA [0, 3, 5] rfl (by decide) 0 rfl rfl rfl rfl rfl (by decide) rfl hl.1 rfl (Nat.le_of_ble_eq_true rfl) (by decide) d_Mod_simple_65) hP hD hS hA [0, 3, 5] [1, 2, 4] rfl rfl (by decide) (by decide) (fun u186 H locs hr185 hP hD hS => ?_)
            try dsimp only at hr185
            have hP : va_P g.1 classes [((q 2), aI g 600 bs), ((q 14), aI g 620 tg), ((q 33), aI g 160 lo), (h0, .inr (10, mob q rf n mm mb u186.1 u186.2.1 av ev wi mn tp tc sc nf fd me mp xn mt wh u186.2.2.1 ag an ig)), ((q 32), aI g 160 sk), ((q 47), aI g 128 u186.2.2.2)] H := hP
            have hD : va_D A [((q 2), aI g 600 bs), ((q 14), aI g 620 tg), ((q 33), aI g 160 lo), (h0, .inr (10, mob q rf n mm mb u186.1 u186.2.1 av ev wi mn tp tc sc nf fd me mp xn mt wh u186.2.2.1 ag an ig)), ((q 32), aI g 160 sk), ((q 47), aI g 128 u186.2.2.2)] := hD
            have hP : va_P g.1 classes [(h0, .inr (10, mob q rf n mm mb u186.1 u186.2.1 av ev wi mn tp tc sc nf fd me mp xn mt wh u186.2.2.1 ag an ig)), ((q 2), aI g 600 bs), ((q 14), aI g 620 tg), ((q 32), aI g 160 sk), ((q 33), aI g 160 lo), ((q 47), aI g 128 u186.2.2.2)] H := hP.sub [3, 0, 1, 4, 2, 5] rfl
            have hD : va_D A [(h0, .inr (10, mob q rf n mm mb u186.1 u186.2.1 av ev wi mn tp tc sc nf fd me mp xn mt wh u186.2.2.1 ag an ig)), ((q 2), aI g 600 bs), ((q 14), aI g 620 tg), ((q 32), aI g 160 sk), ((q 33), aI g 160 lo), ((q 47), aI g 128 u186.2.2.2)] := hD.sub [3, 0, 1, 4, 2, 5] (by decide) rfl
            obtain ⟨hp186_0, hp186_1, hp186_2⟩ := hr185
            refine lv_goto (tgt := 399) hx hb d_Mod_simple_68 (by decide) ?_
            refine lv_iconst (v := 1) hx hb d_Mod_simple_399 (by decide) ?_
            exact tw_zret E hS (u186.1, u186.2.1, u186.2.2.1, u186.2.2.2) (by decide) (⟨(by decide), (fun h => (fun h => h) (hp186_0 h)), (by first | omega | (dsimp only <;> omega)), hp186_2⟩) hP hD d_Mod_simple_400
    · refine lv_aload_n hx hb d_Mod_simple_33 rfl (lv_at hl 1 rfl) ?_
      refine lv_iconst (v := 4) hx hb d_Mod_simple_34 (by decide) ?_
      refine tw_wv (wr := [((q 2), aI g 600 bs), ((q 14), aI g 620 tg), ((q 33), aI g 160 lo)]) (tw_runV (ws := [(h0, .inr (10, mob q rf n mm mb fa fp av ev wi mn tp tc sc nf fd me mp xn mt wh tq ag an ig)), ((q 2), aI g 600 bs), ((q 14), aI g 620 tg), ((q 32), aI g 160 sk), ((q 33), aI g 160 lo), ((q 47), aI g 128 nw)]) (wc := [(h0, .inr (10, mob q rf n mm mb fa fp av ev wi mn tp tc sc nf fd me mp xn mt wh tq ag an ig)), ((q 32), aI g 160 sk), ((q 47), aI g 128 nw)]) (As := [.int 4]) (rest := []) E hB hK hZ (g_Mod_give l g H.size h0 q rf n mm mb av ev wi mn tp tc sc nf fd me mp xn mt wh ag an ig sk fa fp tq nw 4 s1 hNW (by omega) (by omega) hsk (by omega) (fun _ => by decide)) mc_Mod_give mi_Mod_give me_Mod_give wd_1648 hP hD hS hA [0, 3, 5] rfl (by decide) 0 rfl rfl rfl rfl rfl (by decide) rfl hl.1 rfl (Nat.le_of_ble_eq_true rfl) (by decide) d_Mod_simple_35) hP hD hS hA [0, 3, 5] [1, 2, 4] rfl rfl (by decide) (by decide) (fun u188 H locs hr187 hP hD hS => ?_)
      try dsimp only at hr187
      have hP : va_P g.1 classes [((q 2), aI g 600 bs), ((q 14), aI g 620 tg), ((q 33), aI g 160 lo), (h0, .inr (10, mob q rf n mm mb u188.1 u188.2.1 av ev wi mn tp tc sc nf fd me mp xn mt wh u188.2.2.1 ag an ig)), ((q 32), aI g 160 sk), ((q 47), aI g 128 u188.2.2.2)] H := hP
      have hD : va_D A [((q 2), aI g 600 bs), ((q 14), aI g 620 tg), ((q 33), aI g 160 lo), (h0, .inr (10, mob q rf n mm mb u188.1 u188.2.1 av ev wi mn tp tc sc nf fd me mp xn mt wh u188.2.2.1 ag an ig)), ((q 32), aI g 160 sk), ((q 47), aI g 128 u188.2.2.2)] := hD
      have hP : va_P g.1 classes [(h0, .inr (10, mob q rf n mm mb u188.1 u188.2.1 av ev wi mn tp tc sc nf fd me mp xn mt wh u188.2.2.1 ag an ig)), ((q 2), aI g 600 bs), ((q 14), aI g 620 tg), ((q 32), aI g 160 sk), ((q 33), aI g 160 lo), ((q 47), aI g 128 u188.2.2.2)] H := hP.sub [3, 0, 1, 4, 2, 5] rfl
      have hD : va_D A [(h0, .inr (10, mob q rf n mm mb u188.1 u188.2.1 av ev wi mn tp tc sc nf fd me mp xn mt wh u188.2.2.1 ag an ig)), ((q 2), aI g 600 bs), ((q 14), aI g 620 tg), ((q 32), aI g 160 sk), ((q 33), aI g 160 lo), ((q 47), aI g 128 u188.2.2.2)] := hD.sub [3, 0, 1, 4, 2, 5] (by decide) rfl
      obtain ⟨hp188_0, hp188_1, hp188_2⟩ := hr187
      refine lv_goto (tgt := 399) hx hb d_Mod_simple_38 (by decide) ?_
      refine lv_iconst (v := 1) hx hb d_Mod_simple_399 (by decide) ?_
      exact tw_zret E hS (u188.1, u188.2.1, u188.2.2.1, u188.2.2.2) (by decide) (⟨(by decide), (fun h => (fun h => h) (hp188_0 h)), (by first | omega | (dsimp only <;> omega)), hp188_2⟩) hP hD d_Mod_simple_400
end
section
theorem d_Mod_act_0 : decode b_Mod_act 0 = .ok (.iload_n 1, 1) := by decide +kernel
theorem d_Mod_act_1 : decode b_Mod_act 1 = .ok (.sipush 153, 3) := by decide +kernel
theorem d_Mod_act_4 : decode b_Mod_act 4 = .ok (.if_icmp .lt 28, 3) := by decide +kernel
theorem d_Mod_act_7 : decode b_Mod_act 7 = .ok (.aload_n 0, 1) := by decide +kernel
theorem d_Mod_act_8 : decode b_Mod_act 8 = .ok (.getfield 309, 3) := by decide +kernel
theorem d_Mod_act_11 : decode b_Mod_act 11 = .ok (.iconst 2, 1) := by decide +kernel
theorem d_Mod_act_12 : decode b_Mod_act 12 = .ok (.iadd, 1) := by decide +kernel
theorem d_Mod_act_13 : decode b_Mod_act 13 = .ok (.sipush 600, 3) := by decide +kernel
theorem d_Mod_act_16 : decode b_Mod_act 16 = .ok (.if_icmp .ge 16, 3) := by decide +kernel
theorem d_Mod_act_19 : decode b_Mod_act 19 = .ok (.aload_n 0, 1) := by decide +kernel
theorem d_Mod_act_20 : decode b_Mod_act 20 = .ok (.aload_n 0, 1) := by decide +kernel
theorem d_Mod_act_21 : decode b_Mod_act 21 = .ok (.getfield 309, 3) := by decide +kernel
theorem d_Mod_act_24 : decode b_Mod_act 24 = .ok (.iconst 1, 1) := by decide +kernel
theorem d_Mod_act_25 : decode b_Mod_act 25 = .ok (.iadd, 1) := by decide +kernel
theorem d_Mod_act_26 : decode b_Mod_act 26 = .ok (.invokevirtual 294, 3) := by decide +kernel
theorem d_Mod_act_29 : decode b_Mod_act 29 = .ok (.goto 4, 3) := by decide +kernel
theorem d_Mod_act_32 : decode b_Mod_act 32 = .ok (.iconst 0, 1) := by decide +kernel
theorem d_Mod_act_33 : decode b_Mod_act 33 = .ok (.istore_n 2, 1) := by decide +kernel
theorem d_Mod_act_34 : decode b_Mod_act 34 = .ok (.iload_n 1, 1) := by decide +kernel
theorem d_Mod_act_35 : decode b_Mod_act 35 = .ok (.sipush 132, 3) := by decide +kernel
theorem d_Mod_act_38 : decode b_Mod_act 38 = .ok (.if_icmp .ne 59, 3) := by decide +kernel
theorem d_Mod_act_41 : decode b_Mod_act 41 = .ok (.aload_n 0, 1) := by decide +kernel
theorem d_Mod_act_42 : decode b_Mod_act 42 = .ok (.aload_n 0, 1) := by decide +kernel
theorem d_Mod_act_43 : decode b_Mod_act 43 = .ok (.getfield 7, 3) := by decide +kernel
theorem d_Mod_act_46 : decode b_Mod_act 46 = .ok (.aload_n 0, 1) := by decide +kernel
theorem d_Mod_act_47 : decode b_Mod_act 47 = .ok (.getfield 309, 3) := by decide +kernel
theorem d_Mod_act_50 : decode b_Mod_act 50 = .ok (.iconst 1, 1) := by decide +kernel
theorem d_Mod_act_51 : decode b_Mod_act 51 = .ok (.iadd, 1) := by decide +kernel
theorem d_Mod_act_52 : decode b_Mod_act 52 = .ok (.iaload, 1) := by decide +kernel
theorem d_Mod_act_53 : decode b_Mod_act 53 = .ok (.iconst 1, 1) := by decide +kernel
theorem d_Mod_act_54 : decode b_Mod_act 54 = .ok (.invokevirtual 318, 3) := by decide +kernel
theorem d_Mod_act_57 : decode b_Mod_act 57 = .ok (.aload_n 0, 1) := by decide +kernel
theorem d_Mod_act_58 : decode b_Mod_act 58 = .ok (.getfield 147, 3) := by decide +kernel
theorem d_Mod_act_61 : decode b_Mod_act 61 = .ok (.ifCond .ne 354, 3) := by decide +kernel
theorem d_Mod_act_64 : decode b_Mod_act 64 = .ok (.aload_n 0, 1) := by decide +kernel
theorem d_Mod_act_65 : decode b_Mod_act 65 = .ok (.getfield 100, 3) := by decide +kernel
theorem d_Mod_act_68 : decode b_Mod_act 68 = .ok (.aload_n 0, 1) := by decide +kernel
theorem d_Mod_act_69 : decode b_Mod_act 69 = .ok (.getfield 7, 3) := by decide +kernel
theorem d_Mod_act_72 : decode b_Mod_act 72 = .ok (.aload_n 0, 1) := by decide +kernel
theorem d_Mod_act_73 : decode b_Mod_act 73 = .ok (.getfield 309, 3) := by decide +kernel
theorem d_Mod_act_76 : decode b_Mod_act 76 = .ok (.iconst 1, 1) := by decide +kernel
theorem d_Mod_act_77 : decode b_Mod_act 77 = .ok (.iadd, 1) := by decide +kernel
theorem d_Mod_act_78 : decode b_Mod_act 78 = .ok (.iaload, 1) := by decide +kernel
theorem d_Mod_act_79 : decode b_Mod_act 79 = .ok (.iaload, 1) := by decide +kernel
theorem d_Mod_act_80 : decode b_Mod_act 80 = .ok (.iconst 1, 1) := by decide +kernel
theorem d_Mod_act_81 : decode b_Mod_act 81 = .ok (.if_icmp .eq 334, 3) := by decide +kernel
theorem d_Mod_act_84 : decode b_Mod_act 84 = .ok (.aload_n 0, 1) := by decide +kernel
theorem d_Mod_act_85 : decode b_Mod_act 85 = .ok (.bipush 23, 2) := by decide +kernel
theorem d_Mod_act_87 : decode b_Mod_act 87 = .ok (.aload_n 0, 1) := by decide +kernel
theorem d_Mod_act_88 : decode b_Mod_act 88 = .ok (.getfield 309, 3) := by decide +kernel
theorem d_Mod_act_91 : decode b_Mod_act 91 = .ok (.invokevirtual 159, 3) := by decide +kernel
theorem d_Mod_act_94 : decode b_Mod_act 94 = .ok (.goto 321, 3) := by decide +kernel
theorem d_Mod_act_97 : decode b_Mod_act 97 = .ok (.iload_n 1, 1) := by decide +kernel
theorem d_Mod_act_98 : decode b_Mod_act 98 = .ok (.sipush 153, 3) := by decide +kernel
theorem d_Mod_act_101 : decode b_Mod_act 101 = .ok (.sipush 166, 3) := by decide +kernel
theorem d_Mod_act_104 : decode b_Mod_act 104 = .ok (.invokestatic 136, 3) := by decide +kernel
theorem d_Mod_act_107 : decode b_Mod_act 107 = .ok (.ifCond .eq 45, 3) := by decide +kernel
theorem d_Mod_act_110 : decode b_Mod_act 110 = .ok (.aload_n 0, 1) := by decide +kernel
theorem d_Mod_act_111 : decode b_Mod_act 111 = .ok (.iload_n 1, 1) := by decide +kernel
theorem d_Mod_act_112 : decode b_Mod_act 112 = .ok (.sipush 164, 3) := by decide +kernel
theorem d_Mod_act_115 : decode b_Mod_act 115 = .ok (.if_icmp .le 7, 3) := by decide +kernel
theorem d_Mod_act_118 : decode b_Mod_act 118 = .ok (.iconst 4, 1) := by decide +kernel
theorem d_Mod_act_119 : decode b_Mod_act 119 = .ok (.goto 4, 3) := by decide +kernel
theorem d_Mod_act_122 : decode b_Mod_act 122 = .ok (.iconst 1, 1) := by decide +kernel
theorem d_Mod_act_123 : decode b_Mod_act 123 = .ok (.invokevirtual 324, 3) := by decide +kernel
theorem d_Mod_act_126 : decode b_Mod_act 126 = .ok (.iload_n 1, 1) := by decide +kernel
theorem d_Mod_act_127 : decode b_Mod_act 127 = .ok (.sipush 158, 3) := by decide +kernel
theorem d_Mod_act_130 : decode b_Mod_act 130 = .ok (.if_icmp .le 285, 3) := by decide +kernel
theorem d_Mod_act_133 : decode b_Mod_act 133 = .ok (.aload_n 0, 1) := by decide +kernel
theorem d_Mod_act_134 : decode b_Mod_act 134 = .ok (.iload_n 1, 1) := by decide +kernel
theorem d_Mod_act_135 : decode b_Mod_act 135 = .ok (.sipush 164, 3) := by decide +kernel
theorem d_Mod_act_138 : decode b_Mod_act 138 = .ok (.if_icmp .le 7, 3) := by decide +kernel
theorem d_Mod_act_141 : decode b_Mod_act 141 = .ok (.iconst 4, 1) := by decide +kernel
theorem d_Mod_act_142 : decode b_Mod_act 142 = .ok (.goto 4, 3) := by decide +kernel
theorem d_Mod_act_145 : decode b_Mod_act 145 = .ok (.iconst 1, 1) := by decide +kernel
theorem d_Mod_act_146 : decode b_Mod_act 146 = .ok (.invokevirtual 324, 3) := by decide +kernel
theorem d_Mod_act_149 : decode b_Mod_act 149 = .ok (.goto 266, 3) := by decide +kernel
theorem d_Mod_act_152 : decode b_Mod_act 152 = .ok (.iload_n 1, 1) := by decide +kernel
theorem d_Mod_act_153 : decode b_Mod_act 153 = .ok (.sipush 198, 3) := by decide +kernel
theorem d_Mod_act_156 : decode b_Mod_act 156 = .ok (.if_icmp .eq 10, 3) := by decide +kernel
theorem d_Mod_act_159 : decode b_Mod_act 159 = .ok (.iload_n 1, 1) := by decide +kernel
theorem d_Mod_act_160 : decode b_Mod_act 160 = .ok (.sipush 199, 3) := by decide +kernel
theorem d_Mod_act_163 : decode b_Mod_act 163 = .ok (.if_icmp .ne 11, 3) := by decide +kernel
theorem d_Mod_act_166 : decode b_Mod_act 166 = .ok (.aload_n 0, 1) := by decide +kernel
theorem d_Mod_act_167 : decode b_Mod_act 167 = .ok (.iconst 4, 1) := by decide +kernel
theorem d_Mod_act_168 : decode b_Mod_act 168 = .ok (.invokevirtual 324, 3) := by decide +kernel
theorem d_Mod_act_171 : decode b_Mod_act 171 = .ok (.goto 244, 3) := by decide +kernel
theorem d_Mod_act_174 : decode b_Mod_act 174 = .ok (.iload_n 1, 1) := by decide +kernel
theorem d_Mod_act_175 : decode b_Mod_act 175 = .ok (.sipush 172, 3) := by decide +kernel
theorem d_Mod_act_178 : decode b_Mod_act 178 = .ok (.if_icmp .eq 24, 3) := by decide +kernel
theorem d_Mod_act_181 : decode b_Mod_act 181 = .ok (.iload_n 1, 1) := by decide +kernel
theorem d_Mod_act_182 : decode b_Mod_act 182 = .ok (.sipush 173, 3) := by decide +kernel
theorem d_Mod_act_185 : decode b_Mod_act 185 = .ok (.if_icmp .eq 17, 3) := by decide +kernel
theorem d_Mod_act_188 : decode b_Mod_act 188 = .ok (.iload_n 1, 1) := by decide +kernel
theorem d_Mod_act_189 : decode b_Mod_act 189 = .ok (.sipush 176, 3) := by decide +kernel
theorem d_Mod_act_192 : decode b_Mod_act 192 = .ok (.if_icmp .eq 10, 3) := by decide +kernel
theorem d_Mod_act_195 : decode b_Mod_act 195 = .ok (.iload_n 1, 1) := by decide +kernel
theorem d_Mod_act_196 : decode b_Mod_act 196 = .ok (.sipush 177, 3) := by decide +kernel
theorem d_Mod_act_199 : decode b_Mod_act 199 = .ok (.if_icmp .ne 44, 3) := by decide +kernel
theorem d_Mod_act_202 : decode b_Mod_act 202 = .ok (.aload_n 0, 1) := by decide +kernel
theorem d_Mod_act_203 : decode b_Mod_act 203 = .ok (.iload_n 1, 1) := by decide +kernel
theorem d_Mod_act_204 : decode b_Mod_act 204 = .ok (.sipush 172, 3) := by decide +kernel
theorem d_Mod_act_207 : decode b_Mod_act 207 = .ok (.if_icmp .ne 7, 3) := by decide +kernel
theorem d_Mod_act_210 : decode b_Mod_act 210 = .ok (.iconst 1, 1) := by decide +kernel
theorem d_Mod_act_211 : decode b_Mod_act 211 = .ok (.goto 26, 3) := by decide +kernel
theorem d_Mod_act_214 : decode b_Mod_act 214 = .ok (.iload_n 1, 1) := by decide +kernel
theorem d_Mod_act_215 : decode b_Mod_act 215 = .ok (.sipush 173, 3) := by decide +kernel
theorem d_Mod_act_218 : decode b_Mod_act 218 = .ok (.if_icmp .ne 7, 3) := by decide +kernel
theorem d_Mod_act_221 : decode b_Mod_act 221 = .ok (.iconst 2, 1) := by decide +kernel
theorem d_Mod_act_222 : decode b_Mod_act 222 = .ok (.goto 15, 3) := by decide +kernel
theorem d_Mod_act_225 : decode b_Mod_act 225 = .ok (.iload_n 1, 1) := by decide +kernel
theorem d_Mod_act_226 : decode b_Mod_act 226 = .ok (.sipush 176, 3) := by decide +kernel
theorem d_Mod_act_229 : decode b_Mod_act 229 = .ok (.if_icmp .ne 7, 3) := by decide +kernel
theorem d_Mod_act_232 : decode b_Mod_act 232 = .ok (.iconst 4, 1) := by decide +kernel
theorem d_Mod_act_233 : decode b_Mod_act 233 = .ok (.goto 4, 3) := by decide +kernel
theorem d_Mod_act_236 : decode b_Mod_act 236 = .ok (.iconst 0, 1) := by decide +kernel
theorem d_Mod_act_237 : decode b_Mod_act 237 = .ok (.invokevirtual 352, 3) := by decide +kernel
theorem d_Mod_act_240 : decode b_Mod_act 240 = .ok (.goto 175, 3) := by decide +kernel
theorem d_Mod_act_243 : decode b_Mod_act 243 = .ok (.iload_n 1, 1) := by decide +kernel
theorem d_Mod_act_244 : decode b_Mod_act 244 = .ok (.sipush 178, 3) := by decide +kernel
theorem d_Mod_act_247 : decode b_Mod_act 247 = .ok (.sipush 181, 3) := by decide +kernel
theorem d_Mod_act_250 : decode b_Mod_act 250 = .ok (.invokestatic 136, 3) := by decide +kernel
theorem d_Mod_act_253 : decode b_Mod_act 253 = .ok (.ifCond .eq 12, 3) := by decide +kernel
theorem d_Mod_act_256 : decode b_Mod_act 256 = .ok (.aload_n 0, 1) := by decide +kernel
theorem d_Mod_act_257 : decode b_Mod_act 257 = .ok (.iload_n 1, 1) := by decide +kernel
theorem d_Mod_act_258 : decode b_Mod_act 258 = .ok (.iload_n 2, 1) := by decide +kernel
theorem d_Mod_act_259 : decode b_Mod_act 259 = .ok (.invokevirtual 355, 3) := by decide +kernel
theorem d_Mod_act_262 : decode b_Mod_act 262 = .ok (.goto 153, 3) := by decide +kernel
theorem d_Mod_act_265 : decode b_Mod_act 265 = .ok (.iload_n 1, 1) := by decide +kernel
theorem d_Mod_act_266 : decode b_Mod_act 266 = .ok (.sipush 182, 3) := by decide +kernel
theorem d_Mod_act_269 : decode b_Mod_act 269 = .ok (.sipush 184, 3) := by decide +kernel
theorem d_Mod_act_272 : decode b_Mod_act 272 = .ok (.invokestatic 136, 3) := by decide +kernel
theorem d_Mod_act_275 : decode b_Mod_act 275 = .ok (.ifCond .eq 12, 3) := by decide +kernel
theorem d_Mod_act_278 : decode b_Mod_act 278 = .ok (.aload_n 0, 1) := by decide +kernel
theorem d_Mod_act_279 : decode b_Mod_act 279 = .ok (.iload_n 1, 1) := by decide +kernel
theorem d_Mod_act_280 : decode b_Mod_act 280 = .ok (.iload_n 2, 1) := by decide +kernel
theorem d_Mod_act_281 : decode b_Mod_act 281 = .ok (.invokevirtual 358, 3) := by decide +kernel
theorem d_Mod_act_284 : decode b_Mod_act 284 = .ok (.goto 131, 3) := by decide +kernel
theorem d_Mod_act_287 : decode b_Mod_act 287 = .ok (.iload_n 1, 1) := by decide +kernel
theorem d_Mod_act_288 : decode b_Mod_act 288 = .ok (.sipush 187, 3) := by decide +kernel
theorem d_Mod_act_291 : decode b_Mod_act 291 = .ok (.if_icmp .eq 17, 3) := by decide +kernel
theorem d_Mod_act_294 : decode b_Mod_act 294 = .ok (.iload_n 1, 1) := by decide +kernel
theorem d_Mod_act_295 : decode b_Mod_act 295 = .ok (.sipush 192, 3) := by decide +kernel
theorem d_Mod_act_298 : decode b_Mod_act 298 = .ok (.if_icmp .eq 10, 3) := by decide +kernel
theorem d_Mod_act_301 : decode b_Mod_act 301 = .ok (.iload_n 1, 1) := by decide +kernel
theorem d_Mod_act_302 : decode b_Mod_act 302 = .ok (.sipush 193, 3) := by decide +kernel
theorem d_Mod_act_305 : decode b_Mod_act 305 = .ok (.if_icmp .ne 45, 3) := by decide +kernel
theorem d_Mod_act_308 : decode b_Mod_act 308 = .ok (.aload_n 0, 1) := by decide +kernel
theorem d_Mod_act_309 : decode b_Mod_act 309 = .ok (.aload_n 0, 1) := by decide +kernel
theorem d_Mod_act_310 : decode b_Mod_act 310 = .ok (.iload_n 2, 1) := by decide +kernel
theorem d_Mod_act_311 : decode b_Mod_act 311 = .ok (.bipush 7, 2) := by decide +kernel
theorem d_Mod_act_313 : decode b_Mod_act 313 = .ok (.invokevirtual 184, 3) := by decide +kernel
theorem d_Mod_act_316 : decode b_Mod_act 316 = .ok (.invokevirtual 330, 3) := by decide +kernel
theorem d_Mod_act_319 : decode b_Mod_act 319 = .ok (.iload_n 1, 1) := by decide +kernel
theorem d_Mod_act_320 : decode b_Mod_act 320 = .ok (.sipush 187, 3) := by decide +kernel
theorem d_Mod_act_323 : decode b_Mod_act 323 = .ok (.if_icmp .eq 8, 3) := by decide +kernel
theorem d_Mod_act_326 : decode b_Mod_act 326 = .ok (.aload_n 0, 1) := by decide +kernel
theorem d_Mod_act_327 : decode b_Mod_act 327 = .ok (.iconst 4, 1) := by decide +kernel
theorem d_Mod_act_328 : decode b_Mod_act 328 = .ok (.invokevirtual 324, 3) := by decide +kernel
theorem d_Mod_act_331 : decode b_Mod_act 331 = .ok (.aload_n 0, 1) := by decide +kernel
theorem d_Mod_act_332 : decode b_Mod_act 332 = .ok (.iload_n 1, 1) := by decide +kernel
theorem d_Mod_act_333 : decode b_Mod_act 333 = .ok (.sipush 193, 3) := by decide +kernel
theorem d_Mod_act_336 : decode b_Mod_act 336 = .ok (.if_icmp .ne 7, 3) := by decide +kernel
theorem d_Mod_act_339 : decode b_Mod_act 339 = .ok (.iconst 1, 1) := by decide +kernel
theorem d_Mod_act_340 : decode b_Mod_act 340 = .ok (.goto 4, 3) := by decide +kernel
theorem d_Mod_act_343 : decode b_Mod_act 343 = .ok (.iconst 4, 1) := by decide +kernel
theorem d_Mod_act_344 : decode b_Mod_act 344 = .ok (.invokevirtual 321, 3) := by decide +kernel
theorem d_Mod_act_347 : decode b_Mod_act 347 = .ok (.goto 68, 3) := by decide +kernel
theorem d_Mod_act_350 : decode b_Mod_act 350 = .ok (.iload_n 1, 1) := by decide +kernel
theorem d_Mod_act_351 : decode b_Mod_act 351 = .ok (.sipush 190, 3) := by decide +kernel
theorem d_Mod_act_354 : decode b_Mod_act 354 = .ok (.if_icmp .eq 10, 3) := by decide +kernel
theorem d_Mod_act_357 : decode b_Mod_act 357 = .ok (.iload_n 1, 1) := by decide +kernel
theorem d_Mod_act_358 : decode b_Mod_act 358 = .ok (.sipush 191, 3) := by decide +kernel
theorem d_Mod_act_361 : decode b_Mod_act 361 = .ok (.if_icmp .ne 23, 3) := by decide +kernel
theorem d_Mod_act_364 : decode b_Mod_act 364 = .ok (.aload_n 0, 1) := by decide +kernel
theorem d_Mod_act_365 : decode b_Mod_act 365 = .ok (.iconst 4, 1) := by decide +kernel
theorem d_Mod_act_366 : decode b_Mod_act 366 = .ok (.invokevirtual 324, 3) := by decide +kernel
theorem d_Mod_act_369 : decode b_Mod_act 369 = .ok (.iload_n 1, 1) := by decide +kernel
theorem d_Mod_act_370 : decode b_Mod_act 370 = .ok (.sipush 190, 3) := by decide +kernel
theorem d_Mod_act_373 : decode b_Mod_act 373 = .ok (.if_icmp .ne 42, 3) := by decide +kernel
theorem d_Mod_act_376 : decode b_Mod_act 376 = .ok (.aload_n 0, 1) := by decide +kernel
theorem d_Mod_act_377 : decode b_Mod_act 377 = .ok (.iconst 1, 1) := by decide +kernel
theorem d_Mod_act_378 : decode b_Mod_act 378 = .ok (.invokevirtual 321, 3) := by decide +kernel
theorem d_Mod_act_381 : decode b_Mod_act 381 = .ok (.goto 34, 3) := by decide +kernel
theorem d_Mod_act_384 : decode b_Mod_act 384 = .ok (.iload_n 1, 1) := by decide +kernel
theorem d_Mod_act_385 : decode b_Mod_act 385 = .ok (.sipush 167, 3) := by decide +kernel
theorem d_Mod_act_388 : decode b_Mod_act 388 = .ok (.if_icmp .eq 27, 3) := by decide +kernel
theorem d_Mod_act_391 : decode b_Mod_act 391 = .ok (.iload_n 1, 1) := by decide +kernel
theorem d_Mod_act_392 : decode b_Mod_act 392 = .ok (.bipush 87, 2) := by decide +kernel
theorem d_Mod_act_394 : decode b_Mod_act 394 = .ok (.bipush 95, 2) := by decide +kernel
theorem d_Mod_act_396 : decode b_Mod_act 396 = .ok (.invokestatic 136, 3) := by decide +kernel
theorem d_Mod_act_399 : decode b_Mod_act 399 = .ok (.ifCond .eq 11, 3) := by decide +kernel
theorem d_Mod_act_402 : decode b_Mod_act 402 = .ok (.aload_n 0, 1) := by decide +kernel
theorem d_Mod_act_403 : decode b_Mod_act 403 = .ok (.iload_n 1, 1) := by decide +kernel
theorem d_Mod_act_404 : decode b_Mod_act 404 = .ok (.invokevirtual 361, 3) := by decide +kernel
theorem d_Mod_act_407 : decode b_Mod_act 407 = .ok (.goto 8, 3) := by decide +kernel
theorem d_Mod_act_410 : decode b_Mod_act 410 = .ok (.aload_n 0, 1) := by decide +kernel
theorem d_Mod_act_411 : decode b_Mod_act 411 = .ok (.iload_n 1, 1) := by decide +kernel
theorem d_Mod_act_412 : decode b_Mod_act 412 = .ok (.invokevirtual 364, 3) := by decide +kernel
theorem d_Mod_act_415 : decode b_Mod_act 415 = .ok (.return_, 1) := by decide +kernel
end
