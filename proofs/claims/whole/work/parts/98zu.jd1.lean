set_option maxHeartbeats 4000000 in
set_option maxRecDepth 100000 in
theorem g_Mod_begins (l : Launch) (g : tw_G) (sz : Nat) (h0 : Nat) (q : Nat → Nat) (rf : Int32) (n : Nat) (mm : Int32) (mb : Int32) (fa : Int32) (fp : Int32) (av : Nat) (ev : Nat) (wi : Int32) (mn : Nat) (tp : Int32) (tc : Int32) (sc : Int32) (nf : Nat) (fd : Nat) (me : Nat) (mp : Int32) (xn : Nat) (mt : Nat) (wh : Nat) (tq : Nat) (ag : Nat) (an : Int32) (ig : Int32) (bs : Nat → Int32) (ru : Nat → Int32) (rs : Nat → Int32) (rt : Nat → Int32) (on : Nat → Int32) (tw : Nat → Int32) (k : Nat) (w2 : Nat) (p1 l1 : Nat) (k6k : k < 620) (q1k : on k = nI p1) (q2k : tw k = nI l1) (q3k : p1 + l1 ≤ 600) (hru : ∀ i, i < 2 → ∃ c, c ≤ 6 ∧ ru i = nI c) (hrs : ∀ i, i < 12 → ∃ c, c ≤ 40 ∧ rs i = nI c) (hw2 : w2 < 2) : Met l y_Mod_begins [.code y_Mod_begins b_Mod_begins 7 (some .boolean)] ({ frames := 0, cells := 0, slots := 0, locals := 0 }) (tw_P g [.ref h0, .int (nI k), .int (nI w2)] [(h0, .inr (10, mob q rf n mm mb fa fp av ev wi mn tp tc sc nf fd me mp xn mt wh tq ag an ig)), ((q 2), aI g 600 bs), ((q 3), aI g 2 ru), ((q 4), aI g 12 rs), ((q 5), aI g 480 rt), ((q 16), aI g 620 on), ((q 17), aI g 620 tw)] sz) (vp_Si (fun (r : Int32) => (r = 0 ∨ r = 1))) 0 0 (fun _ => False) := by
  refine tw_met (l := l) (g := g) (y := y_Mod_begins) (cc := b_Mod_begins) (maxL := 7) (ret := (some .boolean)) (rm := { frames := 0, cells := 0, slots := 0, locals := 0 }) (mc := 0) (ms := 0) (av := [.ref h0, .int (nI k), .int (nI w2)]) (ws := [(h0, .inr (10, mob q rf n mm mb fa fp av ev wi mn tp tc sc nf fd me mp xn mt wh tq ag an ig)), ((q 2), aI g 600 bs), ((q 3), aI g 2 ru), ((q 4), aI g 12 rs), ((q 5), aI g 480 rt), ((q 16), aI g 620 on), ((q 17), aI g 620 tw)]) (sz := sz) (Qc := fun _ => (vp_Si (fun (r : Int32) => (r = 0 ∨ r = 1)))) (free := fun _ _ => False) (by decide) (Nat.le_of_ble_eq_true rfl) ?_
  intro p e s m below meth c ls A E hB hK hZ hP hD hS hA hl
  obtain ⟨hx, hb, hml, hr, hown, hts, hlocks, hin⟩ := id E
  have hl : lv_has ls 7 [(0, .ref h0), (1, .int (nI k)), (2, .int (nI w2))] := hl
  obtain ⟨c1, hc1, ec1⟩ := hru w2 hw2
  refine lv_iconst (v := 0) hx hb d_Mod_begins_0 (by decide) ?_
  refine lv_istore_n hx hb d_Mod_begins_1 rfl hl (by decide) rfl (fun ls hl => ?_)
  have hl : lv_has ls 7 [(3, .int 0), (0, .ref h0), (1, .int (nI k)), (2, .int (nI w2))] := hl
  refine lv_bipush (v := 6) hx hb d_Mod_begins_2 (by decide) ?_
  refine lv_iload_n hx hb d_Mod_begins_4 rfl (lv_at hl 3 rfl) ?_
  refine lv_imul hx hb d_Mod_begins_5 ?_
  refine tw_ri (e2 := nI (6 * w2)) (pk_mul 6 w2) ?_
  refine lv_istore hx hb d_Mod_begins_6 hl (by decide) rfl (fun ls hl => ?_)
  have hl : lv_has ls 7 [(4, .int (nI (6 * w2))), (3, .int 0), (0, .ref h0), (1, .int (nI k)), (2, .int (nI w2))] := hl
  have loop8 : ∀ (kq : Nat) (g9 : Int32) (k4 : Nat) (ls : Array Slot) , 12 - k4 = kq → (hg : g9 = 0 ∨ g9 = 1) → (hk4 : k4 ≤ 12) → lv_has ls 7 [(4, .int (nI k4)), (3, .int g9), (0, .ref h0), (1, .int (nI k)), (2, .int (nI w2))] → W p l e ({ frames := 0, cells := 0, slots := 0, locals := 0 }) s m [.ref h0, .int (nI k), .int (nI w2)].toArray below meth c s.heap [] 0 0 (MQ below (vp_Si (fun (r : Int32) => (r = 0 ∨ r = 1))) [.ref h0, .int (nI k), .int (nI w2)].toArray s 0 0 (fun _ => False)) (F0 m 8 ls []) := by
    intro kq
    induction kq using Nat.strongRecOn with
    | _ kq ih =>
      intro g9 k4 ls hk hg hk4 hl 
      refine lv_iload hx hb d_Mod_begins_8 (lv_at hl 0 rfl) ?_
      refine lv_bipush (v := 6) hx hb d_Mod_begins_10 (by decide) ?_
      refine lv_iload_n hx hb d_Mod_begins_12 rfl (lv_at hl 4 rfl) ?_
      refine lv_imul hx hb d_Mod_begins_13 ?_
      refine tw_ri (e2 := nI (6 * w2)) (pk_mul 6 w2) ?_
      refine lv_aload_n hx hb d_Mod_begins_14 rfl (lv_at hl 2 rfl) ?_
      refine va_get (D := g.1) (ci := 10) (v := .ref (q 3)) (C := R_Mod) (T := F_Mod) (N := 61) hx hb hts in_Mod hown hK hP 0 rfl rfl 3 (by decide) (hts _ wd_1253) (fun _ h9 => h9) rfl d_Mod_begins_15 ?_
      refine lv_iload_n hx hb d_Mod_begins_18 rfl (lv_at hl 4 rfl) ?_
      refine va_iald hx hb hK hP 2 0 rfl rfl (vp_in_nI (by omega) (by decide)) d_Mod_begins_19 ?_
      refine tw_ri (e2 := nI c1) (by rw [nI_clamp (by omega)]; exact ec1) ?_
      refine lv_iadd hx hb d_Mod_begins_20 ?_
      refine tw_ri (e2 := nI (6 * w2 + c1)) (nI_add _ _) ?_
      refine lv_icmp_ge (tgt := 131) hx hb d_Mod_begins_21 (by decide) (fun h21 => ?_) (fun h21 => ?_)
      · refine lv_iload_n hx hb d_Mod_begins_131 rfl (lv_at hl 1 rfl) ?_
        exact tw_zsret E (tn_z hg) hg d_Mod_begins_132
      · have h21 := tn_nle h21 (by omega) (by omega)
        obtain ⟨zz, hzz, ezz⟩ := hrs k4 (by omega)
        refine lv_aload_n hx hb d_Mod_begins_24 rfl (lv_at hl 2 rfl) ?_
        refine va_get (D := g.1) (ci := 10) (v := .ref (q 4)) (C := R_Mod) (T := F_Mod) (N := 61) hx hb hts in_Mod hown hK hP 0 rfl rfl 4 (by decide) (hts _ wd_1254) (fun _ h9 => h9) rfl d_Mod_begins_25 ?_
        refine lv_iload hx hb d_Mod_begins_28 (lv_at hl 0 rfl) ?_
        refine va_iald hx hb hK hP 3 0 rfl rfl (vp_in_nI (by omega) (by decide)) d_Mod_begins_30 ?_
        refine tw_ri (e2 := nI zz) (by rw [nI_clamp (by omega)]; exact ezz) ?_
        refine lv_aload_n hx hb d_Mod_begins_31 rfl (lv_at hl 2 rfl) ?_
        refine va_get (D := g.1) (ci := 10) (v := .ref (q 17)) (C := R_Mod) (T := F_Mod) (N := 61) hx hb hts in_Mod hown hK hP 0 rfl rfl 17 (by decide) (hts _ wd_1267) (fun _ h9 => h9) rfl d_Mod_begins_32 ?_
        refine lv_iload_n hx hb d_Mod_begins_35 rfl (lv_at hl 3 rfl) ?_
        refine va_iald hx hb hK hP 6 0 rfl rfl (vp_in_nI (by omega) (by decide)) d_Mod_begins_36 ?_
        refine tw_ri (e2 := nI l1) (by rw [nI_clamp (by omega)]; exact q2k) ?_
        refine lv_icmp_gt (tgt := 44) hx hb d_Mod_begins_37 (by decide) (fun h37 => ?_) (fun h37 => ?_)
        · refine lv_iconst (v := 0) hx hb d_Mod_begins_44 (by decide) ?_
          refine lv_istore hx hb d_Mod_begins_45 hl (by decide) rfl (fun ls hl => ?_)
          have hl : lv_has ls 7 [(5, .int 0), (4, .int (nI k4)), (3, .int g9), (0, .ref h0), (1, .int (nI k)), (2, .int (nI w2))] := hl
          refine lv_iconst (v := 0) hx hb d_Mod_begins_47 (by decide) ?_
          refine lv_istore hx hb d_Mod_begins_48 hl (by decide) rfl (fun ls hl => ?_)
          have hl : lv_has ls 7 [(6, .int 0), (5, .int 0), (4, .int (nI k4)), (3, .int g9), (0, .ref h0), (1, .int (nI k)), (2, .int (nI w2))] := hl
          have loop50 : ∀ (kq : Nat) (s8 : Int32) (i : Nat) (ls : Array Slot) , zz - i = kq → (hi : i ≤ zz) → (hs8 : s8 = 0 ∨ s8 = 1) → (hsl : ¬ s8 = 0 → zz ≤ l1) → lv_has ls 7 [(6, .int (nI i)), (5, .int s8), (4, .int (nI k4)), (3, .int g9), (0, .ref h0), (1, .int (nI k)), (2, .int (nI w2))] → W p l e ({ frames := 0, cells := 0, slots := 0, locals := 0 }) s m [.ref h0, .int (nI k), .int (nI w2)].toArray below meth c s.heap [] 0 0 (MQ below (vp_Si (fun (r : Int32) => (r = 0 ∨ r = 1))) [.ref h0, .int (nI k), .int (nI w2)].toArray s 0 0 (fun _ => False)) (F0 m 50 ls []) := by
            intro kq
            induction kq using Nat.strongRecOn with
            | _ kq ih50 =>
              intro s8 i ls hk50 hi hs8 hsl hl 
              refine lv_iload hx hb d_Mod_begins_50 (lv_at hl 1 rfl) ?_
              refine lv_if_eq (tgt := 110) hx hb d_Mod_begins_52 (by decide) (fun h52 => ?_) (fun h52 => ?_)
              · refine lv_iload_n hx hb d_Mod_begins_110 rfl (lv_at hl 3 rfl) ?_
                refine lv_if_ne (tgt := 119) hx hb d_Mod_begins_111 (by decide) (fun h111 => ?_) (fun h111 => ?_)
                · refine lv_iconst (v := 1) hx hb d_Mod_begins_119 (by decide) ?_
                  refine lv_goto (tgt := 124) hx hb d_Mod_begins_120 (by decide) ?_
                  refine lv_istore_n hx hb d_Mod_begins_124 rfl hl (by decide) rfl (fun ls hl => ?_)
                  have hl : lv_has ls 7 [(3, .int 1), (6, .int (nI i)), (5, .int s8), (4, .int (nI k4)), (0, .ref h0), (1, .int (nI k)), (2, .int (nI w2))] := hl
                  refine lv_iinc (k := 3) (v := nI (k4 + 1)) hx hb d_Mod_begins_125 hl rfl ((nI_succ k4).symm) (by decide) rfl (fun ls hl => ?_)
                  have hl : lv_has ls 7 [(4, .int (nI (k4 + 1))), (3, .int 1), (6, .int (nI i)), (5, .int s8), (0, .ref h0), (1, .int (nI k)), (2, .int (nI w2))] := hl
                  refine lv_goto (tgt := 8) hx hb d_Mod_begins_128 (by decide) ?_
                  exact ih _ (by omega) 1 (k4 + 1) ls rfl (Or.inr rfl) (by omega) (lv_sub hl [0, 1, 4, 5, 6] rfl)
                · refine lv_iload hx hb d_Mod_begins_114 (lv_at hl 1 rfl) ?_
                  refine lv_if_eq (tgt := 123) hx hb d_Mod_begins_116 (by decide) (fun h116 => ?_) (fun h116 => ?_)
                  · refine lv_iconst (v := 0) hx hb d_Mod_begins_123 (by decide) ?_
                    refine lv_istore_n hx hb d_Mod_begins_124 rfl hl (by decide) rfl (fun ls hl => ?_)
                    have hl : lv_has ls 7 [(3, .int 0), (6, .int (nI i)), (5, .int s8), (4, .int (nI k4)), (0, .ref h0), (1, .int (nI k)), (2, .int (nI w2))] := hl
                    refine lv_iinc (k := 3) (v := nI (k4 + 1)) hx hb d_Mod_begins_125 hl rfl ((nI_succ k4).symm) (by decide) rfl (fun ls hl => ?_)
                    have hl : lv_has ls 7 [(4, .int (nI (k4 + 1))), (3, .int 0), (6, .int (nI i)), (5, .int s8), (0, .ref h0), (1, .int (nI k)), (2, .int (nI w2))] := hl
                    refine lv_goto (tgt := 8) hx hb d_Mod_begins_128 (by decide) ?_
                    exact ih _ (by omega) 0 (k4 + 1) ls rfl (Or.inl rfl) (by omega) (lv_sub hl [0, 1, 4, 5, 6] rfl)
                  · exact absurd h52 h116
              · refine lv_iload hx hb d_Mod_begins_55 (lv_at hl 0 rfl) ?_
                refine lv_aload_n hx hb d_Mod_begins_57 rfl (lv_at hl 4 rfl) ?_
                refine va_get (D := g.1) (ci := 10) (v := .ref (q 4)) (C := R_Mod) (T := F_Mod) (N := 61) hx hb hts in_Mod hown hK hP 0 rfl rfl 4 (by decide) (hts _ wd_1254) (fun _ h9 => h9) rfl d_Mod_begins_58 ?_
                refine lv_iload hx hb d_Mod_begins_61 (lv_at hl 2 rfl) ?_
                refine va_iald hx hb hK hP 3 0 rfl rfl (vp_in_nI (by omega) (by decide)) d_Mod_begins_63 ?_
                refine tw_ri (e2 := nI zz) (by rw [nI_clamp (by omega)]; exact ezz) ?_
                refine lv_icmp_ge (tgt := 110) hx hb d_Mod_begins_64 (by decide) (fun h64 => ?_) (fun h64 => ?_)
                · refine lv_iload_n hx hb d_Mod_begins_110 rfl (lv_at hl 3 rfl) ?_
                  refine lv_if_ne (tgt := 119) hx hb d_Mod_begins_111 (by decide) (fun h111 => ?_) (fun h111 => ?_)
                  · refine lv_iconst (v := 1) hx hb d_Mod_begins_119 (by decide) ?_
                    refine lv_goto (tgt := 124) hx hb d_Mod_begins_120 (by decide) ?_
                    refine lv_istore_n hx hb d_Mod_begins_124 rfl hl (by decide) rfl (fun ls hl => ?_)
                    have hl : lv_has ls 7 [(3, .int 1), (6, .int (nI i)), (5, .int s8), (4, .int (nI k4)), (0, .ref h0), (1, .int (nI k)), (2, .int (nI w2))] := hl
                    refine lv_iinc (k := 3) (v := nI (k4 + 1)) hx hb d_Mod_begins_125 hl rfl ((nI_succ k4).symm) (by decide) rfl (fun ls hl => ?_)
                    have hl : lv_has ls 7 [(4, .int (nI (k4 + 1))), (3, .int 1), (6, .int (nI i)), (5, .int s8), (0, .ref h0), (1, .int (nI k)), (2, .int (nI w2))] := hl
                    refine lv_goto (tgt := 8) hx hb d_Mod_begins_128 (by decide) ?_
                    exact ih _ (by omega) 1 (k4 + 1) ls rfl (Or.inr rfl) (by omega) (lv_sub hl [0, 1, 4, 5, 6] rfl)
                  · refine lv_iload hx hb d_Mod_begins_114 (lv_at hl 1 rfl) ?_
                    refine lv_if_eq (tgt := 123) hx hb d_Mod_begins_116 (by decide) (fun h116 => ?_) (fun h116 => ?_)
                    · exact absurd h116 h52
                    · refine lv_iconst (v := 1) hx hb d_Mod_begins_119 (by decide) ?_
                      refine lv_goto (tgt := 124) hx hb d_Mod_begins_120 (by decide) ?_
                      refine lv_istore_n hx hb d_Mod_begins_124 rfl hl (by decide) rfl (fun ls hl => ?_)
                      have hl : lv_has ls 7 [(3, .int 1), (6, .int (nI i)), (5, .int s8), (4, .int (nI k4)), (0, .ref h0), (1, .int (nI k)), (2, .int (nI w2))] := hl
                      refine lv_iinc (k := 3) (v := nI (k4 + 1)) hx hb d_Mod_begins_125 hl rfl ((nI_succ k4).symm) (by decide) rfl (fun ls hl => ?_)
                      have hl : lv_has ls 7 [(4, .int (nI (k4 + 1))), (3, .int 1), (6, .int (nI i)), (5, .int s8), (0, .ref h0), (1, .int (nI k)), (2, .int (nI w2))] := hl
                      refine lv_goto (tgt := 8) hx hb d_Mod_begins_128 (by decide) ?_
                      exact ih _ (by omega) 1 (k4 + 1) ls rfl (Or.inr rfl) (by omega) (lv_sub hl [0, 1, 4, 5, 6] rfl)
                · have h64 := tn_nle h64 (by omega) (by omega)
                  have hll := hsl h52
                  refine lv_aload_n hx hb d_Mod_begins_67 rfl (lv_at hl 4 rfl) ?_
                  refine va_get (D := g.1) (ci := 10) (v := .ref (q 2)) (C := R_Mod) (T := F_Mod) (N := 61) hx hb hts in_Mod hown hK hP 0 rfl rfl 2 (by decide) (hts _ wd_1252) (fun _ h9 => h9) rfl d_Mod_begins_68 ?_
                  refine lv_aload_n hx hb d_Mod_begins_71 rfl (lv_at hl 4 rfl) ?_
                  refine va_get (D := g.1) (ci := 10) (v := .ref (q 16)) (C := R_Mod) (T := F_Mod) (N := 61) hx hb hts in_Mod hown hK hP 0 rfl rfl 16 (by decide) (hts _ wd_1266) (fun _ h9 => h9) rfl d_Mod_begins_72 ?_
                  refine lv_iload_n hx hb d_Mod_begins_75 rfl (lv_at hl 5 rfl) ?_
                  refine va_iald hx hb hK hP 5 0 rfl rfl (vp_in_nI (by omega) (by decide)) d_Mod_begins_76 ?_
                  refine tw_ri (e2 := nI p1) (by rw [nI_clamp (by omega)]; exact q1k) ?_
                  refine lv_iload hx hb d_Mod_begins_77 (lv_at hl 0 rfl) ?_
                  refine lv_iadd hx hb d_Mod_begins_79 ?_
                  refine tw_ri (e2 := nI (p1 + i)) (nI_add _ _) ?_
                  refine va_iald hx hb hK hP 1 0 rfl rfl (vp_in_nI (by omega) (by decide)) d_Mod_begins_80 ?_
                  obtain ⟨x1, ex1⟩ : ∃ z : Int32, bs ((nI (p1 + i)).toNatClampNeg) = z := ⟨_, rfl⟩
                  refine tw_ri (e2 := x1) ex1 ?_
                  refine lv_aload_n hx hb d_Mod_begins_81 rfl (lv_at hl 4 rfl) ?_
                  refine va_get (D := g.1) (ci := 10) (v := .ref (q 5)) (C := R_Mod) (T := F_Mod) (N := 61) hx hb hts in_Mod hown hK hP 0 rfl rfl 5 (by decide) (hts _ wd_1255) (fun _ h9 => h9) rfl d_Mod_begins_82 ?_
                  refine lv_bipush (v := 40) hx hb d_Mod_begins_85 (by decide) ?_
                  refine lv_iload hx hb d_Mod_begins_87 (lv_at hl 2 rfl) ?_
                  refine lv_imul hx hb d_Mod_begins_89 ?_
                  refine tw_ri (e2 := nI (40 * k4)) (pk_mul 40 k4) ?_
                  refine lv_iload hx hb d_Mod_begins_90 (lv_at hl 0 rfl) ?_
                  refine lv_iadd hx hb d_Mod_begins_92 ?_
                  refine tw_ri (e2 := nI (40 * k4 + i)) (nI_add _ _) ?_
                  refine va_iald hx hb hK hP 4 0 rfl rfl (vp_in_nI (by omega) (by decide)) d_Mod_begins_93 ?_
                  obtain ⟨x2, ex2⟩ : ∃ z : Int32, rt ((nI (40 * k4 + i)).toNatClampNeg) = z := ⟨_, rfl⟩
                  refine tw_ri (e2 := x2) ex2 ?_
                  refine lv_icmp_ne (tgt := 101) hx hb d_Mod_begins_94 (by decide) (fun h94 => ?_) (fun h94 => ?_)
                  · refine lv_iconst (v := 0) hx hb d_Mod_begins_101 (by decide) ?_
                    refine lv_istore hx hb d_Mod_begins_102 hl (by decide) rfl (fun ls hl => ?_)
                    have hl : lv_has ls 7 [(5, .int 0), (6, .int (nI i)), (4, .int (nI k4)), (3, .int g9), (0, .ref h0), (1, .int (nI k)), (2, .int (nI w2))] := hl
                    refine lv_iinc (k := 1) (v := nI (i + 1)) hx hb d_Mod_begins_104 hl rfl ((nI_succ i).symm) (by decide) rfl (fun ls hl => ?_)
                    have hl : lv_has ls 7 [(6, .int (nI (i + 1))), (5, .int 0), (4, .int (nI k4)), (3, .int g9), (0, .ref h0), (1, .int (nI k)), (2, .int (nI w2))] := hl
                    refine lv_goto (tgt := 50) hx hb d_Mod_begins_107 (by decide) ?_
                    exact ih50 _ (by omega) 0 (i + 1) ls rfl (by omega) (Or.inl rfl) (fun _ => hll) (lv_sub hl [0, 1, 2, 3, 4, 5, 6] rfl)
                  · refine lv_iconst (v := 1) hx hb d_Mod_begins_97 (by decide) ?_
                    refine lv_goto (tgt := 102) hx hb d_Mod_begins_98 (by decide) ?_
                    refine lv_istore hx hb d_Mod_begins_102 hl (by decide) rfl (fun ls hl => ?_)
                    have hl : lv_has ls 7 [(5, .int 1), (6, .int (nI i)), (4, .int (nI k4)), (3, .int g9), (0, .ref h0), (1, .int (nI k)), (2, .int (nI w2))] := hl
                    refine lv_iinc (k := 1) (v := nI (i + 1)) hx hb d_Mod_begins_104 hl rfl ((nI_succ i).symm) (by decide) rfl (fun ls hl => ?_)
                    have hl : lv_has ls 7 [(6, .int (nI (i + 1))), (5, .int 1), (4, .int (nI k4)), (3, .int g9), (0, .ref h0), (1, .int (nI k)), (2, .int (nI w2))] := hl
                    refine lv_goto (tgt := 50) hx hb d_Mod_begins_107 (by decide) ?_
                    exact ih50 _ (by omega) 1 (i + 1) ls rfl (by omega) (Or.inr rfl) (fun _ => hll) (lv_sub hl [0, 1, 2, 3, 4, 5, 6] rfl)
          exact loop50 _ 0 0 ls rfl (Nat.zero_le _) (Or.inl rfl) (fun h => absurd rfl h) (hl)
        · have h37 := tn_nlt h37 (by omega) (by omega)
          refine lv_iconst (v := 1) hx hb d_Mod_begins_40 (by decide) ?_
          refine lv_goto (tgt := 45) hx hb d_Mod_begins_41 (by decide) ?_
          refine lv_istore hx hb d_Mod_begins_45 hl (by decide) rfl (fun ls hl => ?_)
          have hl : lv_has ls 7 [(5, .int 1), (4, .int (nI k4)), (3, .int g9), (0, .ref h0), (1, .int (nI k)), (2, .int (nI w2))] := hl
          refine lv_iconst (v := 0) hx hb d_Mod_begins_47 (by decide) ?_
          refine lv_istore hx hb d_Mod_begins_48 hl (by decide) rfl (fun ls hl => ?_)
          have hl : lv_has ls 7 [(6, .int 0), (5, .int 1), (4, .int (nI k4)), (3, .int g9), (0, .ref h0), (1, .int (nI k)), (2, .int (nI w2))] := hl
          have loop50 : ∀ (kq : Nat) (s8 : Int32) (i : Nat) (ls : Array Slot) , zz - i = kq → (hi : i ≤ zz) → (hs8 : s8 = 0 ∨ s8 = 1) → (hsl : ¬ s8 = 0 → zz ≤ l1) → lv_has ls 7 [(6, .int (nI i)), (5, .int s8), (4, .int (nI k4)), (3, .int g9), (0, .ref h0), (1, .int (nI k)), (2, .int (nI w2))] → W p l e ({ frames := 0, cells := 0, slots := 0, locals := 0 }) s m [.ref h0, .int (nI k), .int (nI w2)].toArray below meth c s.heap [] 0 0 (MQ below (vp_Si (fun (r : Int32) => (r = 0 ∨ r = 1))) [.ref h0, .int (nI k), .int (nI w2)].toArray s 0 0 (fun _ => False)) (F0 m 50 ls []) := by
            intro kq
            induction kq using Nat.strongRecOn with
            | _ kq ih50 =>
              intro s8 i ls hk50 hi hs8 hsl hl 
              refine lv_iload hx hb d_Mod_begins_50 (lv_at hl 1 rfl) ?_
              refine lv_if_eq (tgt := 110) hx hb d_Mod_begins_52 (by decide) (fun h52 => ?_) (fun h52 => ?_)
              · refine lv_iload_n hx hb d_Mod_begins_110 rfl (lv_at hl 3 rfl) ?_
                refine lv_if_ne (tgt := 119) hx hb d_Mod_begins_111 (by decide) (fun h111 => ?_) (fun h111 => ?_)
                · refine lv_iconst (v := 1) hx hb d_Mod_begins_119 (by decide) ?_
                  refine lv_goto (tgt := 124) hx hb d_Mod_begins_120 (by decide) ?_
                  refine lv_istore_n hx hb d_Mod_begins_124 rfl hl (by decide) rfl (fun ls hl => ?_)
                  have hl : lv_has ls 7 [(3, .int 1), (6, .int (nI i)), (5, .int s8), (4, .int (nI k4)), (0, .ref h0), (1, .int (nI k)), (2, .int (nI w2))] := hl
                  refine lv_iinc (k := 3) (v := nI (k4 + 1)) hx hb d_Mod_begins_125 hl rfl ((nI_succ k4).symm) (by decide) rfl (fun ls hl => ?_)
                  have hl : lv_has ls 7 [(4, .int (nI (k4 + 1))), (3, .int 1), (6, .int (nI i)), (5, .int s8), (0, .ref h0), (1, .int (nI k)), (2, .int (nI w2))] := hl
                  refine lv_goto (tgt := 8) hx hb d_Mod_begins_128 (by decide) ?_
                  exact ih _ (by omega) 1 (k4 + 1) ls rfl (Or.inr rfl) (by omega) (lv_sub hl [0, 1, 4, 5, 6] rfl)
                · refine lv_iload hx hb d_Mod_begins_114 (lv_at hl 1 rfl) ?_
                  refine lv_if_eq (tgt := 123) hx hb d_Mod_begins_116 (by decide) (fun h116 => ?_) (fun h116 => ?_)
                  · refine lv_iconst (v := 0) hx hb d_Mod_begins_123 (by decide) ?_
                    refine lv_istore_n hx hb d_Mod_begins_124 rfl hl (by decide) rfl (fun ls hl => ?_)
                    have hl : lv_has ls 7 [(3, .int 0), (6, .int (nI i)), (5, .int s8), (4, .int (nI k4)), (0, .ref h0), (1, .int (nI k)), (2, .int (nI w2))] := hl
                    refine lv_iinc (k := 3) (v := nI (k4 + 1)) hx hb d_Mod_begins_125 hl rfl ((nI_succ k4).symm) (by decide) rfl (fun ls hl => ?_)
                    have hl : lv_has ls 7 [(4, .int (nI (k4 + 1))), (3, .int 0), (6, .int (nI i)), (5, .int s8), (0, .ref h0), (1, .int (nI k)), (2, .int (nI w2))] := hl
                    refine lv_goto (tgt := 8) hx hb d_Mod_begins_128 (by decide) ?_
                    exact ih _ (by omega) 0 (k4 + 1) ls rfl (Or.inl rfl) (by omega) (lv_sub hl [0, 1, 4, 5, 6] rfl)
                  · exact absurd h52 h116
              · refine lv_iload hx hb d_Mod_begins_55 (lv_at hl 0 rfl) ?_
                refine lv_aload_n hx hb d_Mod_begins_57 rfl (lv_at hl 4 rfl) ?_
                refine va_get (D := g.1) (ci := 10) (v := .ref (q 4)) (C := R_Mod) (T := F_Mod) (N := 61) hx hb hts in_Mod hown hK hP 0 rfl rfl 4 (by decide) (hts _ wd_1254) (fun _ h9 => h9) rfl d_Mod_begins_58 ?_
                refine lv_iload hx hb d_Mod_begins_61 (lv_at hl 2 rfl) ?_
                refine va_iald hx hb hK hP 3 0 rfl rfl (vp_in_nI (by omega) (by decide)) d_Mod_begins_63 ?_
                refine tw_ri (e2 := nI zz) (by rw [nI_clamp (by omega)]; exact ezz) ?_
                refine lv_icmp_ge (tgt := 110) hx hb d_Mod_begins_64 (by decide) (fun h64 => ?_) (fun h64 => ?_)
                · refine lv_iload_n hx hb d_Mod_begins_110 rfl (lv_at hl 3 rfl) ?_
                  refine lv_if_ne (tgt := 119) hx hb d_Mod_begins_111 (by decide) (fun h111 => ?_) (fun h111 => ?_)
                  · refine lv_iconst (v := 1) hx hb d_Mod_begins_119 (by decide) ?_
                    refine lv_goto (tgt := 124) hx hb d_Mod_begins_120 (by decide) ?_
                    refine lv_istore_n hx hb d_Mod_begins_124 rfl hl (by decide) rfl (fun ls hl => ?_)
                    have hl : lv_has ls 7 [(3, .int 1), (6, .int (nI i)), (5, .int s8), (4, .int (nI k4)), (0, .ref h0), (1, .int (nI k)), (2, .int (nI w2))] := hl
                    refine lv_iinc (k := 3) (v := nI (k4 + 1)) hx hb d_Mod_begins_125 hl rfl ((nI_succ k4).symm) (by decide) rfl (fun ls hl => ?_)
                    have hl : lv_has ls 7 [(4, .int (nI (k4 + 1))), (3, .int 1), (6, .int (nI i)), (5, .int s8), (0, .ref h0), (1, .int (nI k)), (2, .int (nI w2))] := hl
                    refine lv_goto (tgt := 8) hx hb d_Mod_begins_128 (by decide) ?_
                    exact ih _ (by omega) 1 (k4 + 1) ls rfl (Or.inr rfl) (by omega) (lv_sub hl [0, 1, 4, 5, 6] rfl)
                  · refine lv_iload hx hb d_Mod_begins_114 (lv_at hl 1 rfl) ?_
                    refine lv_if_eq (tgt := 123) hx hb d_Mod_begins_116 (by decide) (fun h116 => ?_) (fun h116 => ?_)
                    · exact absurd h116 h52
                    · refine lv_iconst (v := 1) hx hb d_Mod_begins_119 (by decide) ?_
                      refine lv_goto (tgt := 124) hx hb d_Mod_begins_120 (by decide) ?_
                      refine lv_istore_n hx hb d_Mod_begins_124 rfl hl (by decide) rfl (fun ls hl => ?_)
                      have hl : lv_has ls 7 [(3, .int 1), (6, .int (nI i)), (5, .int s8), (4, .int (nI k4)), (0, .ref h0), (1, .int (nI k)), (2, .int (nI w2))] := hl
                      refine lv_iinc (k := 3) (v := nI (k4 + 1)) hx hb d_Mod_begins_125 hl rfl ((nI_succ k4).symm) (by decide) rfl (fun ls hl => ?_)
                      have hl : lv_has ls 7 [(4, .int (nI (k4 + 1))), (3, .int 1), (6, .int (nI i)), (5, .int s8), (0, .ref h0), (1, .int (nI k)), (2, .int (nI w2))] := hl
                      refine lv_goto (tgt := 8) hx hb d_Mod_begins_128 (by decide) ?_
                      exact ih _ (by omega) 1 (k4 + 1) ls rfl (Or.inr rfl) (by omega) (lv_sub hl [0, 1, 4, 5, 6] rfl)
                · have h64 := tn_nle h64 (by omega) (by omega)
                  have hll := hsl h52
                  refine lv_aload_n hx hb d_Mod_begins_67 rfl (lv_at hl 4 rfl) ?_
                  refine va_get (D := g.1) (ci := 10) (v := .ref (q 2)) (C := R_Mod) (T := F_Mod) (N := 61) hx hb hts in_Mod hown hK hP 0 rfl rfl 2 (by decide) (hts _ wd_1252) (fun _ h9 => h9) rfl d_Mod_begins_68 ?_
                  refine lv_aload_n hx hb d_Mod_begins_71 rfl (lv_at hl 4 rfl) ?_
                  refine va_get (D := g.1) (ci := 10) (v := .ref (q 16)) (C := R_Mod) (T := F_Mod) (N := 61) hx hb hts in_Mod hown hK hP 0 rfl rfl 16 (by decide) (hts _ wd_1266) (fun _ h9 => h9) rfl d_Mod_begins_72 ?_
                  refine lv_iload_n hx hb d_Mod_begins_75 rfl (lv_at hl 5 rfl) ?_
                  refine va_iald hx hb hK hP 5 0 rfl rfl (vp_in_nI (by omega) (by decide)) d_Mod_begins_76 ?_
                  refine tw_ri (e2 := nI p1) (by rw [nI_clamp (by omega)]; exact q1k) ?_
                  refine lv_iload hx hb d_Mod_begins_77 (lv_at hl 0 rfl) ?_
                  refine lv_iadd hx hb d_Mod_begins_79 ?_
                  refine tw_ri (e2 := nI (p1 + i)) (nI_add _ _) ?_
                  refine va_iald hx hb hK hP 1 0 rfl rfl (vp_in_nI (by omega) (by decide)) d_Mod_begins_80 ?_
                  obtain ⟨x3, ex3⟩ : ∃ z : Int32, bs ((nI (p1 + i)).toNatClampNeg) = z := ⟨_, rfl⟩
                  refine tw_ri (e2 := x3) ex3 ?_
                  refine lv_aload_n hx hb d_Mod_begins_81 rfl (lv_at hl 4 rfl) ?_
                  refine va_get (D := g.1) (ci := 10) (v := .ref (q 5)) (C := R_Mod) (T := F_Mod) (N := 61) hx hb hts in_Mod hown hK hP 0 rfl rfl 5 (by decide) (hts _ wd_1255) (fun _ h9 => h9) rfl d_Mod_begins_82 ?_
                  refine lv_bipush (v := 40) hx hb d_Mod_begins_85 (by decide) ?_
                  refine lv_iload hx hb d_Mod_begins_87 (lv_at hl 2 rfl) ?_
                  refine lv_imul hx hb d_Mod_begins_89 ?_
                  refine tw_ri (e2 := nI (40 * k4)) (pk_mul 40 k4) ?_
                  refine lv_iload hx hb d_Mod_begins_90 (lv_at hl 0 rfl) ?_
                  refine lv_iadd hx hb d_Mod_begins_92 ?_
                  refine tw_ri (e2 := nI (40 * k4 + i)) (nI_add _ _) ?_
                  refine va_iald hx hb hK hP 4 0 rfl rfl (vp_in_nI (by omega) (by decide)) d_Mod_begins_93 ?_
                  obtain ⟨x4, ex4⟩ : ∃ z : Int32, rt ((nI (40 * k4 + i)).toNatClampNeg) = z := ⟨_, rfl⟩
                  refine tw_ri (e2 := x4) ex4 ?_
                  refine lv_icmp_ne (tgt := 101) hx hb d_Mod_begins_94 (by decide) (fun h94 => ?_) (fun h94 => ?_)
                  · refine lv_iconst (v := 0) hx hb d_Mod_begins_101 (by decide) ?_
                    refine lv_istore hx hb d_Mod_begins_102 hl (by decide) rfl (fun ls hl => ?_)
                    have hl : lv_has ls 7 [(5, .int 0), (6, .int (nI i)), (4, .int (nI k4)), (3, .int g9), (0, .ref h0), (1, .int (nI k)), (2, .int (nI w2))] := hl
                    refine lv_iinc (k := 1) (v := nI (i + 1)) hx hb d_Mod_begins_104 hl rfl ((nI_succ i).symm) (by decide) rfl (fun ls hl => ?_)
                    have hl : lv_has ls 7 [(6, .int (nI (i + 1))), (5, .int 0), (4, .int (nI k4)), (3, .int g9), (0, .ref h0), (1, .int (nI k)), (2, .int (nI w2))] := hl
                    refine lv_goto (tgt := 50) hx hb d_Mod_begins_107 (by decide) ?_
                    exact ih50 _ (by omega) 0 (i + 1) ls rfl (by omega) (Or.inl rfl) (fun _ => hll) (lv_sub hl [0, 1, 2, 3, 4, 5, 6] rfl)
                  · refine lv_iconst (v := 1) hx hb d_Mod_begins_97 (by decide) ?_
                    refine lv_goto (tgt := 102) hx hb d_Mod_begins_98 (by decide) ?_
                    refine lv_istore hx hb d_Mod_begins_102 hl (by decide) rfl (fun ls hl => ?_)
                    have hl : lv_has ls 7 [(5, .int 1), (6, .int (nI i)), (4, .int (nI k4)), (3, .int g9), (0, .ref h0), (1, .int (nI k)), (2, .int (nI w2))] := hl
                    refine lv_iinc (k := 1) (v := nI (i + 1)) hx hb d_Mod_begins_104 hl rfl ((nI_succ i).symm) (by decide) rfl (fun ls hl => ?_)
                    have hl : lv_has ls 7 [(6, .int (nI (i + 1))), (5, .int 1), (4, .int (nI k4)), (3, .int g9), (0, .ref h0), (1, .int (nI k)), (2, .int (nI w2))] := hl
                    refine lv_goto (tgt := 50) hx hb d_Mod_begins_107 (by decide) ?_
                    exact ih50 _ (by omega) 1 (i + 1) ls rfl (by omega) (Or.inr rfl) (fun _ => hll) (lv_sub hl [0, 1, 2, 3, 4, 5, 6] rfl)
          exact loop50 _ 1 0 ls rfl (Nat.zero_le _) (Or.inr rfl) (fun _ => h37) (hl)
  exact loop8 _ 0 (6 * w2) ls rfl (Or.inl rfl) (by omega) (lv_sub hl [0, 1, 2, 3, 4] rfl)
set_option maxHeartbeats 4000000 in
set_option maxRecDepth 100000 in
theorem g_Mod_isFinalizer (l : Launch) (g : tw_G) (sz : Nat) (h0 : Nat) (q : Nat → Nat) (rf : Int32) (n : Nat) (mm : Int32) (mb : Int32) (fa : Int32) (fp : Int32) (av : Nat) (ev : Nat) (wi : Int32) (mn : Nat) (tp : Int32) (tc : Int32) (sc : Int32) (nf : Nat) (fd : Nat) (me : Nat) (mp : Int32) (xn : Nat) (mt : Nat) (wh : Nat) (tq : Nat) (ag : Nat) (an : Int32) (ig : Int32) (bs : Nat → Int32) (tg : Nat → Int32) (on : Nat → Int32) (tw : Nat → Int32) (na : Nat → Int32) (ty : Nat → Int32) (mi : Nat) (hmn : mn ≤ 620) (hTX : TXT tg on tw) (hmi : mi < 160) (hLM1 : LMB bs mn tg on tw fd na ty mi) : Met l y_Mod_isFinalizer [.code y_Mod_isFinalizer b_Mod_isFinalizer 5 (some .boolean)] ({ frames := 0, cells := 0, slots := 0, locals := 0 }) (tw_P g [.ref h0, .int (nI mi)] [(h0, .inr (10, mob q rf n mm mb fa fp av ev wi mn tp tc sc nf fd me mp xn mt wh tq ag an ig)), ((q 2), aI g 600 bs), ((q 14), aI g 620 tg), ((q 16), aI g 620 on), ((q 17), aI g 620 tw), ((q 29), aI g 160 na), ((q 30), aI g 160 ty)] sz) (vp_Si (fun (r : Int32) => (r = 0 ∨ r = 1))) 0 0 (fun _ => False) := by
  refine tw_met (l := l) (g := g) (y := y_Mod_isFinalizer) (cc := b_Mod_isFinalizer) (maxL := 5) (ret := (some .boolean)) (rm := { frames := 0, cells := 0, slots := 0, locals := 0 }) (mc := 0) (ms := 0) (av := [.ref h0, .int (nI mi)]) (ws := [(h0, .inr (10, mob q rf n mm mb fa fp av ev wi mn tp tc sc nf fd me mp xn mt wh tq ag an ig)), ((q 2), aI g 600 bs), ((q 14), aI g 620 tg), ((q 16), aI g 620 on), ((q 17), aI g 620 tw), ((q 29), aI g 160 na), ((q 30), aI g 160 ty)]) (sz := sz) (Qc := fun _ => (vp_Si (fun (r : Int32) => (r = 0 ∨ r = 1)))) (free := fun _ _ => False) (by decide) (Nat.le_of_ble_eq_true rfl) ?_
  intro p e s m below meth c ls A E hB hK hZ hP hD hS hA hl
  obtain ⟨hx, hb, hml, hr, hown, hts, hlocks, hin⟩ := id E
  have hl : lv_has ls 5 [(0, .ref h0), (1, .int (nI mi))] := hl
  obtain ⟨⟨jn, f0, f0b, f1, f1b⟩, ⟨jt, pt, lt1, f2a, f2b, f2, f2c, f5, f6, f7, f8⟩⟩ := hLM1
  obtain ⟨pn, ln1, f3, f4, f9⟩ := hTX jn (by omega) f1b
  refine lv_aload_n hx hb d_Mod_isFinalizer_0 rfl (lv_at hl 0 rfl) ?_
  refine va_get (D := g.1) (ci := 10) (v := .ref (q 16)) (C := R_Mod) (T := F_Mod) (N := 61) hx hb hts in_Mod hown hK hP 0 rfl rfl 16 (by decide) (hts _ wd_1266) (fun _ h9 => h9) rfl d_Mod_isFinalizer_1 ?_
  refine lv_aload_n hx hb d_Mod_isFinalizer_4 rfl (lv_at hl 0 rfl) ?_
  refine va_get (D := g.1) (ci := 10) (v := .ref (q 29)) (C := R_Mod) (T := F_Mod) (N := 61) hx hb hts in_Mod hown hK hP 0 rfl rfl 29 (by decide) (hts _ wd_1279) (fun _ h9 => h9) rfl d_Mod_isFinalizer_5 ?_
  refine lv_iload_n hx hb d_Mod_isFinalizer_8 rfl (lv_at hl 1 rfl) ?_
  refine va_iald hx hb hK hP 5 0 rfl rfl (vp_in_nI (by omega) (by decide)) d_Mod_isFinalizer_9 ?_
  refine tw_ri (e2 := nI jn) (by rw [nI_clamp (by omega)]; exact f1) ?_
  refine va_iald hx hb hK hP 3 0 rfl rfl (vp_in_nI (by omega) (by decide)) d_Mod_isFinalizer_10 ?_
  refine tw_ri (e2 := nI pn) (by rw [nI_clamp (by omega)]; exact f3) ?_
  refine lv_istore_n hx hb d_Mod_isFinalizer_11 rfl hl (by decide) rfl (fun ls hl => ?_)
  have hl : lv_has ls 5 [(2, .int (nI pn)), (0, .ref h0), (1, .int (nI mi))] := hl
  refine lv_aload_n hx hb d_Mod_isFinalizer_12 rfl (lv_at hl 1 rfl) ?_
  refine va_get (D := g.1) (ci := 10) (v := .ref (q 16)) (C := R_Mod) (T := F_Mod) (N := 61) hx hb hts in_Mod hown hK hP 0 rfl rfl 16 (by decide) (hts _ wd_1266) (fun _ h9 => h9) rfl d_Mod_isFinalizer_13 ?_
  refine lv_aload_n hx hb d_Mod_isFinalizer_16 rfl (lv_at hl 1 rfl) ?_
  refine va_get (D := g.1) (ci := 10) (v := .ref (q 30)) (C := R_Mod) (T := F_Mod) (N := 61) hx hb hts in_Mod hown hK hP 0 rfl rfl 30 (by decide) (hts _ wd_1280) (fun _ h9 => h9) rfl d_Mod_isFinalizer_17 ?_
  refine lv_iload_n hx hb d_Mod_isFinalizer_20 rfl (lv_at hl 2 rfl) ?_
  refine va_iald hx hb hK hP 6 0 rfl rfl (vp_in_nI (by omega) (by decide)) d_Mod_isFinalizer_21 ?_
  refine tw_ri (e2 := nI jt) (by rw [nI_clamp (by omega)]; exact f2) ?_
  refine va_iald hx hb hK hP 3 0 rfl rfl (vp_in_nI (by omega) (by decide)) d_Mod_isFinalizer_22 ?_
  refine tw_ri (e2 := nI pt) (by rw [nI_clamp (by omega)]; exact f5) ?_
  refine lv_istore_n hx hb d_Mod_isFinalizer_23 rfl hl (by decide) rfl (fun ls hl => ?_)
  have hl : lv_has ls 5 [(3, .int (nI pt)), (2, .int (nI pn)), (0, .ref h0), (1, .int (nI mi))] := hl
  refine lv_aload_n hx hb d_Mod_isFinalizer_24 rfl (lv_at hl 2 rfl) ?_
  refine va_get (D := g.1) (ci := 10) (v := .ref (q 17)) (C := R_Mod) (T := F_Mod) (N := 61) hx hb hts in_Mod hown hK hP 0 rfl rfl 17 (by decide) (hts _ wd_1267) (fun _ h9 => h9) rfl d_Mod_isFinalizer_25 ?_
  refine lv_aload_n hx hb d_Mod_isFinalizer_28 rfl (lv_at hl 2 rfl) ?_
  refine va_get (D := g.1) (ci := 10) (v := .ref (q 29)) (C := R_Mod) (T := F_Mod) (N := 61) hx hb hts in_Mod hown hK hP 0 rfl rfl 29 (by decide) (hts _ wd_1279) (fun _ h9 => h9) rfl d_Mod_isFinalizer_29 ?_
  refine lv_iload_n hx hb d_Mod_isFinalizer_32 rfl (lv_at hl 3 rfl) ?_
  refine va_iald hx hb hK hP 5 0 rfl rfl (vp_in_nI (by omega) (by decide)) d_Mod_isFinalizer_33 ?_
  refine tw_ri (e2 := nI jn) (by rw [nI_clamp (by omega)]; exact f1) ?_
  refine va_iald hx hb hK hP 4 0 rfl rfl (vp_in_nI (by omega) (by decide)) d_Mod_isFinalizer_34 ?_
  refine tw_ri (e2 := nI ln1) (by rw [nI_clamp (by omega)]; exact f4) ?_
  refine lv_bipush (v := 8) hx hb d_Mod_isFinalizer_35 (by decide) ?_
  refine lv_icmp_ne (tgt := 148) hx hb d_Mod_isFinalizer_37 (by decide) (fun h37 => ?_) (fun h37 => ?_)
  · refine lv_iconst (v := 0) hx hb d_Mod_isFinalizer_148 (by decide) ?_
    refine lv_istore hx hb d_Mod_isFinalizer_149 hl (by decide) rfl (fun ls hl => ?_)
    have hl : lv_has ls 5 [(4, .int 0), (3, .int (nI pt)), (2, .int (nI pn)), (0, .ref h0), (1, .int (nI mi))] := hl
    refine lv_iload hx hb d_Mod_isFinalizer_151 (lv_at hl 0 rfl) ?_
    refine lv_if_eq (tgt := 212) hx hb d_Mod_isFinalizer_153 (by decide) (fun h153 => ?_) (fun h153 => ?_)
    · refine lv_iconst (v := 0) hx hb d_Mod_isFinalizer_212 (by decide) ?_
      exact tw_zsret E (by decide) (by decide) d_Mod_isFinalizer_213
    · first | exact absurd h153 (by decide) | exact absurd (by decide) h153
  · have h37 := tn_eq (b := 8) h37 (by omega) (by decide)
    refine lv_aload_n hx hb d_Mod_isFinalizer_40 rfl (lv_at hl 2 rfl) ?_
    refine va_get (D := g.1) (ci := 10) (v := .ref (q 2)) (C := R_Mod) (T := F_Mod) (N := 61) hx hb hts in_Mod hown hK hP 0 rfl rfl 2 (by decide) (hts _ wd_1252) (fun _ h9 => h9) rfl d_Mod_isFinalizer_41 ?_
    refine lv_iload_n hx hb d_Mod_isFinalizer_44 rfl (lv_at hl 1 rfl) ?_
    refine va_iald hx hb hK hP 1 0 rfl rfl (vp_in_nI (by omega) (by decide)) d_Mod_isFinalizer_45 ?_
    obtain ⟨x1, ex1⟩ : ∃ z : Int32, bs ((nI pn).toNatClampNeg) = z := ⟨_, rfl⟩
    refine tw_ri (e2 := x1) ex1 ?_
    refine lv_bipush (v := 102) hx hb d_Mod_isFinalizer_46 (by decide) ?_
    refine lv_icmp_ne (tgt := 148) hx hb d_Mod_isFinalizer_48 (by decide) (fun h48 => ?_) (fun h48 => ?_)
    · refine lv_iconst (v := 0) hx hb d_Mod_isFinalizer_148 (by decide) ?_
      refine lv_istore hx hb d_Mod_isFinalizer_149 hl (by decide) rfl (fun ls hl => ?_)
      have hl : lv_has ls 5 [(4, .int 0), (3, .int (nI pt)), (2, .int (nI pn)), (0, .ref h0), (1, .int (nI mi))] := hl
      refine lv_iload hx hb d_Mod_isFinalizer_151 (lv_at hl 0 rfl) ?_
      refine lv_if_eq (tgt := 212) hx hb d_Mod_isFinalizer_153 (by decide) (fun h153 => ?_) (fun h153 => ?_)
      · refine lv_iconst (v := 0) hx hb d_Mod_isFinalizer_212 (by decide) ?_
        exact tw_zsret E (by decide) (by decide) d_Mod_isFinalizer_213
      · first | exact absurd h153 (by decide) | exact absurd (by decide) h153
    · refine lv_aload_n hx hb d_Mod_isFinalizer_51 rfl (lv_at hl 2 rfl) ?_
      refine va_get (D := g.1) (ci := 10) (v := .ref (q 2)) (C := R_Mod) (T := F_Mod) (N := 61) hx hb hts in_Mod hown hK hP 0 rfl rfl 2 (by decide) (hts _ wd_1252) (fun _ h9 => h9) rfl d_Mod_isFinalizer_52 ?_
      refine lv_iload_n hx hb d_Mod_isFinalizer_55 rfl (lv_at hl 1 rfl) ?_
      refine lv_iconst (v := 1) hx hb d_Mod_isFinalizer_56 (by decide) ?_
      refine lv_iadd hx hb d_Mod_isFinalizer_57 ?_
      refine tw_ri (e2 := nI (pn + 1)) (nI_add pn 1) ?_
      refine va_iald hx hb hK hP 1 0 rfl rfl (vp_in_nI (by omega) (by decide)) d_Mod_isFinalizer_58 ?_
      obtain ⟨x2, ex2⟩ : ∃ z : Int32, bs ((nI (pn + 1)).toNatClampNeg) = z := ⟨_, rfl⟩
      refine tw_ri (e2 := x2) ex2 ?_
      refine lv_bipush (v := 105) hx hb d_Mod_isFinalizer_59 (by decide) ?_
      refine lv_icmp_ne (tgt := 148) hx hb d_Mod_isFinalizer_61 (by decide) (fun h61 => ?_) (fun h61 => ?_)
      · refine lv_iconst (v := 0) hx hb d_Mod_isFinalizer_148 (by decide) ?_
        refine lv_istore hx hb d_Mod_isFinalizer_149 hl (by decide) rfl (fun ls hl => ?_)
        have hl : lv_has ls 5 [(4, .int 0), (3, .int (nI pt)), (2, .int (nI pn)), (0, .ref h0), (1, .int (nI mi))] := hl
        refine lv_iload hx hb d_Mod_isFinalizer_151 (lv_at hl 0 rfl) ?_
        refine lv_if_eq (tgt := 212) hx hb d_Mod_isFinalizer_153 (by decide) (fun h153 => ?_) (fun h153 => ?_)
        · refine lv_iconst (v := 0) hx hb d_Mod_isFinalizer_212 (by decide) ?_
          exact tw_zsret E (by decide) (by decide) d_Mod_isFinalizer_213
        · first | exact absurd h153 (by decide) | exact absurd (by decide) h153
      · refine lv_aload_n hx hb d_Mod_isFinalizer_64 rfl (lv_at hl 2 rfl) ?_
        refine va_get (D := g.1) (ci := 10) (v := .ref (q 2)) (C := R_Mod) (T := F_Mod) (N := 61) hx hb hts in_Mod hown hK hP 0 rfl rfl 2 (by decide) (hts _ wd_1252) (fun _ h9 => h9) rfl d_Mod_isFinalizer_65 ?_
        refine lv_iload_n hx hb d_Mod_isFinalizer_68 rfl (lv_at hl 1 rfl) ?_
        refine lv_iconst (v := 2) hx hb d_Mod_isFinalizer_69 (by decide) ?_
        refine lv_iadd hx hb d_Mod_isFinalizer_70 ?_
        refine tw_ri (e2 := nI (pn + 2)) (nI_add pn 2) ?_
        refine va_iald hx hb hK hP 1 0 rfl rfl (vp_in_nI (by omega) (by decide)) d_Mod_isFinalizer_71 ?_
        obtain ⟨x3, ex3⟩ : ∃ z : Int32, bs ((nI (pn + 2)).toNatClampNeg) = z := ⟨_, rfl⟩
        refine tw_ri (e2 := x3) ex3 ?_
        refine lv_bipush (v := 110) hx hb d_Mod_isFinalizer_72 (by decide) ?_
        refine lv_icmp_ne (tgt := 148) hx hb d_Mod_isFinalizer_74 (by decide) (fun h74 => ?_) (fun h74 => ?_)
        · refine lv_iconst (v := 0) hx hb d_Mod_isFinalizer_148 (by decide) ?_
          refine lv_istore hx hb d_Mod_isFinalizer_149 hl (by decide) rfl (fun ls hl => ?_)
          have hl : lv_has ls 5 [(4, .int 0), (3, .int (nI pt)), (2, .int (nI pn)), (0, .ref h0), (1, .int (nI mi))] := hl
          refine lv_iload hx hb d_Mod_isFinalizer_151 (lv_at hl 0 rfl) ?_
          refine lv_if_eq (tgt := 212) hx hb d_Mod_isFinalizer_153 (by decide) (fun h153 => ?_) (fun h153 => ?_)
          · refine lv_iconst (v := 0) hx hb d_Mod_isFinalizer_212 (by decide) ?_
            exact tw_zsret E (by decide) (by decide) d_Mod_isFinalizer_213
          · first | exact absurd h153 (by decide) | exact absurd (by decide) h153
        · refine lv_aload_n hx hb d_Mod_isFinalizer_77 rfl (lv_at hl 2 rfl) ?_
          refine va_get (D := g.1) (ci := 10) (v := .ref (q 2)) (C := R_Mod) (T := F_Mod) (N := 61) hx hb hts in_Mod hown hK hP 0 rfl rfl 2 (by decide) (hts _ wd_1252) (fun _ h9 => h9) rfl d_Mod_isFinalizer_78 ?_
          refine lv_iload_n hx hb d_Mod_isFinalizer_81 rfl (lv_at hl 1 rfl) ?_
          refine lv_iconst (v := 3) hx hb d_Mod_isFinalizer_82 (by decide) ?_
          refine lv_iadd hx hb d_Mod_isFinalizer_83 ?_
          refine tw_ri (e2 := nI (pn + 3)) (nI_add pn 3) ?_
          refine va_iald hx hb hK hP 1 0 rfl rfl (vp_in_nI (by omega) (by decide)) d_Mod_isFinalizer_84 ?_
          obtain ⟨x4, ex4⟩ : ∃ z : Int32, bs ((nI (pn + 3)).toNatClampNeg) = z := ⟨_, rfl⟩
          refine tw_ri (e2 := x4) ex4 ?_
          refine lv_bipush (v := 97) hx hb d_Mod_isFinalizer_85 (by decide) ?_
          refine lv_icmp_ne (tgt := 148) hx hb d_Mod_isFinalizer_87 (by decide) (fun h87 => ?_) (fun h87 => ?_)
          · refine lv_iconst (v := 0) hx hb d_Mod_isFinalizer_148 (by decide) ?_
            refine lv_istore hx hb d_Mod_isFinalizer_149 hl (by decide) rfl (fun ls hl => ?_)
            have hl : lv_has ls 5 [(4, .int 0), (3, .int (nI pt)), (2, .int (nI pn)), (0, .ref h0), (1, .int (nI mi))] := hl
            refine lv_iload hx hb d_Mod_isFinalizer_151 (lv_at hl 0 rfl) ?_
            refine lv_if_eq (tgt := 212) hx hb d_Mod_isFinalizer_153 (by decide) (fun h153 => ?_) (fun h153 => ?_)
            · refine lv_iconst (v := 0) hx hb d_Mod_isFinalizer_212 (by decide) ?_
              exact tw_zsret E (by decide) (by decide) d_Mod_isFinalizer_213
            · first | exact absurd h153 (by decide) | exact absurd (by decide) h153
          · refine lv_aload_n hx hb d_Mod_isFinalizer_90 rfl (lv_at hl 2 rfl) ?_
            refine va_get (D := g.1) (ci := 10) (v := .ref (q 2)) (C := R_Mod) (T := F_Mod) (N := 61) hx hb hts in_Mod hown hK hP 0 rfl rfl 2 (by decide) (hts _ wd_1252) (fun _ h9 => h9) rfl d_Mod_isFinalizer_91 ?_
            refine lv_iload_n hx hb d_Mod_isFinalizer_94 rfl (lv_at hl 1 rfl) ?_
            refine lv_iconst (v := 4) hx hb d_Mod_isFinalizer_95 (by decide) ?_
            refine lv_iadd hx hb d_Mod_isFinalizer_96 ?_
            refine tw_ri (e2 := nI (pn + 4)) (nI_add pn 4) ?_
            refine va_iald hx hb hK hP 1 0 rfl rfl (vp_in_nI (by omega) (by decide)) d_Mod_isFinalizer_97 ?_
            obtain ⟨x5, ex5⟩ : ∃ z : Int32, bs ((nI (pn + 4)).toNatClampNeg) = z := ⟨_, rfl⟩
            refine tw_ri (e2 := x5) ex5 ?_
            refine lv_bipush (v := 108) hx hb d_Mod_isFinalizer_98 (by decide) ?_
            refine lv_icmp_ne (tgt := 148) hx hb d_Mod_isFinalizer_100 (by decide) (fun h100 => ?_) (fun h100 => ?_)
            · refine lv_iconst (v := 0) hx hb d_Mod_isFinalizer_148 (by decide) ?_
              refine lv_istore hx hb d_Mod_isFinalizer_149 hl (by decide) rfl (fun ls hl => ?_)
              have hl : lv_has ls 5 [(4, .int 0), (3, .int (nI pt)), (2, .int (nI pn)), (0, .ref h0), (1, .int (nI mi))] := hl
              refine lv_iload hx hb d_Mod_isFinalizer_151 (lv_at hl 0 rfl) ?_
              refine lv_if_eq (tgt := 212) hx hb d_Mod_isFinalizer_153 (by decide) (fun h153 => ?_) (fun h153 => ?_)
              · refine lv_iconst (v := 0) hx hb d_Mod_isFinalizer_212 (by decide) ?_
                exact tw_zsret E (by decide) (by decide) d_Mod_isFinalizer_213
              · first | exact absurd h153 (by decide) | exact absurd (by decide) h153
            · refine lv_aload_n hx hb d_Mod_isFinalizer_103 rfl (lv_at hl 2 rfl) ?_
              refine va_get (D := g.1) (ci := 10) (v := .ref (q 2)) (C := R_Mod) (T := F_Mod) (N := 61) hx hb hts in_Mod hown hK hP 0 rfl rfl 2 (by decide) (hts _ wd_1252) (fun _ h9 => h9) rfl d_Mod_isFinalizer_104 ?_
              refine lv_iload_n hx hb d_Mod_isFinalizer_107 rfl (lv_at hl 1 rfl) ?_
              refine lv_iconst (v := 5) hx hb d_Mod_isFinalizer_108 (by decide) ?_
              refine lv_iadd hx hb d_Mod_isFinalizer_109 ?_
              refine tw_ri (e2 := nI (pn + 5)) (nI_add pn 5) ?_
              refine va_iald hx hb hK hP 1 0 rfl rfl (vp_in_nI (by omega) (by decide)) d_Mod_isFinalizer_110 ?_
              obtain ⟨x6, ex6⟩ : ∃ z : Int32, bs ((nI (pn + 5)).toNatClampNeg) = z := ⟨_, rfl⟩
              refine tw_ri (e2 := x6) ex6 ?_
              refine lv_bipush (v := 105) hx hb d_Mod_isFinalizer_111 (by decide) ?_
              refine lv_icmp_ne (tgt := 148) hx hb d_Mod_isFinalizer_113 (by decide) (fun h113 => ?_) (fun h113 => ?_)
              · refine lv_iconst (v := 0) hx hb d_Mod_isFinalizer_148 (by decide) ?_
                refine lv_istore hx hb d_Mod_isFinalizer_149 hl (by decide) rfl (fun ls hl => ?_)
                have hl : lv_has ls 5 [(4, .int 0), (3, .int (nI pt)), (2, .int (nI pn)), (0, .ref h0), (1, .int (nI mi))] := hl
                refine lv_iload hx hb d_Mod_isFinalizer_151 (lv_at hl 0 rfl) ?_
                refine lv_if_eq (tgt := 212) hx hb d_Mod_isFinalizer_153 (by decide) (fun h153 => ?_) (fun h153 => ?_)
                · refine lv_iconst (v := 0) hx hb d_Mod_isFinalizer_212 (by decide) ?_
                  exact tw_zsret E (by decide) (by decide) d_Mod_isFinalizer_213
                · first | exact absurd h153 (by decide) | exact absurd (by decide) h153
              · refine lv_aload_n hx hb d_Mod_isFinalizer_116 rfl (lv_at hl 2 rfl) ?_
                refine va_get (D := g.1) (ci := 10) (v := .ref (q 2)) (C := R_Mod) (T := F_Mod) (N := 61) hx hb hts in_Mod hown hK hP 0 rfl rfl 2 (by decide) (hts _ wd_1252) (fun _ h9 => h9) rfl d_Mod_isFinalizer_117 ?_
                refine lv_iload_n hx hb d_Mod_isFinalizer_120 rfl (lv_at hl 1 rfl) ?_
                refine lv_bipush (v := 6) hx hb d_Mod_isFinalizer_121 (by decide) ?_
                refine lv_iadd hx hb d_Mod_isFinalizer_123 ?_
                refine tw_ri (e2 := nI (pn + 6)) (nI_add pn 6) ?_
                refine va_iald hx hb hK hP 1 0 rfl rfl (vp_in_nI (by omega) (by decide)) d_Mod_isFinalizer_124 ?_
                obtain ⟨x7, ex7⟩ : ∃ z : Int32, bs ((nI (pn + 6)).toNatClampNeg) = z := ⟨_, rfl⟩
                refine tw_ri (e2 := x7) ex7 ?_
                refine lv_bipush (v := 122) hx hb d_Mod_isFinalizer_125 (by decide) ?_
                refine lv_icmp_ne (tgt := 148) hx hb d_Mod_isFinalizer_127 (by decide) (fun h127 => ?_) (fun h127 => ?_)
                · refine lv_iconst (v := 0) hx hb d_Mod_isFinalizer_148 (by decide) ?_
                  refine lv_istore hx hb d_Mod_isFinalizer_149 hl (by decide) rfl (fun ls hl => ?_)
                  have hl : lv_has ls 5 [(4, .int 0), (3, .int (nI pt)), (2, .int (nI pn)), (0, .ref h0), (1, .int (nI mi))] := hl
                  refine lv_iload hx hb d_Mod_isFinalizer_151 (lv_at hl 0 rfl) ?_
                  refine lv_if_eq (tgt := 212) hx hb d_Mod_isFinalizer_153 (by decide) (fun h153 => ?_) (fun h153 => ?_)
                  · refine lv_iconst (v := 0) hx hb d_Mod_isFinalizer_212 (by decide) ?_
                    exact tw_zsret E (by decide) (by decide) d_Mod_isFinalizer_213
                  · first | exact absurd h153 (by decide) | exact absurd (by decide) h153
                · refine lv_aload_n hx hb d_Mod_isFinalizer_130 rfl (lv_at hl 2 rfl) ?_
                  refine va_get (D := g.1) (ci := 10) (v := .ref (q 2)) (C := R_Mod) (T := F_Mod) (N := 61) hx hb hts in_Mod hown hK hP 0 rfl rfl 2 (by decide) (hts _ wd_1252) (fun _ h9 => h9) rfl d_Mod_isFinalizer_131 ?_
                  refine lv_iload_n hx hb d_Mod_isFinalizer_134 rfl (lv_at hl 1 rfl) ?_
                  refine lv_bipush (v := 7) hx hb d_Mod_isFinalizer_135 (by decide) ?_
                  refine lv_iadd hx hb d_Mod_isFinalizer_137 ?_
                  refine tw_ri (e2 := nI (pn + 7)) (nI_add pn 7) ?_
                  refine va_iald hx hb hK hP 1 0 rfl rfl (vp_in_nI (by omega) (by decide)) d_Mod_isFinalizer_138 ?_
                  obtain ⟨x8, ex8⟩ : ∃ z : Int32, bs ((nI (pn + 7)).toNatClampNeg) = z := ⟨_, rfl⟩
                  refine tw_ri (e2 := x8) ex8 ?_
                  refine lv_bipush (v := 101) hx hb d_Mod_isFinalizer_139 (by decide) ?_
                  refine lv_icmp_ne (tgt := 148) hx hb d_Mod_isFinalizer_141 (by decide) (fun h141 => ?_) (fun h141 => ?_)
                  · refine lv_iconst (v := 0) hx hb d_Mod_isFinalizer_148 (by decide) ?_
                    refine lv_istore hx hb d_Mod_isFinalizer_149 hl (by decide) rfl (fun ls hl => ?_)
                    have hl : lv_has ls 5 [(4, .int 0), (3, .int (nI pt)), (2, .int (nI pn)), (0, .ref h0), (1, .int (nI mi))] := hl
                    refine lv_iload hx hb d_Mod_isFinalizer_151 (lv_at hl 0 rfl) ?_
                    refine lv_if_eq (tgt := 212) hx hb d_Mod_isFinalizer_153 (by decide) (fun h153 => ?_) (fun h153 => ?_)
                    · refine lv_iconst (v := 0) hx hb d_Mod_isFinalizer_212 (by decide) ?_
                      exact tw_zsret E (by decide) (by decide) d_Mod_isFinalizer_213
                    · first | exact absurd h153 (by decide) | exact absurd (by decide) h153
                  · refine lv_iconst (v := 1) hx hb d_Mod_isFinalizer_144 (by decide) ?_
                    refine lv_goto (tgt := 149) hx hb d_Mod_isFinalizer_145 (by decide) ?_
                    refine lv_istore hx hb d_Mod_isFinalizer_149 hl (by decide) rfl (fun ls hl => ?_)
                    have hl : lv_has ls 5 [(4, .int 1), (3, .int (nI pt)), (2, .int (nI pn)), (0, .ref h0), (1, .int (nI mi))] := hl
                    refine lv_iload hx hb d_Mod_isFinalizer_151 (lv_at hl 0 rfl) ?_
                    refine lv_if_eq (tgt := 212) hx hb d_Mod_isFinalizer_153 (by decide) (fun h153 => ?_) (fun h153 => ?_)
                    · first | exact absurd h153 (by decide) | exact absurd (by decide) h153
                    · refine lv_aload_n hx hb d_Mod_isFinalizer_156 rfl (lv_at hl 3 rfl) ?_
                      refine va_get (D := g.1) (ci := 10) (v := .ref (q 17)) (C := R_Mod) (T := F_Mod) (N := 61) hx hb hts in_Mod hown hK hP 0 rfl rfl 17 (by decide) (hts _ wd_1267) (fun _ h9 => h9) rfl d_Mod_isFinalizer_157 ?_
                      refine lv_aload_n hx hb d_Mod_isFinalizer_160 rfl (lv_at hl 3 rfl) ?_
                      refine va_get (D := g.1) (ci := 10) (v := .ref (q 30)) (C := R_Mod) (T := F_Mod) (N := 61) hx hb hts in_Mod hown hK hP 0 rfl rfl 30 (by decide) (hts _ wd_1280) (fun _ h9 => h9) rfl d_Mod_isFinalizer_161 ?_
                      refine lv_iload_n hx hb d_Mod_isFinalizer_164 rfl (lv_at hl 4 rfl) ?_
                      refine va_iald hx hb hK hP 6 0 rfl rfl (vp_in_nI (by omega) (by decide)) d_Mod_isFinalizer_165 ?_
                      refine tw_ri (e2 := nI jt) (by rw [nI_clamp (by omega)]; exact f2) ?_
                      refine va_iald hx hb hK hP 4 0 rfl rfl (vp_in_nI (by omega) (by decide)) d_Mod_isFinalizer_166 ?_
                      refine tw_ri (e2 := nI lt1) (by rw [nI_clamp (by omega)]; exact f6) ?_
                      refine lv_iconst (v := 3) hx hb d_Mod_isFinalizer_167 (by decide) ?_
                      refine lv_icmp_ne (tgt := 212) hx hb d_Mod_isFinalizer_168 (by decide) (fun h168 => ?_) (fun h168 => ?_)
                      · refine lv_iconst (v := 0) hx hb d_Mod_isFinalizer_212 (by decide) ?_
                        exact tw_zsret E (by decide) (by decide) d_Mod_isFinalizer_213
                      · have h168 := tn_eq (b := 3) h168 (by omega) (by decide)
                        refine lv_aload_n hx hb d_Mod_isFinalizer_171 rfl (lv_at hl 3 rfl) ?_
                        refine va_get (D := g.1) (ci := 10) (v := .ref (q 2)) (C := R_Mod) (T := F_Mod) (N := 61) hx hb hts in_Mod hown hK hP 0 rfl rfl 2 (by decide) (hts _ wd_1252) (fun _ h9 => h9) rfl d_Mod_isFinalizer_172 ?_
                        refine lv_iload_n hx hb d_Mod_isFinalizer_175 rfl (lv_at hl 1 rfl) ?_
                        refine va_iald hx hb hK hP 1 0 rfl rfl (vp_in_nI (by omega) (by decide)) d_Mod_isFinalizer_176 ?_
                        obtain ⟨x9, ex9⟩ : ∃ z : Int32, bs ((nI pt).toNatClampNeg) = z := ⟨_, rfl⟩
                        refine tw_ri (e2 := x9) ex9 ?_
                        refine lv_bipush (v := 40) hx hb d_Mod_isFinalizer_177 (by decide) ?_
                        refine lv_icmp_ne (tgt := 212) hx hb d_Mod_isFinalizer_179 (by decide) (fun h179 => ?_) (fun h179 => ?_)
                        · refine lv_iconst (v := 0) hx hb d_Mod_isFinalizer_212 (by decide) ?_
                          exact tw_zsret E (by decide) (by decide) d_Mod_isFinalizer_213
                        · refine lv_aload_n hx hb d_Mod_isFinalizer_182 rfl (lv_at hl 3 rfl) ?_
                          refine va_get (D := g.1) (ci := 10) (v := .ref (q 2)) (C := R_Mod) (T := F_Mod) (N := 61) hx hb hts in_Mod hown hK hP 0 rfl rfl 2 (by decide) (hts _ wd_1252) (fun _ h9 => h9) rfl d_Mod_isFinalizer_183 ?_
                          refine lv_iload_n hx hb d_Mod_isFinalizer_186 rfl (lv_at hl 1 rfl) ?_
                          refine lv_iconst (v := 1) hx hb d_Mod_isFinalizer_187 (by decide) ?_
                          refine lv_iadd hx hb d_Mod_isFinalizer_188 ?_
                          refine tw_ri (e2 := nI (pt + 1)) (nI_add pt 1) ?_
                          refine va_iald hx hb hK hP 1 0 rfl rfl (vp_in_nI (by omega) (by decide)) d_Mod_isFinalizer_189 ?_
                          obtain ⟨x10, ex10⟩ : ∃ z : Int32, bs ((nI (pt + 1)).toNatClampNeg) = z := ⟨_, rfl⟩
                          refine tw_ri (e2 := x10) ex10 ?_
                          refine lv_bipush (v := 41) hx hb d_Mod_isFinalizer_190 (by decide) ?_
                          refine lv_icmp_ne (tgt := 212) hx hb d_Mod_isFinalizer_192 (by decide) (fun h192 => ?_) (fun h192 => ?_)
                          · refine lv_iconst (v := 0) hx hb d_Mod_isFinalizer_212 (by decide) ?_
                            exact tw_zsret E (by decide) (by decide) d_Mod_isFinalizer_213
                          · refine lv_aload_n hx hb d_Mod_isFinalizer_195 rfl (lv_at hl 3 rfl) ?_
                            refine va_get (D := g.1) (ci := 10) (v := .ref (q 2)) (C := R_Mod) (T := F_Mod) (N := 61) hx hb hts in_Mod hown hK hP 0 rfl rfl 2 (by decide) (hts _ wd_1252) (fun _ h9 => h9) rfl d_Mod_isFinalizer_196 ?_
                            refine lv_iload_n hx hb d_Mod_isFinalizer_199 rfl (lv_at hl 1 rfl) ?_
                            refine lv_iconst (v := 2) hx hb d_Mod_isFinalizer_200 (by decide) ?_
                            refine lv_iadd hx hb d_Mod_isFinalizer_201 ?_
                            refine tw_ri (e2 := nI (pt + 2)) (nI_add pt 2) ?_
                            refine va_iald hx hb hK hP 1 0 rfl rfl (vp_in_nI (by omega) (by decide)) d_Mod_isFinalizer_202 ?_
                            obtain ⟨x11, ex11⟩ : ∃ z : Int32, bs ((nI (pt + 2)).toNatClampNeg) = z := ⟨_, rfl⟩
                            refine tw_ri (e2 := x11) ex11 ?_
                            refine lv_bipush (v := 86) hx hb d_Mod_isFinalizer_203 (by decide) ?_
                            refine lv_icmp_ne (tgt := 212) hx hb d_Mod_isFinalizer_205 (by decide) (fun h205 => ?_) (fun h205 => ?_)
                            · refine lv_iconst (v := 0) hx hb d_Mod_isFinalizer_212 (by decide) ?_
                              exact tw_zsret E (by decide) (by decide) d_Mod_isFinalizer_213
                            · refine lv_iconst (v := 1) hx hb d_Mod_isFinalizer_208 (by decide) ?_
                              refine lv_goto (tgt := 213) hx hb d_Mod_isFinalizer_209 (by decide) ?_
                              exact tw_zsret E (by decide) (by decide) d_Mod_isFinalizer_213
