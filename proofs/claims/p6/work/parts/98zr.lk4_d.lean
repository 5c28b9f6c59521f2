section
theorem d_Mod_link_0 : decode b_Mod_link 0 = .ok (.iconst 1, 1) := by decide +kernel
theorem d_Mod_link_1 : decode b_Mod_link 1 = .ok (.istore_n 1, 1) := by decide +kernel
theorem d_Mod_link_2 : decode b_Mod_link 2 = .ok (.iload_n 1, 1) := by decide +kernel
theorem d_Mod_link_3 : decode b_Mod_link 3 = .ok (.aload_n 0, 1) := by decide +kernel
theorem d_Mod_link_4 : decode b_Mod_link 4 = .ok (.getfield 169, 3) := by decide +kernel
theorem d_Mod_link_7 : decode b_Mod_link 7 = .ok (.if_icmp .ge 21, 3) := by decide +kernel
theorem d_Mod_link_10 : decode b_Mod_link 10 = .ok (.aload_n 0, 1) := by decide +kernel
theorem d_Mod_link_11 : decode b_Mod_link 11 = .ok (.getfield 147, 3) := by decide +kernel
theorem d_Mod_link_14 : decode b_Mod_link 14 = .ok (.ifCond .ne 14, 3) := by decide +kernel
theorem d_Mod_link_17 : decode b_Mod_link 17 = .ok (.aload_n 0, 1) := by decide +kernel
theorem d_Mod_link_18 : decode b_Mod_link 18 = .ok (.iload_n 1, 1) := by decide +kernel
theorem d_Mod_link_19 : decode b_Mod_link 19 = .ok (.invokevirtual 270, 3) := by decide +kernel
theorem d_Mod_link_22 : decode b_Mod_link 22 = .ok (.iinc 1 1, 3) := by decide +kernel
theorem d_Mod_link_25 : decode b_Mod_link 25 = .ok (.goto (-23), 3) := by decide +kernel
theorem d_Mod_link_28 : decode b_Mod_link 28 = .ok (.iconst 1, 1) := by decide +kernel
theorem d_Mod_link_29 : decode b_Mod_link 29 = .ok (.istore_n 1, 1) := by decide +kernel
theorem d_Mod_link_30 : decode b_Mod_link 30 = .ok (.iload_n 1, 1) := by decide +kernel
theorem d_Mod_link_31 : decode b_Mod_link 31 = .ok (.aload_n 0, 1) := by decide +kernel
theorem d_Mod_link_32 : decode b_Mod_link 32 = .ok (.getfield 169, 3) := by decide +kernel
theorem d_Mod_link_35 : decode b_Mod_link 35 = .ok (.if_icmp .ge 43, 3) := by decide +kernel
theorem d_Mod_link_38 : decode b_Mod_link 38 = .ok (.aload_n 0, 1) := by decide +kernel
theorem d_Mod_link_39 : decode b_Mod_link 39 = .ok (.getfield 147, 3) := by decide +kernel
theorem d_Mod_link_42 : decode b_Mod_link 42 = .ok (.ifCond .ne 36, 3) := by decide +kernel
theorem d_Mod_link_45 : decode b_Mod_link 45 = .ok (.aload_n 0, 1) := by decide +kernel
theorem d_Mod_link_46 : decode b_Mod_link 46 = .ok (.getfield 32, 3) := by decide +kernel
theorem d_Mod_link_49 : decode b_Mod_link 49 = .ok (.iload_n 1, 1) := by decide +kernel
theorem d_Mod_link_50 : decode b_Mod_link 50 = .ok (.iaload, 1) := by decide +kernel
theorem d_Mod_link_51 : decode b_Mod_link 51 = .ok (.bipush 9, 2) := by decide +kernel
theorem d_Mod_link_53 : decode b_Mod_link 53 = .ok (.if_icmp .eq 14, 3) := by decide +kernel
theorem d_Mod_link_56 : decode b_Mod_link 56 = .ok (.aload_n 0, 1) := by decide +kernel
theorem d_Mod_link_57 : decode b_Mod_link 57 = .ok (.getfield 32, 3) := by decide +kernel
theorem d_Mod_link_60 : decode b_Mod_link 60 = .ok (.iload_n 1, 1) := by decide +kernel
theorem d_Mod_link_61 : decode b_Mod_link 61 = .ok (.iaload, 1) := by decide +kernel
theorem d_Mod_link_62 : decode b_Mod_link 62 = .ok (.bipush 10, 2) := by decide +kernel
theorem d_Mod_link_64 : decode b_Mod_link 64 = .ok (.if_icmp .ne 8, 3) := by decide +kernel
theorem d_Mod_link_67 : decode b_Mod_link 67 = .ok (.aload_n 0, 1) := by decide +kernel
theorem d_Mod_link_68 : decode b_Mod_link 68 = .ok (.iload_n 1, 1) := by decide +kernel
theorem d_Mod_link_69 : decode b_Mod_link 69 = .ok (.invokevirtual 273, 3) := by decide +kernel
theorem d_Mod_link_72 : decode b_Mod_link 72 = .ok (.iinc 1 1, 3) := by decide +kernel
theorem d_Mod_link_75 : decode b_Mod_link 75 = .ok (.goto (-45), 3) := by decide +kernel
theorem d_Mod_link_78 : decode b_Mod_link 78 = .ok (.aload_n 0, 1) := by decide +kernel
theorem d_Mod_link_79 : decode b_Mod_link 79 = .ok (.aload_n 0, 1) := by decide +kernel
theorem d_Mod_link_80 : decode b_Mod_link 80 = .ok (.getfield 219, 3) := by decide +kernel
theorem d_Mod_link_83 : decode b_Mod_link 83 = .ok (.bipush 7, 2) := by decide +kernel
theorem d_Mod_link_85 : decode b_Mod_link 85 = .ok (.invokevirtual 184, 3) := by decide +kernel
theorem d_Mod_link_88 : decode b_Mod_link 88 = .ok (.ifCond .ne 13, 3) := by decide +kernel
theorem d_Mod_link_91 : decode b_Mod_link 91 = .ok (.aload_n 0, 1) := by decide +kernel
theorem d_Mod_link_92 : decode b_Mod_link 92 = .ok (.bipush 6, 2) := by decide +kernel
theorem d_Mod_link_94 : decode b_Mod_link 94 = .ok (.aload_n 0, 1) := by decide +kernel
theorem d_Mod_link_95 : decode b_Mod_link 95 = .ok (.getfield 216, 3) := by decide +kernel
theorem d_Mod_link_98 : decode b_Mod_link 98 = .ok (.invokevirtual 159, 3) := by decide +kernel
theorem d_Mod_link_101 : decode b_Mod_link 101 = .ok (.aload_n 0, 1) := by decide +kernel
theorem d_Mod_link_102 : decode b_Mod_link 102 = .ok (.aload_n 0, 1) := by decide +kernel
theorem d_Mod_link_103 : decode b_Mod_link 103 = .ok (.getfield 222, 3) := by decide +kernel
theorem d_Mod_link_106 : decode b_Mod_link 106 = .ok (.bipush 7, 2) := by decide +kernel
theorem d_Mod_link_108 : decode b_Mod_link 108 = .ok (.invokevirtual 184, 3) := by decide +kernel
theorem d_Mod_link_111 : decode b_Mod_link 111 = .ok (.ifCond .ne 15, 3) := by decide +kernel
theorem d_Mod_link_114 : decode b_Mod_link 114 = .ok (.aload_n 0, 1) := by decide +kernel
theorem d_Mod_link_115 : decode b_Mod_link 115 = .ok (.bipush 6, 2) := by decide +kernel
theorem d_Mod_link_117 : decode b_Mod_link 117 = .ok (.aload_n 0, 1) := by decide +kernel
theorem d_Mod_link_118 : decode b_Mod_link 118 = .ok (.getfield 216, 3) := by decide +kernel
theorem d_Mod_link_121 : decode b_Mod_link 121 = .ok (.iconst 2, 1) := by decide +kernel
theorem d_Mod_link_122 : decode b_Mod_link 122 = .ok (.iadd, 1) := by decide +kernel
theorem d_Mod_link_123 : decode b_Mod_link 123 = .ok (.invokevirtual 159, 3) := by decide +kernel
theorem d_Mod_link_126 : decode b_Mod_link 126 = .ok (.iconst 0, 1) := by decide +kernel
theorem d_Mod_link_127 : decode b_Mod_link 127 = .ok (.istore_n 1, 1) := by decide +kernel
theorem d_Mod_link_128 : decode b_Mod_link 128 = .ok (.iload_n 1, 1) := by decide +kernel
theorem d_Mod_link_129 : decode b_Mod_link 129 = .ok (.aload_n 0, 1) := by decide +kernel
theorem d_Mod_link_130 : decode b_Mod_link 130 = .ok (.getfield 225, 3) := by decide +kernel
theorem d_Mod_link_133 : decode b_Mod_link 133 = .ok (.if_icmp .ge 43, 3) := by decide +kernel
theorem d_Mod_link_136 : decode b_Mod_link 136 = .ok (.aload_n 0, 1) := by decide +kernel
theorem d_Mod_link_137 : decode b_Mod_link 137 = .ok (.getfield 147, 3) := by decide +kernel
theorem d_Mod_link_140 : decode b_Mod_link 140 = .ok (.ifCond .ne 36, 3) := by decide +kernel
theorem d_Mod_link_143 : decode b_Mod_link 143 = .ok (.aload_n 0, 1) := by decide +kernel
theorem d_Mod_link_144 : decode b_Mod_link 144 = .ok (.aload_n 0, 1) := by decide +kernel
theorem d_Mod_link_145 : decode b_Mod_link 145 = .ok (.getfield 44, 3) := by decide +kernel
theorem d_Mod_link_148 : decode b_Mod_link 148 = .ok (.iload_n 1, 1) := by decide +kernel
theorem d_Mod_link_149 : decode b_Mod_link 149 = .ok (.iaload, 1) := by decide +kernel
theorem d_Mod_link_150 : decode b_Mod_link 150 = .ok (.bipush 7, 2) := by decide +kernel
theorem d_Mod_link_152 : decode b_Mod_link 152 = .ok (.invokevirtual 184, 3) := by decide +kernel
theorem d_Mod_link_155 : decode b_Mod_link 155 = .ok (.ifCond .ne 15, 3) := by decide +kernel
theorem d_Mod_link_158 : decode b_Mod_link 158 = .ok (.aload_n 0, 1) := by decide +kernel
theorem d_Mod_link_159 : decode b_Mod_link 159 = .ok (.bipush 6, 2) := by decide +kernel
theorem d_Mod_link_161 : decode b_Mod_link 161 = .ok (.aload_n 0, 1) := by decide +kernel
theorem d_Mod_link_162 : decode b_Mod_link 162 = .ok (.getfield 47, 3) := by decide +kernel
theorem d_Mod_link_165 : decode b_Mod_link 165 = .ok (.iload_n 1, 1) := by decide +kernel
theorem d_Mod_link_166 : decode b_Mod_link 166 = .ok (.iaload, 1) := by decide +kernel
theorem d_Mod_link_167 : decode b_Mod_link 167 = .ok (.invokevirtual 159, 3) := by decide +kernel
theorem d_Mod_link_170 : decode b_Mod_link 170 = .ok (.iinc 1 1, 3) := by decide +kernel
theorem d_Mod_link_173 : decode b_Mod_link 173 = .ok (.goto (-45), 3) := by decide +kernel
theorem d_Mod_link_176 : decode b_Mod_link 176 = .ok (.iconst 0, 1) := by decide +kernel
theorem d_Mod_link_177 : decode b_Mod_link 177 = .ok (.istore_n 1, 1) := by decide +kernel
theorem d_Mod_link_178 : decode b_Mod_link 178 = .ok (.iload_n 1, 1) := by decide +kernel
theorem d_Mod_link_179 : decode b_Mod_link 179 = .ok (.aload_n 0, 1) := by decide +kernel
theorem d_Mod_link_180 : decode b_Mod_link 180 = .ok (.getfield 205, 3) := by decide +kernel
theorem d_Mod_link_183 : decode b_Mod_link 183 = .ok (.if_icmp .ge 21, 3) := by decide +kernel
theorem d_Mod_link_186 : decode b_Mod_link 186 = .ok (.aload_n 0, 1) := by decide +kernel
theorem d_Mod_link_187 : decode b_Mod_link 187 = .ok (.getfield 147, 3) := by decide +kernel
theorem d_Mod_link_190 : decode b_Mod_link 190 = .ok (.ifCond .ne 14, 3) := by decide +kernel
theorem d_Mod_link_193 : decode b_Mod_link 193 = .ok (.aload_n 0, 1) := by decide +kernel
theorem d_Mod_link_194 : decode b_Mod_link 194 = .ok (.iload_n 1, 1) := by decide +kernel
theorem d_Mod_link_195 : decode b_Mod_link 195 = .ok (.invokevirtual 276, 3) := by decide +kernel
theorem d_Mod_link_198 : decode b_Mod_link 198 = .ok (.iinc 1 1, 3) := by decide +kernel
theorem d_Mod_link_201 : decode b_Mod_link 201 = .ok (.goto (-23), 3) := by decide +kernel
theorem d_Mod_link_204 : decode b_Mod_link 204 = .ok (.return_, 1) := by decide +kernel
end
section
set_option maxHeartbeats 4000000 in
set_option maxRecDepth 100000 in
theorem g_Mod_link (l : Launch) (g : tw_G) (sz : Nat) (h0 : Nat) (q : Nat → Nat) (rf : Int32) (n : Nat) (mm : Int32) (mb : Int32) (av : Nat) (ev : Nat) (wi : Int32) (mn : Nat) (tp : Int32) (tc : Int32) (sc : Int32) (nf : Nat) (fd : Nat) (me : Nat) (mp : Int32) (xn : Nat) (mt : Nat) (wh : Nat) (tq : Nat) (ag : Nat) (an : Int32) (ig : Int32) (bs : Nat → Int32) (tg : Nat → Int32) (tl : Nat → Int32) (on : Nat → Int32) (tw : Nat → Int32) (fc : Nat → Int32) (fq : Nat → Int32) (fl : Nat → Int32) (pl : Nat → Int32) (na : Nat → Int32) (ty : Nat → Int32) (ca : Nat → Int32) (fa : Int32) (fp : Int32) (hmn : mn ≤ 620) (hTX : TXT tg on tw) (hnf : nf ≤ 300) (hme : me ≤ 75) (hfd : fd ≤ me) (hf0 : fa = 0) : Met l y_Mod_link [.code y_Mod_link b_Mod_link 2 none] ({ frames := 7, cells := 0, slots := 0, locals := 164 }) (tw_P g [.ref h0] [(h0, .inr (10, mob q rf n mm mb fa fp av ev wi mn tp tc sc nf fd me mp xn mt wh tq ag an ig)), ((q 2), aI g 600 bs), ((q 14), aI g 620 tg), ((q 15), aI g 620 tl), ((q 16), aI g 620 on), ((q 17), aI g 620 tw), ((q 22), aI g 320 fc), ((q 23), aI g 320 fq), ((q 27), aI g 160 fl), ((q 28), aI g 160 pl), ((q 29), aI g 160 na), ((q 30), aI g 160 ty), ((q 31), aI g 160 ca)] sz) (tw_Qv g (fun (u : Int32 × Int32) => (u.1 = 0 → fa = 0) ∧ (u.1 = 0 → LCA mn tg on tw) ∧ (u.1 = 0 → ∀ j, 0 < j → j < mn → MC1 bs tg on tw j) ∧ (u.1 = 0 → TGv mn tg 7 tc) ∧ (u.1 = 0 → TGv mn tg 7 sc) ∧ (u.1 = 0 → ∀ j, j < nf → TGv mn tg 7 (fc j)) ∧ (u.1 = 0 → ∀ j, j < me → LMB bs mn tg on tw fd na ty j)) (fun u : Int32 × Int32 => [(h0, .inr (10, mob q rf n mm mb u.1 u.2 av ev wi mn tp tc sc nf fd me mp xn mt wh tq ag an ig)), ((q 2), aI g 600 bs), ((q 14), aI g 620 tg), ((q 15), aI g 620 tl), ((q 16), aI g 620 on), ((q 17), aI g 620 tw), ((q 22), aI g 320 fc), ((q 23), aI g 320 fq), ((q 27), aI g 160 fl), ((q 28), aI g 160 pl), ((q 29), aI g 160 na), ((q 30), aI g 160 ty), ((q 31), aI g 160 ca)]) (va_A [(h0, .inr (10, mob q rf n mm mb fa fp av ev wi mn tp tc sc nf fd me mp xn mt wh tq ag an ig)), ((q 2), aI g 600 bs), ((q 14), aI g 620 tg), ((q 15), aI g 620 tl), ((q 16), aI g 620 on), ((q 17), aI g 620 tw), ((q 22), aI g 320 fc), ((q 23), aI g 320 fq), ((q 27), aI g 160 fl), ((q 28), aI g 160 pl), ((q 29), aI g 160 na), ((q 30), aI g 160 ty), ((q 31), aI g 160 ca)] sz)) 0 0 (va_A [(h0, .inr (10, mob q rf n mm mb fa fp av ev wi mn tp tc sc nf fd me mp xn mt wh tq ag an ig)), ((q 2), aI g 600 bs), ((q 14), aI g 620 tg), ((q 15), aI g 620 tl), ((q 16), aI g 620 on), ((q 17), aI g 620 tw), ((q 22), aI g 320 fc), ((q 23), aI g 320 fq), ((q 27), aI g 160 fl), ((q 28), aI g 160 pl), ((q 29), aI g 160 na), ((q 30), aI g 160 ty), ((q 31), aI g 160 ca)] sz) := by
  refine tw_metW (l := l) (g := g) (y := y_Mod_link) (cc := b_Mod_link) (maxL := 2) (ret := none) (rm := { frames := 7, cells := 0, slots := 0, locals := 164 }) (mc := 0) (ms := 0) (av := [.ref h0]) (ws := [(h0, .inr (10, mob q rf n mm mb fa fp av ev wi mn tp tc sc nf fd me mp xn mt wh tq ag an ig)), ((q 2), aI g 600 bs), ((q 14), aI g 620 tg), ((q 15), aI g 620 tl), ((q 16), aI g 620 on), ((q 17), aI g 620 tw), ((q 22), aI g 320 fc), ((q 23), aI g 320 fq), ((q 27), aI g 160 fl), ((q 28), aI g 160 pl), ((q 29), aI g 160 na), ((q 30), aI g 160 ty), ((q 31), aI g 160 ca)]) (sz := sz) (Qc := fun A => (tw_Qv g (fun (u : Int32 × Int32) => (u.1 = 0 → fa = 0) ∧ (u.1 = 0 → LCA mn tg on tw) ∧ (u.1 = 0 → ∀ j, 0 < j → j < mn → MC1 bs tg on tw j) ∧ (u.1 = 0 → TGv mn tg 7 tc) ∧ (u.1 = 0 → TGv mn tg 7 sc) ∧ (u.1 = 0 → ∀ j, j < nf → TGv mn tg 7 (fc j)) ∧ (u.1 = 0 → ∀ j, j < me → LMB bs mn tg on tw fd na ty j)) (fun u : Int32 × Int32 => [(h0, .inr (10, mob q rf n mm mb u.1 u.2 av ev wi mn tp tc sc nf fd me mp xn mt wh tq ag an ig)), ((q 2), aI g 600 bs), ((q 14), aI g 620 tg), ((q 15), aI g 620 tl), ((q 16), aI g 620 on), ((q 17), aI g 620 tw), ((q 22), aI g 320 fc), ((q 23), aI g 320 fq), ((q 27), aI g 160 fl), ((q 28), aI g 160 pl), ((q 29), aI g 160 na), ((q 30), aI g 160 ty), ((q 31), aI g 160 ca)]) A)) (by decide) (Nat.le_of_ble_eq_true rfl) ?_
  intro p e s m below meth c ls H A E hB hK hZ hP hD hS hA hl
  obtain ⟨hx, hb, hml, hr, hown, hts, hlocks, hin⟩ := id E
  have hl : lv_has ls 2 [(0, .ref h0)] := hl
  refine lv_iconst (v := 1) hx hb d_Mod_link_0 (by decide) ?_
  refine lv_istore_n hx hb d_Mod_link_1 rfl hl (by decide) rfl (fun ls hl => ?_)
  have hl : lv_has ls 2 [(1, .int 1), (0, .ref h0)] := hl
  have loop2 : ∀ (kq : Nat) (k : Nat) (fa9 : Int32) (fp9 : Int32) (ls : Array Slot) (H : Heap) (locs : List Loc) , mn - k = kq → (hc9 : fa9 = 0 → fa = 0) → (hvk : 1 ≤ k) → (huk9 : k ≤ 700) → (hLCk : fa9 = 0 → ∀ j, 0 < j → j < k → LC1 mn tg on tw j) → lv_has ls 2 [(1, .int (nI k)), (0, .ref h0)] → va_P g.1 classes [(h0, .inr (10, mob q rf n mm mb fa9 fp9 av ev wi mn tp tc sc nf fd me mp xn mt wh tq ag an ig)), ((q 2), aI g 600 bs), ((q 14), aI g 620 tg), ((q 15), aI g 620 tl), ((q 16), aI g 620 on), ((q 17), aI g 620 tw), ((q 22), aI g 320 fc), ((q 23), aI g 320 fq), ((q 27), aI g 160 fl), ((q 28), aI g 160 pl), ((q 29), aI g 160 na), ((q 30), aI g 160 ty), ((q 31), aI g 160 ca)] H → va_D A [(h0, .inr (10, mob q rf n mm mb fa9 fp9 av ev wi mn tp tc sc nf fd me mp xn mt wh tq ag an ig)), ((q 2), aI g 600 bs), ((q 14), aI g 620 tg), ((q 15), aI g 620 tl), ((q 16), aI g 620 on), ((q 17), aI g 620 tw), ((q 22), aI g 320 fc), ((q 23), aI g 320 fq), ((q 27), aI g 160 fl), ((q 28), aI g 160 pl), ((q 29), aI g 160 na), ((q 30), aI g 160 ty), ((q 31), aI g 160 ca)] → va_S A s.heap H locs → W p l e ({ frames := 7, cells := 0, slots := 0, locals := 164 }) s m [.ref h0].toArray below meth c H locs 0 0 (MQ below (tw_Qv g (fun (u : Int32 × Int32) => (u.1 = 0 → fa = 0) ∧ (u.1 = 0 → LCA mn tg on tw) ∧ (u.1 = 0 → ∀ j, 0 < j → j < mn → MC1 bs tg on tw j) ∧ (u.1 = 0 → TGv mn tg 7 tc) ∧ (u.1 = 0 → TGv mn tg 7 sc) ∧ (u.1 = 0 → ∀ j, j < nf → TGv mn tg 7 (fc j)) ∧ (u.1 = 0 → ∀ j, j < me → LMB bs mn tg on tw fd na ty j)) (fun u : Int32 × Int32 => [(h0, .inr (10, mob q rf n mm mb u.1 u.2 av ev wi mn tp tc sc nf fd me mp xn mt wh tq ag an ig)), ((q 2), aI g 600 bs), ((q 14), aI g 620 tg), ((q 15), aI g 620 tl), ((q 16), aI g 620 on), ((q 17), aI g 620 tw), ((q 22), aI g 320 fc), ((q 23), aI g 320 fq), ((q 27), aI g 160 fl), ((q 28), aI g 160 pl), ((q 29), aI g 160 na), ((q 30), aI g 160 ty), ((q 31), aI g 160 ca)]) A) [.ref h0].toArray s 0 0 A) (F0 m 2 ls []) := by
    intro kq
    induction kq using Nat.strongRecOn with
    | _ kq ih =>
      intro k fa9 fp9 ls H locs hk hc9 hvk huk9 hLCk hl hP hD hS
      refine lv_iload_n hx hb d_Mod_link_2 rfl (lv_at hl 0 rfl) ?_
      refine lv_aload_n hx hb d_Mod_link_3 rfl (lv_at hl 1 rfl) ?_
      refine va_get (D := g.1) (ci := 10) (v := .int (nI mn)) (C := R_Mod) (T := F_Mod) (N := 61) hx hb hts in_Mod hown hK hP 0 rfl rfl 13 (by decide) (hts _ wd_1263) (fun _ h9 => h9) rfl d_Mod_link_4 ?_
      refine lv_icmp_ge (tgt := 28) hx hb d_Mod_link_7 (by decide) (fun h7 => ?_) (fun h7 => ?_)
      · have h7 := tn_le h7 (by omega) (by omega)
        refine lv_iconst (v := 1) hx hb d_Mod_link_28 (by decide) ?_
        refine lv_istore_n hx hb d_Mod_link_29 rfl hl (by decide) rfl (fun ls hl => ?_)
        have hl : lv_has ls 2 [(1, .int 1), (0, .ref h0)] := hl
        have loop30 : ∀ (kq : Nat) (k : Nat) (fa8 : Int32) (fp8 : Int32) (ls : Array Slot) (H : Heap) (locs : List Loc) , mn - k = kq → (hc8 : fa8 = 0 → fa9 = 0) → (hvk : 1 ≤ k) → (huk8 : k ≤ 700) → (hMCk : fa8 = 0 → ∀ j, 0 < j → j < k → MC1 bs tg on tw j) → lv_has ls 2 [(1, .int (nI k)), (0, .ref h0)] → va_P g.1 classes [(h0, .inr (10, mob q rf n mm mb fa8 fp8 av ev wi mn tp tc sc nf fd me mp xn mt wh tq ag an ig)), ((q 2), aI g 600 bs), ((q 14), aI g 620 tg), ((q 15), aI g 620 tl), ((q 16), aI g 620 on), ((q 17), aI g 620 tw), ((q 22), aI g 320 fc), ((q 23), aI g 320 fq), ((q 27), aI g 160 fl), ((q 28), aI g 160 pl), ((q 29), aI g 160 na), ((q 30), aI g 160 ty), ((q 31), aI g 160 ca)] H → va_D A [(h0, .inr (10, mob q rf n mm mb fa8 fp8 av ev wi mn tp tc sc nf fd me mp xn mt wh tq ag an ig)), ((q 2), aI g 600 bs), ((q 14), aI g 620 tg), ((q 15), aI g 620 tl), ((q 16), aI g 620 on), ((q 17), aI g 620 tw), ((q 22), aI g 320 fc), ((q 23), aI g 320 fq), ((q 27), aI g 160 fl), ((q 28), aI g 160 pl), ((q 29), aI g 160 na), ((q 30), aI g 160 ty), ((q 31), aI g 160 ca)] → va_S A s.heap H locs → W p l e ({ frames := 7, cells := 0, slots := 0, locals := 164 }) s m [.ref h0].toArray below meth c H locs 0 0 (MQ below (tw_Qv g (fun (u : Int32 × Int32) => (u.1 = 0 → fa = 0) ∧ (u.1 = 0 → LCA mn tg on tw) ∧ (u.1 = 0 → ∀ j, 0 < j → j < mn → MC1 bs tg on tw j) ∧ (u.1 = 0 → TGv mn tg 7 tc) ∧ (u.1 = 0 → TGv mn tg 7 sc) ∧ (u.1 = 0 → ∀ j, j < nf → TGv mn tg 7 (fc j)) ∧ (u.1 = 0 → ∀ j, j < me → LMB bs mn tg on tw fd na ty j)) (fun u : Int32 × Int32 => [(h0, .inr (10, mob q rf n mm mb u.1 u.2 av ev wi mn tp tc sc nf fd me mp xn mt wh tq ag an ig)), ((q 2), aI g 600 bs), ((q 14), aI g 620 tg), ((q 15), aI g 620 tl), ((q 16), aI g 620 on), ((q 17), aI g 620 tw), ((q 22), aI g 320 fc), ((q 23), aI g 320 fq), ((q 27), aI g 160 fl), ((q 28), aI g 160 pl), ((q 29), aI g 160 na), ((q 30), aI g 160 ty), ((q 31), aI g 160 ca)]) A) [.ref h0].toArray s 0 0 A) (F0 m 30 ls []) := by
          intro kq
          induction kq using Nat.strongRecOn with
          | _ kq ih30 =>
            intro k fa8 fp8 ls H locs hk30 hc8 hvk huk8 hMCk hl hP hD hS
            refine lv_iload_n hx hb d_Mod_link_30 rfl (lv_at hl 0 rfl) ?_
            refine lv_aload_n hx hb d_Mod_link_31 rfl (lv_at hl 1 rfl) ?_
            refine va_get (D := g.1) (ci := 10) (v := .int (nI mn)) (C := R_Mod) (T := F_Mod) (N := 61) hx hb hts in_Mod hown hK hP 0 rfl rfl 13 (by decide) (hts _ wd_1263) (fun _ h9 => h9) rfl d_Mod_link_32 ?_
            refine lv_icmp_ge (tgt := 78) hx hb d_Mod_link_35 (by decide) (fun h35 => ?_) (fun h35 => ?_)
            · have h35 := tn_le h35 (by omega) (by omega)
              refine lv_aload_n hx hb d_Mod_link_78 rfl (lv_at hl 1 rfl) ?_
              refine lv_aload_n hx hb d_Mod_link_79 rfl (lv_at hl 1 rfl) ?_
              refine va_get (D := g.1) (ci := 10) (v := .int tc) (C := R_Mod) (T := F_Mod) (N := 61) hx hb hts in_Mod hown hK hP 0 rfl rfl 19 (by decide) (hts _ wd_1269) (fun _ h9 => h9) rfl d_Mod_link_80 ?_
              refine lv_bipush (v := 7) hx hb d_Mod_link_83 (by decide) ?_
              refine tw_si (tw_runV (ws := [(h0, .inr (10, mob q rf n mm mb fa8 fp8 av ev wi mn tp tc sc nf fd me mp xn mt wh tq ag an ig)), ((q 2), aI g 600 bs), ((q 14), aI g 620 tg), ((q 15), aI g 620 tl), ((q 16), aI g 620 on), ((q 17), aI g 620 tw), ((q 22), aI g 320 fc), ((q 23), aI g 320 fq), ((q 27), aI g 160 fl), ((q 28), aI g 160 pl), ((q 29), aI g 160 na), ((q 30), aI g 160 ty), ((q 31), aI g 160 ca)]) (wc := [(h0, .inr (10, mob q rf n mm mb fa8 fp8 av ev wi mn tp tc sc nf fd me mp xn mt wh tq ag an ig)), ((q 14), aI g 620 tg)]) (As := [.int tc, .int 7]) (rest := []) E hB hK hZ (g_Mod_isTagI l g H.size h0 q rf n mm mb fa8 fp8 av ev wi mn tp tc sc nf fd me mp xn mt wh tq ag an ig tg tc 7 (by omega)) mc_Mod_isTag mi_Mod_isTag me_Mod_isTag wd_1508 hP hD hS hA [0, 2] rfl (by decide) 0 rfl rfl rfl rfl rfl (by decide) rfl hl.1 rfl (Nat.le_of_ble_eq_true rfl) (by decide) d_Mod_link_85) (fun r1 hr1 => ?_)
              have hB1 := hr1
              refine lv_if_ne (tgt := 101) hx hb d_Mod_link_88 (by decide) (fun h88 => ?_) (fun h88 => ?_)
              · have hT88 := hB1.2 (hB1.1.resolve_left h88)
                refine lv_aload_n hx hb d_Mod_link_101 rfl (lv_at hl 1 rfl) ?_
                refine lv_aload_n hx hb d_Mod_link_102 rfl (lv_at hl 1 rfl) ?_
                refine va_get (D := g.1) (ci := 10) (v := .int sc) (C := R_Mod) (T := F_Mod) (N := 61) hx hb hts in_Mod hown hK hP 0 rfl rfl 20 (by decide) (hts _ wd_1270) (fun _ h9 => h9) rfl d_Mod_link_103 ?_
                refine lv_bipush (v := 7) hx hb d_Mod_link_106 (by decide) ?_
                refine tw_si (tw_runV (ws := [(h0, .inr (10, mob q rf n mm mb fa8 fp8 av ev wi mn tp tc sc nf fd me mp xn mt wh tq ag an ig)), ((q 2), aI g 600 bs), ((q 14), aI g 620 tg), ((q 15), aI g 620 tl), ((q 16), aI g 620 on), ((q 17), aI g 620 tw), ((q 22), aI g 320 fc), ((q 23), aI g 320 fq), ((q 27), aI g 160 fl), ((q 28), aI g 160 pl), ((q 29), aI g 160 na), ((q 30), aI g 160 ty), ((q 31), aI g 160 ca)]) (wc := [(h0, .inr (10, mob q rf n mm mb fa8 fp8 av ev wi mn tp tc sc nf fd me mp xn mt wh tq ag an ig)), ((q 14), aI g 620 tg)]) (As := [.int sc, .int 7]) (rest := []) E hB hK hZ (g_Mod_isTagI l g H.size h0 q rf n mm mb fa8 fp8 av ev wi mn tp tc sc nf fd me mp xn mt wh tq ag an ig tg sc 7 (by omega)) mc_Mod_isTag mi_Mod_isTag me_Mod_isTag wd_1508 hP hD hS hA [0, 2] rfl (by decide) 0 rfl rfl rfl rfl rfl (by decide) rfl hl.1 rfl (Nat.le_of_ble_eq_true rfl) (by decide) d_Mod_link_108) (fun r2 hr2 => ?_)
                have hB2 := hr2
                refine lv_if_ne (tgt := 126) hx hb d_Mod_link_111 (by decide) (fun h111 => ?_) (fun h111 => ?_)
                · have hT111 := hB2.2 (hB2.1.resolve_left h111)
                  refine lv_iconst (v := 0) hx hb d_Mod_link_126 (by decide) ?_
                  refine lv_istore_n hx hb d_Mod_link_127 rfl hl (by decide) rfl (fun ls hl => ?_)
                  have hl : lv_has ls 2 [(1, .int 0), (0, .ref h0)] := hl
                  have loop128 : ∀ (kq : Nat) (i : Nat) (fa7 : Int32) (fp7 : Int32) (ls : Array Slot) (H : Heap) (locs : List Loc) , nf - i = kq → (hc7 : fa7 = 0 → fa8 = 0) → (hui7 : i ≤ 700) → (hFCk : fa7 = 0 → ∀ j, j < i → TGv mn tg 7 (fc j)) → lv_has ls 2 [(1, .int (nI i)), (0, .ref h0)] → va_P g.1 classes [(h0, .inr (10, mob q rf n mm mb fa7 fp7 av ev wi mn tp tc sc nf fd me mp xn mt wh tq ag an ig)), ((q 2), aI g 600 bs), ((q 14), aI g 620 tg), ((q 15), aI g 620 tl), ((q 16), aI g 620 on), ((q 17), aI g 620 tw), ((q 22), aI g 320 fc), ((q 23), aI g 320 fq), ((q 27), aI g 160 fl), ((q 28), aI g 160 pl), ((q 29), aI g 160 na), ((q 30), aI g 160 ty), ((q 31), aI g 160 ca)] H → va_D A [(h0, .inr (10, mob q rf n mm mb fa7 fp7 av ev wi mn tp tc sc nf fd me mp xn mt wh tq ag an ig)), ((q 2), aI g 600 bs), ((q 14), aI g 620 tg), ((q 15), aI g 620 tl), ((q 16), aI g 620 on), ((q 17), aI g 620 tw), ((q 22), aI g 320 fc), ((q 23), aI g 320 fq), ((q 27), aI g 160 fl), ((q 28), aI g 160 pl), ((q 29), aI g 160 na), ((q 30), aI g 160 ty), ((q 31), aI g 160 ca)] → va_S A s.heap H locs → W p l e ({ frames := 7, cells := 0, slots := 0, locals := 164 }) s m [.ref h0].toArray below meth c H locs 0 0 (MQ below (tw_Qv g (fun (u : Int32 × Int32) => (u.1 = 0 → fa = 0) ∧ (u.1 = 0 → LCA mn tg on tw) ∧ (u.1 = 0 → ∀ j, 0 < j → j < mn → MC1 bs tg on tw j) ∧ (u.1 = 0 → TGv mn tg 7 tc) ∧ (u.1 = 0 → TGv mn tg 7 sc) ∧ (u.1 = 0 → ∀ j, j < nf → TGv mn tg 7 (fc j)) ∧ (u.1 = 0 → ∀ j, j < me → LMB bs mn tg on tw fd na ty j)) (fun u : Int32 × Int32 => [(h0, .inr (10, mob q rf n mm mb u.1 u.2 av ev wi mn tp tc sc nf fd me mp xn mt wh tq ag an ig)), ((q 2), aI g 600 bs), ((q 14), aI g 620 tg), ((q 15), aI g 620 tl), ((q 16), aI g 620 on), ((q 17), aI g 620 tw), ((q 22), aI g 320 fc), ((q 23), aI g 320 fq), ((q 27), aI g 160 fl), ((q 28), aI g 160 pl), ((q 29), aI g 160 na), ((q 30), aI g 160 ty), ((q 31), aI g 160 ca)]) A) [.ref h0].toArray s 0 0 A) (F0 m 128 ls []) := by
                    intro kq
                    induction kq using Nat.strongRecOn with
                    | _ kq ih128 =>
                      intro i fa7 fp7 ls H locs hk128 hc7 hui7 hFCk hl hP hD hS
                      refine lv_iload_n hx hb d_Mod_link_128 rfl (lv_at hl 0 rfl) ?_
                      refine lv_aload_n hx hb d_Mod_link_129 rfl (lv_at hl 1 rfl) ?_
                      refine va_get (D := g.1) (ci := 10) (v := .int (nI nf)) (C := R_Mod) (T := F_Mod) (N := 61) hx hb hts in_Mod hown hK hP 0 rfl rfl 21 (by decide) (hts _ wd_1271) (fun _ h9 => h9) rfl d_Mod_link_130 ?_
                      refine lv_icmp_ge (tgt := 176) hx hb d_Mod_link_133 (by decide) (fun h133 => ?_) (fun h133 => ?_)
                      · have h133 := tn_le h133 (by omega) (by omega)
                        refine lv_iconst (v := 0) hx hb d_Mod_link_176 (by decide) ?_
                        refine lv_istore_n hx hb d_Mod_link_177 rfl hl (by decide) rfl (fun ls hl => ?_)
                        have hl : lv_has ls 2 [(1, .int 0), (0, .ref h0)] := hl
                        have loop178 : ∀ (kq : Nat) (i : Nat) (fa6 : Int32) (fp6 : Int32) (ls : Array Slot) (H : Heap) (locs : List Loc) , me - i = kq → (hc6 : fa6 = 0 → fa7 = 0) → (hui6 : i ≤ 700) → (hLMk : fa6 = 0 → ∀ j, j < i → LMB bs mn tg on tw fd na ty j) → lv_has ls 2 [(1, .int (nI i)), (0, .ref h0)] → va_P g.1 classes [(h0, .inr (10, mob q rf n mm mb fa6 fp6 av ev wi mn tp tc sc nf fd me mp xn mt wh tq ag an ig)), ((q 2), aI g 600 bs), ((q 14), aI g 620 tg), ((q 15), aI g 620 tl), ((q 16), aI g 620 on), ((q 17), aI g 620 tw), ((q 22), aI g 320 fc), ((q 23), aI g 320 fq), ((q 27), aI g 160 fl), ((q 28), aI g 160 pl), ((q 29), aI g 160 na), ((q 30), aI g 160 ty), ((q 31), aI g 160 ca)] H → va_D A [(h0, .inr (10, mob q rf n mm mb fa6 fp6 av ev wi mn tp tc sc nf fd me mp xn mt wh tq ag an ig)), ((q 2), aI g 600 bs), ((q 14), aI g 620 tg), ((q 15), aI g 620 tl), ((q 16), aI g 620 on), ((q 17), aI g 620 tw), ((q 22), aI g 320 fc), ((q 23), aI g 320 fq), ((q 27), aI g 160 fl), ((q 28), aI g 160 pl), ((q 29), aI g 160 na), ((q 30), aI g 160 ty), ((q 31), aI g 160 ca)] → va_S A s.heap H locs → W p l e ({ frames := 7, cells := 0, slots := 0, locals := 164 }) s m [.ref h0].toArray below meth c H locs 0 0 (MQ below (tw_Qv g (fun (u : Int32 × Int32) => (u.1 = 0 → fa = 0) ∧ (u.1 = 0 → LCA mn tg on tw) ∧ (u.1 = 0 → ∀ j, 0 < j → j < mn → MC1 bs tg on tw j) ∧ (u.1 = 0 → TGv mn tg 7 tc) ∧ (u.1 = 0 → TGv mn tg 7 sc) ∧ (u.1 = 0 → ∀ j, j < nf → TGv mn tg 7 (fc j)) ∧ (u.1 = 0 → ∀ j, j < me → LMB bs mn tg on tw fd na ty j)) (fun u : Int32 × Int32 => [(h0, .inr (10, mob q rf n mm mb u.1 u.2 av ev wi mn tp tc sc nf fd me mp xn mt wh tq ag an ig)), ((q 2), aI g 600 bs), ((q 14), aI g 620 tg), ((q 15), aI g 620 tl), ((q 16), aI g 620 on), ((q 17), aI g 620 tw), ((q 22), aI g 320 fc), ((q 23), aI g 320 fq), ((q 27), aI g 160 fl), ((q 28), aI g 160 pl), ((q 29), aI g 160 na), ((q 30), aI g 160 ty), ((q 31), aI g 160 ca)]) A) [.ref h0].toArray s 0 0 A) (F0 m 178 ls []) := by
                          intro kq
                          induction kq using Nat.strongRecOn with
                          | _ kq ih178 =>
                            intro i fa6 fp6 ls H locs hk178 hc6 hui6 hLMk hl hP hD hS
                            refine lv_iload_n hx hb d_Mod_link_178 rfl (lv_at hl 0 rfl) ?_
                            refine lv_aload_n hx hb d_Mod_link_179 rfl (lv_at hl 1 rfl) ?_
                            refine va_get (D := g.1) (ci := 10) (v := .int (nI me)) (C := R_Mod) (T := F_Mod) (N := 61) hx hb hts in_Mod hown hK hP 0 rfl rfl 25 (by decide) (hts _ wd_1275) (fun _ h9 => h9) rfl d_Mod_link_180 ?_
                            refine lv_icmp_ge (tgt := 204) hx hb d_Mod_link_183 (by decide) (fun h183 => ?_) (fun h183 => ?_)
                            · have h183 := tn_le h183 (by omega) (by omega)
                              exact tw_vret E hS (fa6, fp6) (⟨(fun _ => hf0), (fun hz => by have hz3 := hc6 hz; have hz4 := hc7 hz3; have hz5 := hc8 hz4; have hz6 := hc9 hz5; have hz7 := hLCk hz5; have hz8 := hMCk hz4; have hz9 := hFCk hz3; have hz10 := hLMk hz; exact fun j h1 h2 => hz7 j h1 (by omega)), (fun hz => by have hz11 := hc6 hz; have hz12 := hc7 hz11; have hz13 := hc8 hz12; have hz14 := hc9 hz13; have hz15 := hLCk hz13; have hz16 := hMCk hz12; have hz17 := hFCk hz11; have hz18 := hLMk hz; exact fun j h1 h2 => hz16 j h1 (by omega)), (fun hz => by have hz19 := hc6 hz; have hz20 := hc7 hz19; have hz21 := hc8 hz20; have hz22 := hc9 hz21; have hz23 := hLCk hz21; have hz24 := hMCk hz20; have hz25 := hFCk hz19; have hz26 := hLMk hz; exact hT88), (fun hz => by have hz27 := hc6 hz; have hz28 := hc7 hz27; have hz29 := hc8 hz28; have hz30 := hc9 hz29; have hz31 := hLCk hz29; have hz32 := hMCk hz28; have hz33 := hFCk hz27; have hz34 := hLMk hz; exact hT111), (fun hz => by have hz35 := hc6 hz; have hz36 := hc7 hz35; have hz37 := hc8 hz36; have hz38 := hc9 hz37; have hz39 := hLCk hz37; have hz40 := hMCk hz36; have hz41 := hFCk hz35; have hz42 := hLMk hz; exact fun j h2 => hz41 j (by omega)), (fun hz => by have hz43 := hc6 hz; have hz44 := hc7 hz43; have hz45 := hc8 hz44; have hz46 := hc9 hz45; have hz47 := hLCk hz45; have hz48 := hMCk hz44; have hz49 := hFCk hz43; have hz50 := hLMk hz; exact fun j h2 => hz50 j (by omega))⟩) hP hD d_Mod_link_204
                            · have h183 := tn_nle h183 (by omega) (by omega)
                              refine lv_aload_n hx hb d_Mod_link_186 rfl (lv_at hl 1 rfl) ?_
                              refine va_get (D := g.1) (ci := 10) (v := .int fa6) (C := R_Mod) (T := F_Mod) (N := 61) hx hb hts in_Mod hown hK hP 0 rfl rfl 8 (by decide) (hts _ wd_1258) (fun _ h9 => h9) rfl d_Mod_link_187 ?_
                              refine lv_if_ne (tgt := 204) hx hb d_Mod_link_190 (by decide) (fun h190 => ?_) (fun h190 => ?_)
                              · exact tw_vret E hS (fa6, fp6) (⟨(fun h => absurd h h190), (fun h => absurd h h190), (fun h => absurd h h190), (fun h => absurd h h190), (fun h => absurd h h190), (fun h => absurd h h190), (fun h => absurd h h190)⟩) hP hD d_Mod_link_204
                              · have hz51 := hc6 h190
                                have hz52 := hc7 hz51
                                have hz53 := hc8 hz52
                                have hz54 := hc9 hz53
                                have hz55 := hLCk hz53
                                have hz56 := hMCk hz52
                                have hz57 := hFCk hz51
                                have hz58 := hLMk h190
                                refine lv_aload_n hx hb d_Mod_link_193 rfl (lv_at hl 1 rfl) ?_
                                refine lv_iload_n hx hb d_Mod_link_194 rfl (lv_at hl 0 rfl) ?_
                                refine tw_wv (wr := [((q 15), aI g 620 tl), ((q 22), aI g 320 fc), ((q 23), aI g 320 fq)]) (tw_runV (ws := [(h0, .inr (10, mob q rf n mm mb fa6 fp6 av ev wi mn tp tc sc nf fd me mp xn mt wh tq ag an ig)), ((q 2), aI g 600 bs), ((q 14), aI g 620 tg), ((q 15), aI g 620 tl), ((q 16), aI g 620 on), ((q 17), aI g 620 tw), ((q 22), aI g 320 fc), ((q 23), aI g 320 fq), ((q 27), aI g 160 fl), ((q 28), aI g 160 pl), ((q 29), aI g 160 na), ((q 30), aI g 160 ty), ((q 31), aI g 160 ca)]) (wc := [(h0, .inr (10, mob q rf n mm mb fa6 fp6 av ev wi mn tp tc sc nf fd me mp xn mt wh tq ag an ig)), ((q 2), aI g 600 bs), ((q 14), aI g 620 tg), ((q 16), aI g 620 on), ((q 17), aI g 620 tw), ((q 27), aI g 160 fl), ((q 28), aI g 160 pl), ((q 29), aI g 160 na), ((q 30), aI g 160 ty), ((q 31), aI g 160 ca)]) (As := [.int (nI i)]) (rest := []) E hB hK hZ (g_Mod_linkMember l g H.size h0 q rf n mm mb av ev wi mn tp tc sc nf fd me mp xn mt wh tq ag an ig bs tg on tw fl pl na ty ca fa6 fp6 i (by omega) hTX (by omega) (by omega) hz58 h190) mc_Mod_linkMember mi_Mod_linkMember me_Mod_linkMember wd_1571 hP hD hS hA [0, 1, 2, 4, 5, 8, 9, 10, 11, 12] rfl (by decide) 0 rfl rfl rfl rfl rfl (by decide) rfl hl.1 rfl (Nat.le_of_ble_eq_true rfl) (by decide) d_Mod_link_195) hP hD hS hA [0, 1, 2, 4, 5, 8, 9, 10, 11, 12] [3, 6, 7] rfl rfl (by decide) (by decide) (fun u60 H locs hr59 hP hD hS => ?_)
                                try dsimp only at hr59
                                have hP : va_P g.1 classes [((q 15), aI g 620 tl), ((q 22), aI g 320 fc), ((q 23), aI g 320 fq), (h0, .inr (10, mob q rf n mm mb u60.1 u60.2 av ev wi mn tp tc sc nf fd me mp xn mt wh tq ag an ig)), ((q 2), aI g 600 bs), ((q 14), aI g 620 tg), ((q 16), aI g 620 on), ((q 17), aI g 620 tw), ((q 27), aI g 160 fl), ((q 28), aI g 160 pl), ((q 29), aI g 160 na), ((q 30), aI g 160 ty), ((q 31), aI g 160 ca)] H := hP
                                have hD : va_D A [((q 15), aI g 620 tl), ((q 22), aI g 320 fc), ((q 23), aI g 320 fq), (h0, .inr (10, mob q rf n mm mb u60.1 u60.2 av ev wi mn tp tc sc nf fd me mp xn mt wh tq ag an ig)), ((q 2), aI g 600 bs), ((q 14), aI g 620 tg), ((q 16), aI g 620 on), ((q 17), aI g 620 tw), ((q 27), aI g 160 fl), ((q 28), aI g 160 pl), ((q 29), aI g 160 na), ((q 30), aI g 160 ty), ((q 31), aI g 160 ca)] := hD
                                have hP : va_P g.1 classes [(h0, .inr (10, mob q rf n mm mb u60.1 u60.2 av ev wi mn tp tc sc nf fd me mp xn mt wh tq ag an ig)), ((q 2), aI g 600 bs), ((q 14), aI g 620 tg), ((q 15), aI g 620 tl), ((q 16), aI g 620 on), ((q 17), aI g 620 tw), ((q 22), aI g 320 fc), ((q 23), aI g 320 fq), ((q 27), aI g 160 fl), ((q 28), aI g 160 pl), ((q 29), aI g 160 na), ((q 30), aI g 160 ty), ((q 31), aI g 160 ca)] H := hP.sub [3, 4, 5, 0, 6, 7, 1, 2, 8, 9, 10, 11, 12] rfl
                                have hD : va_D A [(h0, .inr (10, mob q rf n mm mb u60.1 u60.2 av ev wi mn tp tc sc nf fd me mp xn mt wh tq ag an ig)), ((q 2), aI g 600 bs), ((q 14), aI g 620 tg), ((q 15), aI g 620 tl), ((q 16), aI g 620 on), ((q 17), aI g 620 tw), ((q 22), aI g 320 fc), ((q 23), aI g 320 fq), ((q 27), aI g 160 fl), ((q 28), aI g 160 pl), ((q 29), aI g 160 na), ((q 30), aI g 160 ty), ((q 31), aI g 160 ca)] := hD.sub [3, 4, 5, 0, 6, 7, 1, 2, 8, 9, 10, 11, 12] (by decide) rfl
                                obtain ⟨hp60_0, hp60_1⟩ := hr59
                                refine lv_iinc (k := 0) (v := nI (i + 1)) hx hb d_Mod_link_198 hl rfl ((nI_succ i).symm) (by decide) rfl (fun ls hl => ?_)
                                have hl : lv_has ls 2 [(1, .int (nI (i + 1))), (0, .ref h0)] := hl
                                refine lv_goto (tgt := 178) hx hb d_Mod_link_201 (by decide) ?_
                                have hP : va_P g.1 classes [(h0, .inr (10, mob q rf n mm mb u60.1 u60.2 av ev wi mn tp tc sc nf fd me mp xn mt wh tq ag an ig)), ((q 2), aI g 600 bs), ((q 14), aI g 620 tg), ((q 15), aI g 620 tl), ((q 16), aI g 620 on), ((q 17), aI g 620 tw), ((q 22), aI g 320 fc), ((q 23), aI g 320 fq), ((q 27), aI g 160 fl), ((q 28), aI g 160 pl), ((q 29), aI g 160 na), ((q 30), aI g 160 ty), ((q 31), aI g 160 ca)] H := hP.sub [0, 1, 2, 3, 4, 5, 6, 7, 8, 9, 10, 11, 12] rfl
                                have hD : va_D A [(h0, .inr (10, mob q rf n mm mb u60.1 u60.2 av ev wi mn tp tc sc nf fd me mp xn mt wh tq ag an ig)), ((q 2), aI g 600 bs), ((q 14), aI g 620 tg), ((q 15), aI g 620 tl), ((q 16), aI g 620 on), ((q 17), aI g 620 tw), ((q 22), aI g 320 fc), ((q 23), aI g 320 fq), ((q 27), aI g 160 fl), ((q 28), aI g 160 pl), ((q 29), aI g 160 na), ((q 30), aI g 160 ty), ((q 31), aI g 160 ca)] := hD.sub [0, 1, 2, 3, 4, 5, 6, 7, 8, 9, 10, 11, 12] (by decide) rfl
                                exact ih178 _ (by omega) (i + 1) u60.1 u60.2 ls _ _ rfl (fun _ => hz51) (by omega) (fun hz => by have hz61 := hp60_0 hz; have hz62 := hc6 hz61; have hz63 := hc7 hz62; have hz64 := hc8 hz63; have hz65 := hc9 hz64; have hz66 := hLCk hz64; have hz67 := hMCk hz63; have hz68 := hFCk hz62; have hz69 := hLMk hz61; have hz70 := hp60_1 hz; exact fun j h2 => by by_cases ej : j = i; (rw [ej]; exact hz70); (exact hz69 j (by omega))) (lv_sub hl [0, 1] rfl) hP hD hS
                        exact loop178 _ 0 fa7 fp7 ls _ _ rfl (fun h => h) (by omega) (fun _ j h2 => absurd h2 (Nat.not_lt_zero j)) (hl) hP hD hS
                      · have h133 := tn_nle h133 (by omega) (by omega)
                        refine lv_aload_n hx hb d_Mod_link_136 rfl (lv_at hl 1 rfl) ?_
                        refine va_get (D := g.1) (ci := 10) (v := .int fa7) (C := R_Mod) (T := F_Mod) (N := 61) hx hb hts in_Mod hown hK hP 0 rfl rfl 8 (by decide) (hts _ wd_1258) (fun _ h9 => h9) rfl d_Mod_link_137 ?_
                        refine lv_if_ne (tgt := 176) hx hb d_Mod_link_140 (by decide) (fun h140 => ?_) (fun h140 => ?_)
                        · refine lv_iconst (v := 0) hx hb d_Mod_link_176 (by decide) ?_
                          refine lv_istore_n hx hb d_Mod_link_177 rfl hl (by decide) rfl (fun ls hl => ?_)
                          have hl : lv_has ls 2 [(1, .int 0), (0, .ref h0)] := hl
                          have loop178 : ∀ (kq : Nat) (i : Nat) (fa6 : Int32) (fp6 : Int32) (ls : Array Slot) (H : Heap) (locs : List Loc) , me - i = kq → (hc6 : fa6 = 0 → fa7 = 0) → (hui6 : i ≤ 700) → (hLMk : fa6 = 0 → ∀ j, j < i → LMB bs mn tg on tw fd na ty j) → lv_has ls 2 [(1, .int (nI i)), (0, .ref h0)] → va_P g.1 classes [(h0, .inr (10, mob q rf n mm mb fa6 fp6 av ev wi mn tp tc sc nf fd me mp xn mt wh tq ag an ig)), ((q 2), aI g 600 bs), ((q 14), aI g 620 tg), ((q 15), aI g 620 tl), ((q 16), aI g 620 on), ((q 17), aI g 620 tw), ((q 22), aI g 320 fc), ((q 23), aI g 320 fq), ((q 27), aI g 160 fl), ((q 28), aI g 160 pl), ((q 29), aI g 160 na), ((q 30), aI g 160 ty), ((q 31), aI g 160 ca)] H → va_D A [(h0, .inr (10, mob q rf n mm mb fa6 fp6 av ev wi mn tp tc sc nf fd me mp xn mt wh tq ag an ig)), ((q 2), aI g 600 bs), ((q 14), aI g 620 tg), ((q 15), aI g 620 tl), ((q 16), aI g 620 on), ((q 17), aI g 620 tw), ((q 22), aI g 320 fc), ((q 23), aI g 320 fq), ((q 27), aI g 160 fl), ((q 28), aI g 160 pl), ((q 29), aI g 160 na), ((q 30), aI g 160 ty), ((q 31), aI g 160 ca)] → va_S A s.heap H locs → W p l e ({ frames := 7, cells := 0, slots := 0, locals := 164 }) s m [.ref h0].toArray below meth c H locs 0 0 (MQ below (tw_Qv g (fun (u : Int32 × Int32) => (u.1 = 0 → fa = 0) ∧ (u.1 = 0 → LCA mn tg on tw) ∧ (u.1 = 0 → ∀ j, 0 < j → j < mn → MC1 bs tg on tw j) ∧ (u.1 = 0 → TGv mn tg 7 tc) ∧ (u.1 = 0 → TGv mn tg 7 sc) ∧ (u.1 = 0 → ∀ j, j < nf → TGv mn tg 7 (fc j)) ∧ (u.1 = 0 → ∀ j, j < me → LMB bs mn tg on tw fd na ty j)) (fun u : Int32 × Int32 => [(h0, .inr (10, mob q rf n mm mb u.1 u.2 av ev wi mn tp tc sc nf fd me mp xn mt wh tq ag an ig)), ((q 2), aI g 600 bs), ((q 14), aI g 620 tg), ((q 15), aI g 620 tl), ((q 16), aI g 620 on), ((q 17), aI g 620 tw), ((q 22), aI g 320 fc), ((q 23), aI g 320 fq), ((q 27), aI g 160 fl), ((q 28), aI g 160 pl), ((q 29), aI g 160 na), ((q 30), aI g 160 ty), ((q 31), aI g 160 ca)]) A) [.ref h0].toArray s 0 0 A) (F0 m 178 ls []) := by
                            intro kq
                            induction kq using Nat.strongRecOn with
                            | _ kq ih178 =>
                              intro i fa6 fp6 ls H locs hk178 hc6 hui6 hLMk hl hP hD hS
                              refine lv_iload_n hx hb d_Mod_link_178 rfl (lv_at hl 0 rfl) ?_
                              refine lv_aload_n hx hb d_Mod_link_179 rfl (lv_at hl 1 rfl) ?_
                              refine va_get (D := g.1) (ci := 10) (v := .int (nI me)) (C := R_Mod) (T := F_Mod) (N := 61) hx hb hts in_Mod hown hK hP 0 rfl rfl 25 (by decide) (hts _ wd_1275) (fun _ h9 => h9) rfl d_Mod_link_180 ?_
                              refine lv_icmp_ge (tgt := 204) hx hb d_Mod_link_183 (by decide) (fun h183 => ?_) (fun h183 => ?_)
                              · have h183 := tn_le h183 (by omega) (by omega)
                                exact tw_vret E hS (fa6, fp6) (⟨(fun h => absurd h (fun h => h140 (hc6 h))), (fun h => absurd h (fun h => h140 (hc6 h))), (fun h => absurd h (fun h => h140 (hc6 h))), (fun h => absurd h (fun h => h140 (hc6 h))), (fun h => absurd h (fun h => h140 (hc6 h))), (fun h => absurd h (fun h => h140 (hc6 h))), (fun h => absurd h (fun h => h140 (hc6 h)))⟩) hP hD d_Mod_link_204
                              · have h183 := tn_nle h183 (by omega) (by omega)
                                refine lv_aload_n hx hb d_Mod_link_186 rfl (lv_at hl 1 rfl) ?_
                                refine va_get (D := g.1) (ci := 10) (v := .int fa6) (C := R_Mod) (T := F_Mod) (N := 61) hx hb hts in_Mod hown hK hP 0 rfl rfl 8 (by decide) (hts _ wd_1258) (fun _ h9 => h9) rfl d_Mod_link_187 ?_
                                refine lv_if_ne (tgt := 204) hx hb d_Mod_link_190 (by decide) (fun h190 => ?_) (fun h190 => ?_)
                                · exact tw_vret E hS (fa6, fp6) (⟨(fun h => absurd h h190), (fun h => absurd h h190), (fun h => absurd h h190), (fun h => absurd h h190), (fun h => absurd h h190), (fun h => absurd h h190), (fun h => absurd h h190)⟩) hP hD d_Mod_link_204
                                · exact absurd h190 (fun h => h140 (hc6 h))
                          exact loop178 _ 0 fa7 fp7 ls _ _ rfl (fun h => h) (by omega) (fun _ j h2 => absurd h2 (Nat.not_lt_zero j)) (hl) hP hD hS
                        · have hz71 := hc7 h140
                          have hz72 := hc8 hz71
                          have hz73 := hc9 hz72
                          have hz74 := hLCk hz72
                          have hz75 := hMCk hz71
                          have hz76 := hFCk h140
                          refine lv_aload_n hx hb d_Mod_link_143 rfl (lv_at hl 1 rfl) ?_
                          refine lv_aload_n hx hb d_Mod_link_144 rfl (lv_at hl 1 rfl) ?_
                          refine va_get (D := g.1) (ci := 10) (v := .ref (q 22)) (C := R_Mod) (T := F_Mod) (N := 61) hx hb hts in_Mod hown hK hP 0 rfl rfl 22 (by decide) (hts _ wd_1272) (fun _ h9 => h9) rfl d_Mod_link_145 ?_
                          refine lv_iload_n hx hb d_Mod_link_148 rfl (lv_at hl 0 rfl) ?_
                          refine va_iald hx hb hK hP 6 0 rfl rfl (vp_in_nI (by omega) (by decide)) d_Mod_link_149 ?_
                          obtain ⟨xf2, exf2⟩ : ∃ z : Int32, fc i = z := ⟨_, rfl⟩
                          refine tw_ri (e2 := xf2) (by rw [nI_clamp (by omega)]; exact exf2) ?_
                          refine lv_bipush (v := 7) hx hb d_Mod_link_150 (by decide) ?_
                          refine tw_si (tw_runV (ws := [(h0, .inr (10, mob q rf n mm mb fa7 fp7 av ev wi mn tp tc sc nf fd me mp xn mt wh tq ag an ig)), ((q 2), aI g 600 bs), ((q 14), aI g 620 tg), ((q 15), aI g 620 tl), ((q 16), aI g 620 on), ((q 17), aI g 620 tw), ((q 22), aI g 320 fc), ((q 23), aI g 320 fq), ((q 27), aI g 160 fl), ((q 28), aI g 160 pl), ((q 29), aI g 160 na), ((q 30), aI g 160 ty), ((q 31), aI g 160 ca)]) (wc := [(h0, .inr (10, mob q rf n mm mb fa7 fp7 av ev wi mn tp tc sc nf fd me mp xn mt wh tq ag an ig)), ((q 14), aI g 620 tg)]) (As := [.int xf2, .int 7]) (rest := []) E hB hK hZ (g_Mod_isTagI l g H.size h0 q rf n mm mb fa7 fp7 av ev wi mn tp tc sc nf fd me mp xn mt wh tq ag an ig tg xf2 7 (by omega)) mc_Mod_isTag mi_Mod_isTag me_Mod_isTag wd_1508 hP hD hS hA [0, 2] rfl (by decide) 0 rfl rfl rfl rfl rfl (by decide) rfl hl.1 rfl (Nat.le_of_ble_eq_true rfl) (by decide) d_Mod_link_152) (fun r77 hr77 => ?_)
                          have hB77 := hr77
                          refine lv_if_ne (tgt := 170) hx hb d_Mod_link_155 (by decide) (fun h155 => ?_) (fun h155 => ?_)
                          · have hT155 := hB77.2 (hB77.1.resolve_left h155)
                            have hT155b : TGv mn tg 7 (fc i) := by rw [exf2]; exact hT155
                            refine lv_iinc (k := 0) (v := nI (i + 1)) hx hb d_Mod_link_170 hl rfl ((nI_succ i).symm) (by decide) rfl (fun ls hl => ?_)
                            have hl : lv_has ls 2 [(1, .int (nI (i + 1))), (0, .ref h0)] := hl
                            refine lv_goto (tgt := 128) hx hb d_Mod_link_173 (by decide) ?_
                            have hP : va_P g.1 classes [(h0, .inr (10, mob q rf n mm mb fa7 fp7 av ev wi mn tp tc sc nf fd me mp xn mt wh tq ag an ig)), ((q 2), aI g 600 bs), ((q 14), aI g 620 tg), ((q 15), aI g 620 tl), ((q 16), aI g 620 on), ((q 17), aI g 620 tw), ((q 22), aI g 320 fc), ((q 23), aI g 320 fq), ((q 27), aI g 160 fl), ((q 28), aI g 160 pl), ((q 29), aI g 160 na), ((q 30), aI g 160 ty), ((q 31), aI g 160 ca)] H := hP.sub [0, 1, 2, 3, 4, 5, 6, 7, 8, 9, 10, 11, 12] rfl
                            have hD : va_D A [(h0, .inr (10, mob q rf n mm mb fa7 fp7 av ev wi mn tp tc sc nf fd me mp xn mt wh tq ag an ig)), ((q 2), aI g 600 bs), ((q 14), aI g 620 tg), ((q 15), aI g 620 tl), ((q 16), aI g 620 on), ((q 17), aI g 620 tw), ((q 22), aI g 320 fc), ((q 23), aI g 320 fq), ((q 27), aI g 160 fl), ((q 28), aI g 160 pl), ((q 29), aI g 160 na), ((q 30), aI g 160 ty), ((q 31), aI g 160 ca)] := hD.sub [0, 1, 2, 3, 4, 5, 6, 7, 8, 9, 10, 11, 12] (by decide) rfl
                            exact ih128 _ (by omega) (i + 1) fa7 fp7 ls _ _ rfl (fun _ => hz71) (by omega) (fun _ => by exact fun j h2 => by by_cases ej : j = i; (rw [ej]; exact hT155b); (exact hz76 j (by omega))) (lv_sub hl [0, 1] rfl) hP hD hS
                          · refine lv_aload_n hx hb d_Mod_link_158 rfl (lv_at hl 1 rfl) ?_
                            refine lv_bipush (v := 6) hx hb d_Mod_link_159 (by decide) ?_
                            refine lv_aload_n hx hb d_Mod_link_161 rfl (lv_at hl 1 rfl) ?_
                            refine va_get (D := g.1) (ci := 10) (v := .ref (q 23)) (C := R_Mod) (T := F_Mod) (N := 61) hx hb hts in_Mod hown hK hP 0 rfl rfl 23 (by decide) (hts _ wd_1273) (fun _ h9 => h9) rfl d_Mod_link_162 ?_
                            refine lv_iload_n hx hb d_Mod_link_165 rfl (lv_at hl 0 rfl) ?_
                            refine va_iald hx hb hK hP 7 0 rfl rfl (vp_in_nI (by omega) (by decide)) d_Mod_link_166 ?_
                            obtain ⟨x78, ex78⟩ : ∃ z : Int32, fq ((nI i).toNatClampNeg) = z := ⟨_, rfl⟩
                            refine tw_ri (e2 := x78) ex78 ?_
                            refine tw_wv (wr := [((q 2), aI g 600 bs), ((q 14), aI g 620 tg), ((q 15), aI g 620 tl), ((q 16), aI g 620 on), ((q 17), aI g 620 tw), ((q 22), aI g 320 fc), ((q 23), aI g 320 fq), ((q 27), aI g 160 fl), ((q 28), aI g 160 pl), ((q 29), aI g 160 na), ((q 30), aI g 160 ty), ((q 31), aI g 160 ca)]) (tw_runV (ws := [(h0, .inr (10, mob q rf n mm mb fa7 fp7 av ev wi mn tp tc sc nf fd me mp xn mt wh tq ag an ig)), ((q 2), aI g 600 bs), ((q 14), aI g 620 tg), ((q 15), aI g 620 tl), ((q 16), aI g 620 on), ((q 17), aI g 620 tw), ((q 22), aI g 320 fc), ((q 23), aI g 320 fq), ((q 27), aI g 160 fl), ((q 28), aI g 160 pl), ((q 29), aI g 160 na), ((q 30), aI g 160 ty), ((q 31), aI g 160 ca)]) (wc := [(h0, .inr (10, mob q rf n mm mb fa7 fp7 av ev wi mn tp tc sc nf fd me mp xn mt wh tq ag an ig))]) (As := [.int 6, .int x78]) (rest := []) E hB hK hZ (g_Mod_fail l g H.size h0 q rf n mm mb av ev wi mn tp tc sc nf fd me mp xn mt wh tq ag an ig fa7 fp7 6 x78 (by decide)) mc_Mod_fail mi_Mod_fail me_Mod_fail wd_1478 hP hD hS hA [0] rfl (by decide) 0 rfl rfl rfl rfl rfl (by decide) rfl hl.1 rfl (Nat.le_of_ble_eq_true rfl) (by decide) d_Mod_link_167) hP hD hS hA [0] [1, 2, 3, 4, 5, 6, 7, 8, 9, 10, 11, 12] rfl rfl (by decide) (by decide) (fun u80 H locs hr79 hP hD hS => ?_)
                            try dsimp only at hr79
                            have hP : va_P g.1 classes [((q 2), aI g 600 bs), ((q 14), aI g 620 tg), ((q 15), aI g 620 tl), ((q 16), aI g 620 on), ((q 17), aI g 620 tw), ((q 22), aI g 320 fc), ((q 23), aI g 320 fq), ((q 27), aI g 160 fl), ((q 28), aI g 160 pl), ((q 29), aI g 160 na), ((q 30), aI g 160 ty), ((q 31), aI g 160 ca), (h0, .inr (10, mob q rf n mm mb u80.1 u80.2 av ev wi mn tp tc sc nf fd me mp xn mt wh tq ag an ig))] H := hP
                            have hD : va_D A [((q 2), aI g 600 bs), ((q 14), aI g 620 tg), ((q 15), aI g 620 tl), ((q 16), aI g 620 on), ((q 17), aI g 620 tw), ((q 22), aI g 320 fc), ((q 23), aI g 320 fq), ((q 27), aI g 160 fl), ((q 28), aI g 160 pl), ((q 29), aI g 160 na), ((q 30), aI g 160 ty), ((q 31), aI g 160 ca), (h0, .inr (10, mob q rf n mm mb u80.1 u80.2 av ev wi mn tp tc sc nf fd me mp xn mt wh tq ag an ig))] := hD
                            have hP : va_P g.1 classes [(h0, .inr (10, mob q rf n mm mb u80.1 u80.2 av ev wi mn tp tc sc nf fd me mp xn mt wh tq ag an ig)), ((q 2), aI g 600 bs), ((q 14), aI g 620 tg), ((q 15), aI g 620 tl), ((q 16), aI g 620 on), ((q 17), aI g 620 tw), ((q 22), aI g 320 fc), ((q 23), aI g 320 fq), ((q 27), aI g 160 fl), ((q 28), aI g 160 pl), ((q 29), aI g 160 na), ((q 30), aI g 160 ty), ((q 31), aI g 160 ca)] H := hP.sub [12, 0, 1, 2, 3, 4, 5, 6, 7, 8, 9, 10, 11] rfl
                            have hD : va_D A [(h0, .inr (10, mob q rf n mm mb u80.1 u80.2 av ev wi mn tp tc sc nf fd me mp xn mt wh tq ag an ig)), ((q 2), aI g 600 bs), ((q 14), aI g 620 tg), ((q 15), aI g 620 tl), ((q 16), aI g 620 on), ((q 17), aI g 620 tw), ((q 22), aI g 320 fc), ((q 23), aI g 320 fq), ((q 27), aI g 160 fl), ((q 28), aI g 160 pl), ((q 29), aI g 160 na), ((q 30), aI g 160 ty), ((q 31), aI g 160 ca)] := hD.sub [12, 0, 1, 2, 3, 4, 5, 6, 7, 8, 9, 10, 11] (by decide) rfl
                            have hp80_0 := hr79
                            refine lv_iinc (k := 0) (v := nI (i + 1)) hx hb d_Mod_link_170 hl rfl ((nI_succ i).symm) (by decide) rfl (fun ls hl => ?_)
                            have hl : lv_has ls 2 [(1, .int (nI (i + 1))), (0, .ref h0)] := hl
                            refine lv_goto (tgt := 128) hx hb d_Mod_link_173 (by decide) ?_
                            have hP : va_P g.1 classes [(h0, .inr (10, mob q rf n mm mb u80.1 u80.2 av ev wi mn tp tc sc nf fd me mp xn mt wh tq ag an ig)), ((q 2), aI g 600 bs), ((q 14), aI g 620 tg), ((q 15), aI g 620 tl), ((q 16), aI g 620 on), ((q 17), aI g 620 tw), ((q 22), aI g 320 fc), ((q 23), aI g 320 fq), ((q 27), aI g 160 fl), ((q 28), aI g 160 pl), ((q 29), aI g 160 na), ((q 30), aI g 160 ty), ((q 31), aI g 160 ca)] H := hP.sub [0, 1, 2, 3, 4, 5, 6, 7, 8, 9, 10, 11, 12] rfl
                            have hD : va_D A [(h0, .inr (10, mob q rf n mm mb u80.1 u80.2 av ev wi mn tp tc sc nf fd me mp xn mt wh tq ag an ig)), ((q 2), aI g 600 bs), ((q 14), aI g 620 tg), ((q 15), aI g 620 tl), ((q 16), aI g 620 on), ((q 17), aI g 620 tw), ((q 22), aI g 320 fc), ((q 23), aI g 320 fq), ((q 27), aI g 160 fl), ((q 28), aI g 160 pl), ((q 29), aI g 160 na), ((q 30), aI g 160 ty), ((q 31), aI g 160 ca)] := hD.sub [0, 1, 2, 3, 4, 5, 6, 7, 8, 9, 10, 11, 12] (by decide) rfl
                            exact ih128 _ (by omega) (i + 1) u80.1 u80.2 ls _ _ rfl (fun h => absurd h hp80_0) (by omega) (fun h => absurd h hp80_0) (lv_sub hl [0, 1] rfl) hP hD hS
                  exact loop128 _ 0 fa8 fp8 ls _ _ rfl (fun h => h) (by omega) (fun _ j h2 => absurd h2 (Nat.not_lt_zero j)) (hl) hP hD hS
                · refine lv_aload_n hx hb d_Mod_link_114 rfl (lv_at hl 1 rfl) ?_
                  refine lv_bipush (v := 6) hx hb d_Mod_link_115 (by decide) ?_
                  refine lv_aload_n hx hb d_Mod_link_117 rfl (lv_at hl 1 rfl) ?_
                  refine va_get (D := g.1) (ci := 10) (v := .int tp) (C := R_Mod) (T := F_Mod) (N := 61) hx hb hts in_Mod hown hK hP 0 rfl rfl 18 (by decide) (hts _ wd_1268) (fun _ h9 => h9) rfl d_Mod_link_118 ?_
                  refine lv_iconst (v := 2) hx hb d_Mod_link_121 (by decide) ?_
                  refine lv_iadd hx hb d_Mod_link_122 ?_
                  obtain ⟨x81, ex81⟩ : ∃ z : Int32, tp + 2 = z := ⟨_, rfl⟩
                  refine tw_ri (e2 := x81) ex81 ?_
                  refine tw_wv (wr := [((q 2), aI g 600 bs), ((q 14), aI g 620 tg), ((q 15), aI g 620 tl), ((q 16), aI g 620 on), ((q 17), aI g 620 tw), ((q 22), aI g 320 fc), ((q 23), aI g 320 fq), ((q 27), aI g 160 fl), ((q 28), aI g 160 pl), ((q 29), aI g 160 na), ((q 30), aI g 160 ty), ((q 31), aI g 160 ca)]) (tw_runV (ws := [(h0, .inr (10, mob q rf n mm mb fa8 fp8 av ev wi mn tp tc sc nf fd me mp xn mt wh tq ag an ig)), ((q 2), aI g 600 bs), ((q 14), aI g 620 tg), ((q 15), aI g 620 tl), ((q 16), aI g 620 on), ((q 17), aI g 620 tw), ((q 22), aI g 320 fc), ((q 23), aI g 320 fq), ((q 27), aI g 160 fl), ((q 28), aI g 160 pl), ((q 29), aI g 160 na), ((q 30), aI g 160 ty), ((q 31), aI g 160 ca)]) (wc := [(h0, .inr (10, mob q rf n mm mb fa8 fp8 av ev wi mn tp tc sc nf fd me mp xn mt wh tq ag an ig))]) (As := [.int 6, .int x81]) (rest := []) E hB hK hZ (g_Mod_fail l g H.size h0 q rf n mm mb av ev wi mn tp tc sc nf fd me mp xn mt wh tq ag an ig fa8 fp8 6 x81 (by decide)) mc_Mod_fail mi_Mod_fail me_Mod_fail wd_1478 hP hD hS hA [0] rfl (by decide) 0 rfl rfl rfl rfl rfl (by decide) rfl hl.1 rfl (Nat.le_of_ble_eq_true rfl) (by decide) d_Mod_link_123) hP hD hS hA [0] [1, 2, 3, 4, 5, 6, 7, 8, 9, 10, 11, 12] rfl rfl (by decide) (by decide) (fun u83 H locs hr82 hP hD hS => ?_)
                  try dsimp only at hr82
                  have hP : va_P g.1 classes [((q 2), aI g 600 bs), ((q 14), aI g 620 tg), ((q 15), aI g 620 tl), ((q 16), aI g 620 on), ((q 17), aI g 620 tw), ((q 22), aI g 320 fc), ((q 23), aI g 320 fq), ((q 27), aI g 160 fl), ((q 28), aI g 160 pl), ((q 29), aI g 160 na), ((q 30), aI g 160 ty), ((q 31), aI g 160 ca), (h0, .inr (10, mob q rf n mm mb u83.1 u83.2 av ev wi mn tp tc sc nf fd me mp xn mt wh tq ag an ig))] H := hP
                  have hD : va_D A [((q 2), aI g 600 bs), ((q 14), aI g 620 tg), ((q 15), aI g 620 tl), ((q 16), aI g 620 on), ((q 17), aI g 620 tw), ((q 22), aI g 320 fc), ((q 23), aI g 320 fq), ((q 27), aI g 160 fl), ((q 28), aI g 160 pl), ((q 29), aI g 160 na), ((q 30), aI g 160 ty), ((q 31), aI g 160 ca), (h0, .inr (10, mob q rf n mm mb u83.1 u83.2 av ev wi mn tp tc sc nf fd me mp xn mt wh tq ag an ig))] := hD
                  have hP : va_P g.1 classes [(h0, .inr (10, mob q rf n mm mb u83.1 u83.2 av ev wi mn tp tc sc nf fd me mp xn mt wh tq ag an ig)), ((q 2), aI g 600 bs), ((q 14), aI g 620 tg), ((q 15), aI g 620 tl), ((q 16), aI g 620 on), ((q 17), aI g 620 tw), ((q 22), aI g 320 fc), ((q 23), aI g 320 fq), ((q 27), aI g 160 fl), ((q 28), aI g 160 pl), ((q 29), aI g 160 na), ((q 30), aI g 160 ty), ((q 31), aI g 160 ca)] H := hP.sub [12, 0, 1, 2, 3, 4, 5, 6, 7, 8, 9, 10, 11] rfl
                  have hD : va_D A [(h0, .inr (10, mob q rf n mm mb u83.1 u83.2 av ev wi mn tp tc sc nf fd me mp xn mt wh tq ag an ig)), ((q 2), aI g 600 bs), ((q 14), aI g 620 tg), ((q 15), aI g 620 tl), ((q 16), aI g 620 on), ((q 17), aI g 620 tw), ((q 22), aI g 320 fc), ((q 23), aI g 320 fq), ((q 27), aI g 160 fl), ((q 28), aI g 160 pl), ((q 29), aI g 160 na), ((q 30), aI g 160 ty), ((q 31), aI g 160 ca)] := hD.sub [12, 0, 1, 2, 3, 4, 5, 6, 7, 8, 9, 10, 11] (by decide) rfl
                  have hp83_0 := hr82
                  refine lv_iconst (v := 0) hx hb d_Mod_link_126 (by decide) ?_
                  refine lv_istore_n hx hb d_Mod_link_127 rfl hl (by decide) rfl (fun ls hl => ?_)
                  have hl : lv_has ls 2 [(1, .int 0), (0, .ref h0)] := hl
                  have loop128 : ∀ (kq : Nat) (i : Nat) (fa7 : Int32) (fp7 : Int32) (ls : Array Slot) (H : Heap) (locs : List Loc) , nf - i = kq → (hc7 : fa7 = 0 → u83.1 = 0) → (hui7 : i ≤ 700) → (hFCk : fa7 = 0 → ∀ j, j < i → TGv mn tg 7 (fc j)) → lv_has ls 2 [(1, .int (nI i)), (0, .ref h0)] → va_P g.1 classes [(h0, .inr (10, mob q rf n mm mb fa7 fp7 av ev wi mn tp tc sc nf fd me mp xn mt wh tq ag an ig)), ((q 2), aI g 600 bs), ((q 14), aI g 620 tg), ((q 15), aI g 620 tl), ((q 16), aI g 620 on), ((q 17), aI g 620 tw), ((q 22), aI g 320 fc), ((q 23), aI g 320 fq), ((q 27), aI g 160 fl), ((q 28), aI g 160 pl), ((q 29), aI g 160 na), ((q 30), aI g 160 ty), ((q 31), aI g 160 ca)] H → va_D A [(h0, .inr (10, mob q rf n mm mb fa7 fp7 av ev wi mn tp tc sc nf fd me mp xn mt wh tq ag an ig)), ((q 2), aI g 600 bs), ((q 14), aI g 620 tg), ((q 15), aI g 620 tl), ((q 16), aI g 620 on), ((q 17), aI g 620 tw), ((q 22), aI g 320 fc), ((q 23), aI g 320 fq), ((q 27), aI g 160 fl), ((q 28), aI g 160 pl), ((q 29), aI g 160 na), ((q 30), aI g 160 ty), ((q 31), aI g 160 ca)] → va_S A s.heap H locs → W p l e ({ frames := 7, cells := 0, slots := 0, locals := 164 }) s m [.ref h0].toArray below meth c H locs 0 0 (MQ below (tw_Qv g (fun (u : Int32 × Int32) => (u.1 = 0 → fa = 0) ∧ (u.1 = 0 → LCA mn tg on tw) ∧ (u.1 = 0 → ∀ j, 0 < j → j < mn → MC1 bs tg on tw j) ∧ (u.1 = 0 → TGv mn tg 7 tc) ∧ (u.1 = 0 → TGv mn tg 7 sc) ∧ (u.1 = 0 → ∀ j, j < nf → TGv mn tg 7 (fc j)) ∧ (u.1 = 0 → ∀ j, j < me → LMB bs mn tg on tw fd na ty j)) (fun u : Int32 × Int32 => [(h0, .inr (10, mob q rf n mm mb u.1 u.2 av ev wi mn tp tc sc nf fd me mp xn mt wh tq ag an ig)), ((q 2), aI g 600 bs), ((q 14), aI g 620 tg), ((q 15), aI g 620 tl), ((q 16), aI g 620 on), ((q 17), aI g 620 tw), ((q 22), aI g 320 fc), ((q 23), aI g 320 fq), ((q 27), aI g 160 fl), ((q 28), aI g 160 pl), ((q 29), aI g 160 na), ((q 30), aI g 160 ty), ((q 31), aI g 160 ca)]) A) [.ref h0].toArray s 0 0 A) (F0 m 128 ls []) := by
                    intro kq
                    induction kq using Nat.strongRecOn with
                    | _ kq ih128 =>
                      intro i fa7 fp7 ls H locs hk128 hc7 hui7 hFCk hl hP hD hS
                      refine lv_iload_n hx hb d_Mod_link_128 rfl (lv_at hl 0 rfl) ?_
                      refine lv_aload_n hx hb d_Mod_link_129 rfl (lv_at hl 1 rfl) ?_
                      refine va_get (D := g.1) (ci := 10) (v := .int (nI nf)) (C := R_Mod) (T := F_Mod) (N := 61) hx hb hts in_Mod hown hK hP 0 rfl rfl 21 (by decide) (hts _ wd_1271) (fun _ h9 => h9) rfl d_Mod_link_130 ?_
                      refine lv_icmp_ge (tgt := 176) hx hb d_Mod_link_133 (by decide) (fun h133 => ?_) (fun h133 => ?_)
                      · have h133 := tn_le h133 (by omega) (by omega)
                        refine lv_iconst (v := 0) hx hb d_Mod_link_176 (by decide) ?_
                        refine lv_istore_n hx hb d_Mod_link_177 rfl hl (by decide) rfl (fun ls hl => ?_)
                        have hl : lv_has ls 2 [(1, .int 0), (0, .ref h0)] := hl
                        have loop178 : ∀ (kq : Nat) (i : Nat) (fa6 : Int32) (fp6 : Int32) (ls : Array Slot) (H : Heap) (locs : List Loc) , me - i = kq → (hc6 : fa6 = 0 → fa7 = 0) → (hui6 : i ≤ 700) → (hLMk : fa6 = 0 → ∀ j, j < i → LMB bs mn tg on tw fd na ty j) → lv_has ls 2 [(1, .int (nI i)), (0, .ref h0)] → va_P g.1 classes [(h0, .inr (10, mob q rf n mm mb fa6 fp6 av ev wi mn tp tc sc nf fd me mp xn mt wh tq ag an ig)), ((q 2), aI g 600 bs), ((q 14), aI g 620 tg), ((q 15), aI g 620 tl), ((q 16), aI g 620 on), ((q 17), aI g 620 tw), ((q 22), aI g 320 fc), ((q 23), aI g 320 fq), ((q 27), aI g 160 fl), ((q 28), aI g 160 pl), ((q 29), aI g 160 na), ((q 30), aI g 160 ty), ((q 31), aI g 160 ca)] H → va_D A [(h0, .inr (10, mob q rf n mm mb fa6 fp6 av ev wi mn tp tc sc nf fd me mp xn mt wh tq ag an ig)), ((q 2), aI g 600 bs), ((q 14), aI g 620 tg), ((q 15), aI g 620 tl), ((q 16), aI g 620 on), ((q 17), aI g 620 tw), ((q 22), aI g 320 fc), ((q 23), aI g 320 fq), ((q 27), aI g 160 fl), ((q 28), aI g 160 pl), ((q 29), aI g 160 na), ((q 30), aI g 160 ty), ((q 31), aI g 160 ca)] → va_S A s.heap H locs → W p l e ({ frames := 7, cells := 0, slots := 0, locals := 164 }) s m [.ref h0].toArray below meth c H locs 0 0 (MQ below (tw_Qv g (fun (u : Int32 × Int32) => (u.1 = 0 → fa = 0) ∧ (u.1 = 0 → LCA mn tg on tw) ∧ (u.1 = 0 → ∀ j, 0 < j → j < mn → MC1 bs tg on tw j) ∧ (u.1 = 0 → TGv mn tg 7 tc) ∧ (u.1 = 0 → TGv mn tg 7 sc) ∧ (u.1 = 0 → ∀ j, j < nf → TGv mn tg 7 (fc j)) ∧ (u.1 = 0 → ∀ j, j < me → LMB bs mn tg on tw fd na ty j)) (fun u : Int32 × Int32 => [(h0, .inr (10, mob q rf n mm mb u.1 u.2 av ev wi mn tp tc sc nf fd me mp xn mt wh tq ag an ig)), ((q 2), aI g 600 bs), ((q 14), aI g 620 tg), ((q 15), aI g 620 tl), ((q 16), aI g 620 on), ((q 17), aI g 620 tw), ((q 22), aI g 320 fc), ((q 23), aI g 320 fq), ((q 27), aI g 160 fl), ((q 28), aI g 160 pl), ((q 29), aI g 160 na), ((q 30), aI g 160 ty), ((q 31), aI g 160 ca)]) A) [.ref h0].toArray s 0 0 A) (F0 m 178 ls []) := by
                          intro kq
                          induction kq using Nat.strongRecOn with
                          | _ kq ih178 =>
                            intro i fa6 fp6 ls H locs hk178 hc6 hui6 hLMk hl hP hD hS
                            refine lv_iload_n hx hb d_Mod_link_178 rfl (lv_at hl 0 rfl) ?_
                            refine lv_aload_n hx hb d_Mod_link_179 rfl (lv_at hl 1 rfl) ?_
                            refine va_get (D := g.1) (ci := 10) (v := .int (nI me)) (C := R_Mod) (T := F_Mod) (N := 61) hx hb hts in_Mod hown hK hP 0 rfl rfl 25 (by decide) (hts _ wd_1275) (fun _ h9 => h9) rfl d_Mod_link_180 ?_
                            refine lv_icmp_ge (tgt := 204) hx hb d_Mod_link_183 (by decide) (fun h183 => ?_) (fun h183 => ?_)
                            · have h183 := tn_le h183 (by omega) (by omega)
                              exact tw_vret E hS (fa6, fp6) (⟨(fun h => absurd h (fun h => (fun h => hp83_0 (hc7 h)) (hc6 h))), (fun h => absurd h (fun h => (fun h => hp83_0 (hc7 h)) (hc6 h))), (fun h => absurd h (fun h => (fun h => hp83_0 (hc7 h)) (hc6 h))), (fun h => absurd h (fun h => (fun h => hp83_0 (hc7 h)) (hc6 h))), (fun h => absurd h (fun h => (fun h => hp83_0 (hc7 h)) (hc6 h))), (fun h => absurd h (fun h => (fun h => hp83_0 (hc7 h)) (hc6 h))), (fun h => absurd h (fun h => (fun h => hp83_0 (hc7 h)) (hc6 h)))⟩) hP hD d_Mod_link_204
                            · have h183 := tn_nle h183 (by omega) (by omega)
                              refine lv_aload_n hx hb d_Mod_link_186 rfl (lv_at hl 1 rfl) ?_
                              refine va_get (D := g.1) (ci := 10) (v := .int fa6) (C := R_Mod) (T := F_Mod) (N := 61) hx hb hts in_Mod hown hK hP 0 rfl rfl 8 (by decide) (hts _ wd_1258) (fun _ h9 => h9) rfl d_Mod_link_187 ?_
                              refine lv_if_ne (tgt := 204) hx hb d_Mod_link_190 (by decide) (fun h190 => ?_) (fun h190 => ?_)
                              · exact tw_vret E hS (fa6, fp6) (⟨(fun h => absurd h h190), (fun h => absurd h h190), (fun h => absurd h h190), (fun h => absurd h h190), (fun h => absurd h h190), (fun h => absurd h h190), (fun h => absurd h h190)⟩) hP hD d_Mod_link_204
                              · exact absurd h190 (fun h => (fun h => hp83_0 (hc7 h)) (hc6 h))
                        exact loop178 _ 0 fa7 fp7 ls _ _ rfl (fun h => h) (by omega) (fun _ j h2 => absurd h2 (Nat.not_lt_zero j)) (hl) hP hD hS
                      · have h133 := tn_nle h133 (by omega) (by omega)
                        refine lv_aload_n hx hb d_Mod_link_136 rfl (lv_at hl 1 rfl) ?_
                        refine va_get (D := g.1) (ci := 10) (v := .int fa7) (C := R_Mod) (T := F_Mod) (N := 61) hx hb hts in_Mod hown hK hP 0 rfl rfl 8 (by decide) (hts _ wd_1258) (fun _ h9 => h9) rfl d_Mod_link_137 ?_
                        refine lv_if_ne (tgt := 176) hx hb d_Mod_link_140 (by decide) (fun h140 => ?_) (fun h140 => ?_)
                        · refine lv_iconst (v := 0) hx hb d_Mod_link_176 (by decide) ?_
                          refine lv_istore_n hx hb d_Mod_link_177 rfl hl (by decide) rfl (fun ls hl => ?_)
                          have hl : lv_has ls 2 [(1, .int 0), (0, .ref h0)] := hl
                          have loop178 : ∀ (kq : Nat) (i : Nat) (fa6 : Int32) (fp6 : Int32) (ls : Array Slot) (H : Heap) (locs : List Loc) , me - i = kq → (hc6 : fa6 = 0 → fa7 = 0) → (hui6 : i ≤ 700) → (hLMk : fa6 = 0 → ∀ j, j < i → LMB bs mn tg on tw fd na ty j) → lv_has ls 2 [(1, .int (nI i)), (0, .ref h0)] → va_P g.1 classes [(h0, .inr (10, mob q rf n mm mb fa6 fp6 av ev wi mn tp tc sc nf fd me mp xn mt wh tq ag an ig)), ((q 2), aI g 600 bs), ((q 14), aI g 620 tg), ((q 15), aI g 620 tl), ((q 16), aI g 620 on), ((q 17), aI g 620 tw), ((q 22), aI g 320 fc), ((q 23), aI g 320 fq), ((q 27), aI g 160 fl), ((q 28), aI g 160 pl), ((q 29), aI g 160 na), ((q 30), aI g 160 ty), ((q 31), aI g 160 ca)] H → va_D A [(h0, .inr (10, mob q rf n mm mb fa6 fp6 av ev wi mn tp tc sc nf fd me mp xn mt wh tq ag an ig)), ((q 2), aI g 600 bs), ((q 14), aI g 620 tg), ((q 15), aI g 620 tl), ((q 16), aI g 620 on), ((q 17), aI g 620 tw), ((q 22), aI g 320 fc), ((q 23), aI g 320 fq), ((q 27), aI g 160 fl), ((q 28), aI g 160 pl), ((q 29), aI g 160 na), ((q 30), aI g 160 ty), ((q 31), aI g 160 ca)] → va_S A s.heap H locs → W p l e ({ frames := 7, cells := 0, slots := 0, locals := 164 }) s m [.ref h0].toArray below meth c H locs 0 0 (MQ below (tw_Qv g (fun (u : Int32 × Int32) => (u.1 = 0 → fa = 0) ∧ (u.1 = 0 → LCA mn tg on tw) ∧ (u.1 = 0 → ∀ j, 0 < j → j < mn → MC1 bs tg on tw j) ∧ (u.1 = 0 → TGv mn tg 7 tc) ∧ (u.1 = 0 → TGv mn tg 7 sc) ∧ (u.1 = 0 → ∀ j, j < nf → TGv mn tg 7 (fc j)) ∧ (u.1 = 0 → ∀ j, j < me → LMB bs mn tg on tw fd na ty j)) (fun u : Int32 × Int32 => [(h0, .inr (10, mob q rf n mm mb u.1 u.2 av ev wi mn tp tc sc nf fd me mp xn mt wh tq ag an ig)), ((q 2), aI g 600 bs), ((q 14), aI g 620 tg), ((q 15), aI g 620 tl), ((q 16), aI g 620 on), ((q 17), aI g 620 tw), ((q 22), aI g 320 fc), ((q 23), aI g 320 fq), ((q 27), aI g 160 fl), ((q 28), aI g 160 pl), ((q 29), aI g 160 na), ((q 30), aI g 160 ty), ((q 31), aI g 160 ca)]) A) [.ref h0].toArray s 0 0 A) (F0 m 178 ls []) := by
                            intro kq
                            induction kq using Nat.strongRecOn with
                            | _ kq ih178 =>
                              intro i fa6 fp6 ls H locs hk178 hc6 hui6 hLMk hl hP hD hS
                              refine lv_iload_n hx hb d_Mod_link_178 rfl (lv_at hl 0 rfl) ?_
                              refine lv_aload_n hx hb d_Mod_link_179 rfl (lv_at hl 1 rfl) ?_
                              refine va_get (D := g.1) (ci := 10) (v := .int (nI me)) (C := R_Mod) (T := F_Mod) (N := 61) hx hb hts in_Mod hown hK hP 0 rfl rfl 25 (by decide) (hts _ wd_1275) (fun _ h9 => h9) rfl d_Mod_link_180 ?_
                              refine lv_icmp_ge (tgt := 204) hx hb d_Mod_link_183 (by decide) (fun h183 => ?_) (fun h183 => ?_)
                              · have h183 := tn_le h183 (by omega) (by omega)
                                exact tw_vret E hS (fa6, fp6) (⟨(fun h => absurd h (fun h => h140 (hc6 h))), (fun h => absurd h (fun h => h140 (hc6 h))), (fun h => absurd h (fun h => h140 (hc6 h))), (fun h => absurd h (fun h => h140 (hc6 h))), (fun h => absurd h (fun h => h140 (hc6 h))), (fun h => absurd h (fun h => h140 (hc6 h))), (fun h => absurd h (fun h => h140 (hc6 h)))⟩) hP hD d_Mod_link_204
                              · have h183 := tn_nle h183 (by omega) (by omega)
                                refine lv_aload_n hx hb d_Mod_link_186 rfl (lv_at hl 1 rfl) ?_
                                refine va_get (D := g.1) (ci := 10) (v := .int fa6) (C := R_Mod) (T := F_Mod) (N := 61) hx hb hts in_Mod hown hK hP 0 rfl rfl 8 (by decide) (hts _ wd_1258) (fun _ h9 => h9) rfl d_Mod_link_187 ?_
                                refine lv_if_ne (tgt := 204) hx hb d_Mod_link_190 (by decide) (fun h190 => ?_) (fun h190 => ?_)
                                · exact tw_vret E hS (fa6, fp6) (⟨(fun h => absurd h h190), (fun h => absurd h h190), (fun h => absurd h h190), (fun h => absurd h h190), (fun h => absurd h h190), (fun h => absurd h h190), (fun h => absurd h h190)⟩) hP hD d_Mod_link_204
                                · exact absurd h190 (fun h => h140 (hc6 h))
                          exact loop178 _ 0 fa7 fp7 ls _ _ rfl (fun h => h) (by omega) (fun _ j h2 => absurd h2 (Nat.not_lt_zero j)) (hl) hP hD hS
                        · exact absurd h140 (fun h => hp83_0 (hc7 h))
                  exact loop128 _ 0 u83.1 u83.2 ls _ _ rfl (fun h => h) (by omega) (fun _ j h2 => absurd h2 (Nat.not_lt_zero j)) (hl) hP hD hS
              · refine lv_aload_n hx hb d_Mod_link_91 rfl (lv_at hl 1 rfl) ?_
                refine lv_bipush (v := 6) hx hb d_Mod_link_92 (by decide) ?_
                refine lv_aload_n hx hb d_Mod_link_94 rfl (lv_at hl 1 rfl) ?_
                refine va_get (D := g.1) (ci := 10) (v := .int tp) (C := R_Mod) (T := F_Mod) (N := 61) hx hb hts in_Mod hown hK hP 0 rfl rfl 18 (by decide) (hts _ wd_1268) (fun _ h9 => h9) rfl d_Mod_link_95 ?_
                refine tw_wv (wr := [((q 2), aI g 600 bs), ((q 14), aI g 620 tg), ((q 15), aI g 620 tl), ((q 16), aI g 620 on), ((q 17), aI g 620 tw), ((q 22), aI g 320 fc), ((q 23), aI g 320 fq), ((q 27), aI g 160 fl), ((q 28), aI g 160 pl), ((q 29), aI g 160 na), ((q 30), aI g 160 ty), ((q 31), aI g 160 ca)]) (tw_runV (ws := [(h0, .inr (10, mob q rf n mm mb fa8 fp8 av ev wi mn tp tc sc nf fd me mp xn mt wh tq ag an ig)), ((q 2), aI g 600 bs), ((q 14), aI g 620 tg), ((q 15), aI g 620 tl), ((q 16), aI g 620 on), ((q 17), aI g 620 tw), ((q 22), aI g 320 fc), ((q 23), aI g 320 fq), ((q 27), aI g 160 fl), ((q 28), aI g 160 pl), ((q 29), aI g 160 na), ((q 30), aI g 160 ty), ((q 31), aI g 160 ca)]) (wc := [(h0, .inr (10, mob q rf n mm mb fa8 fp8 av ev wi mn tp tc sc nf fd me mp xn mt wh tq ag an ig))]) (As := [.int 6, .int tp]) (rest := []) E hB hK hZ (g_Mod_fail l g H.size h0 q rf n mm mb av ev wi mn tp tc sc nf fd me mp xn mt wh tq ag an ig fa8 fp8 6 tp (by decide)) mc_Mod_fail mi_Mod_fail me_Mod_fail wd_1478 hP hD hS hA [0] rfl (by decide) 0 rfl rfl rfl rfl rfl (by decide) rfl hl.1 rfl (Nat.le_of_ble_eq_true rfl) (by decide) d_Mod_link_98) hP hD hS hA [0] [1, 2, 3, 4, 5, 6, 7, 8, 9, 10, 11, 12] rfl rfl (by decide) (by decide) (fun u85 H locs hr84 hP hD hS => ?_)
                try dsimp only at hr84
                have hP : va_P g.1 classes [((q 2), aI g 600 bs), ((q 14), aI g 620 tg), ((q 15), aI g 620 tl), ((q 16), aI g 620 on), ((q 17), aI g 620 tw), ((q 22), aI g 320 fc), ((q 23), aI g 320 fq), ((q 27), aI g 160 fl), ((q 28), aI g 160 pl), ((q 29), aI g 160 na), ((q 30), aI g 160 ty), ((q 31), aI g 160 ca), (h0, .inr (10, mob q rf n mm mb u85.1 u85.2 av ev wi mn tp tc sc nf fd me mp xn mt wh tq ag an ig))] H := hP
                have hD : va_D A [((q 2), aI g 600 bs), ((q 14), aI g 620 tg), ((q 15), aI g 620 tl), ((q 16), aI g 620 on), ((q 17), aI g 620 tw), ((q 22), aI g 320 fc), ((q 23), aI g 320 fq), ((q 27), aI g 160 fl), ((q 28), aI g 160 pl), ((q 29), aI g 160 na), ((q 30), aI g 160 ty), ((q 31), aI g 160 ca), (h0, .inr (10, mob q rf n mm mb u85.1 u85.2 av ev wi mn tp tc sc nf fd me mp xn mt wh tq ag an ig))] := hD
                have hP : va_P g.1 classes [(h0, .inr (10, mob q rf n mm mb u85.1 u85.2 av ev wi mn tp tc sc nf fd me mp xn mt wh tq ag an ig)), ((q 2), aI g 600 bs), ((q 14), aI g 620 tg), ((q 15), aI g 620 tl), ((q 16), aI g 620 on), ((q 17), aI g 620 tw), ((q 22), aI g 320 fc), ((q 23), aI g 320 fq), ((q 27), aI g 160 fl), ((q 28), aI g 160 pl), ((q 29), aI g 160 na), ((q 30), aI g 160 ty), ((q 31), aI g 160 ca)] H := hP.sub [12, 0, 1, 2, 3, 4, 5, 6, 7, 8, 9, 10, 11] rfl
                have hD : va_D A [(h0, .inr (10, mob q rf n mm mb u85.1 u85.2 av ev wi mn tp tc sc nf fd me mp xn mt wh tq ag an ig)), ((q 2), aI g 600 bs), ((q 14), aI g 620 tg), ((q 15), aI g 620 tl), ((q 16), aI g 620 on), ((q 17), aI g 620 tw), ((q 22), aI g 320 fc), ((q 23), aI g 320 fq), ((q 27), aI g 160 fl), ((q 28), aI g 160 pl), ((q 29), aI g 160 na), ((q 30), aI g 160 ty), ((q 31), aI g 160 ca)] := hD.sub [12, 0, 1, 2, 3, 4, 5, 6, 7, 8, 9, 10, 11] (by decide) rfl
                have hp85_0 := hr84
                refine lv_aload_n hx hb d_Mod_link_101 rfl (lv_at hl 1 rfl) ?_
                refine lv_aload_n hx hb d_Mod_link_102 rfl (lv_at hl 1 rfl) ?_
                refine va_get (D := g.1) (ci := 10) (v := .int sc) (C := R_Mod) (T := F_Mod) (N := 61) hx hb hts in_Mod hown hK hP 0 rfl rfl 20 (by decide) (hts _ wd_1270) (fun _ h9 => h9) rfl d_Mod_link_103 ?_
                refine lv_bipush (v := 7) hx hb d_Mod_link_106 (by decide) ?_
                refine tw_si (tw_runV (ws := [(h0, .inr (10, mob q rf n mm mb u85.1 u85.2 av ev wi mn tp tc sc nf fd me mp xn mt wh tq ag an ig)), ((q 2), aI g 600 bs), ((q 14), aI g 620 tg), ((q 15), aI g 620 tl), ((q 16), aI g 620 on), ((q 17), aI g 620 tw), ((q 22), aI g 320 fc), ((q 23), aI g 320 fq), ((q 27), aI g 160 fl), ((q 28), aI g 160 pl), ((q 29), aI g 160 na), ((q 30), aI g 160 ty), ((q 31), aI g 160 ca)]) (wc := [(h0, .inr (10, mob q rf n mm mb u85.1 u85.2 av ev wi mn tp tc sc nf fd me mp xn mt wh tq ag an ig)), ((q 14), aI g 620 tg)]) (As := [.int sc, .int 7]) (rest := []) E hB hK hZ (g_Mod_isTagI l g H.size h0 q rf n mm mb u85.1 u85.2 av ev wi mn tp tc sc nf fd me mp xn mt wh tq ag an ig tg sc 7 (by omega)) mc_Mod_isTag mi_Mod_isTag me_Mod_isTag wd_1508 hP hD hS hA [0, 2] rfl (by decide) 0 rfl rfl rfl rfl rfl (by decide) rfl hl.1 rfl (Nat.le_of_ble_eq_true rfl) (by decide) d_Mod_link_108) (fun r86 hr86 => ?_)
                have hB86 := hr86
                refine lv_if_ne (tgt := 126) hx hb d_Mod_link_111 (by decide) (fun h111 => ?_) (fun h111 => ?_)
                · have hT111 := hB86.2 (hB86.1.resolve_left h111)
                  refine lv_iconst (v := 0) hx hb d_Mod_link_126 (by decide) ?_
                  refine lv_istore_n hx hb d_Mod_link_127 rfl hl (by decide) rfl (fun ls hl => ?_)
                  have hl : lv_has ls 2 [(1, .int 0), (0, .ref h0)] := hl
                  have loop128 : ∀ (kq : Nat) (i : Nat) (fa7 : Int32) (fp7 : Int32) (ls : Array Slot) (H : Heap) (locs : List Loc) , nf - i = kq → (hc7 : fa7 = 0 → u85.1 = 0) → (hui7 : i ≤ 700) → (hFCk : fa7 = 0 → ∀ j, j < i → TGv mn tg 7 (fc j)) → lv_has ls 2 [(1, .int (nI i)), (0, .ref h0)] → va_P g.1 classes [(h0, .inr (10, mob q rf n mm mb fa7 fp7 av ev wi mn tp tc sc nf fd me mp xn mt wh tq ag an ig)), ((q 2), aI g 600 bs), ((q 14), aI g 620 tg), ((q 15), aI g 620 tl), ((q 16), aI g 620 on), ((q 17), aI g 620 tw), ((q 22), aI g 320 fc), ((q 23), aI g 320 fq), ((q 27), aI g 160 fl), ((q 28), aI g 160 pl), ((q 29), aI g 160 na), ((q 30), aI g 160 ty), ((q 31), aI g 160 ca)] H → va_D A [(h0, .inr (10, mob q rf n mm mb fa7 fp7 av ev wi mn tp tc sc nf fd me mp xn mt wh tq ag an ig)), ((q 2), aI g 600 bs), ((q 14), aI g 620 tg), ((q 15), aI g 620 tl), ((q 16), aI g 620 on), ((q 17), aI g 620 tw), ((q 22), aI g 320 fc), ((q 23), aI g 320 fq), ((q 27), aI g 160 fl), ((q 28), aI g 160 pl), ((q 29), aI g 160 na), ((q 30), aI g 160 ty), ((q 31), aI g 160 ca)] → va_S A s.heap H locs → W p l e ({ frames := 7, cells := 0, slots := 0, locals := 164 }) s m [.ref h0].toArray below meth c H locs 0 0 (MQ below (tw_Qv g (fun (u : Int32 × Int32) => (u.1 = 0 → fa = 0) ∧ (u.1 = 0 → LCA mn tg on tw) ∧ (u.1 = 0 → ∀ j, 0 < j → j < mn → MC1 bs tg on tw j) ∧ (u.1 = 0 → TGv mn tg 7 tc) ∧ (u.1 = 0 → TGv mn tg 7 sc) ∧ (u.1 = 0 → ∀ j, j < nf → TGv mn tg 7 (fc j)) ∧ (u.1 = 0 → ∀ j, j < me → LMB bs mn tg on tw fd na ty j)) (fun u : Int32 × Int32 => [(h0, .inr (10, mob q rf n mm mb u.1 u.2 av ev wi mn tp tc sc nf fd me mp xn mt wh tq ag an ig)), ((q 2), aI g 600 bs), ((q 14), aI g 620 tg), ((q 15), aI g 620 tl), ((q 16), aI g 620 on), ((q 17), aI g 620 tw), ((q 22), aI g 320 fc), ((q 23), aI g 320 fq), ((q 27), aI g 160 fl), ((q 28), aI g 160 pl), ((q 29), aI g 160 na), ((q 30), aI g 160 ty), ((q 31), aI g 160 ca)]) A) [.ref h0].toArray s 0 0 A) (F0 m 128 ls []) := by
                    intro kq
                    induction kq using Nat.strongRecOn with
                    | _ kq ih128 =>
                      intro i fa7 fp7 ls H locs hk128 hc7 hui7 hFCk hl hP hD hS
                      refine lv_iload_n hx hb d_Mod_link_128 rfl (lv_at hl 0 rfl) ?_
                      refine lv_aload_n hx hb d_Mod_link_129 rfl (lv_at hl 1 rfl) ?_
                      refine va_get (D := g.1) (ci := 10) (v := .int (nI nf)) (C := R_Mod) (T := F_Mod) (N := 61) hx hb hts in_Mod hown hK hP 0 rfl rfl 21 (by decide) (hts _ wd_1271) (fun _ h9 => h9) rfl d_Mod_link_130 ?_
                      refine lv_icmp_ge (tgt := 176) hx hb d_Mod_link_133 (by decide) (fun h133 => ?_) (fun h133 => ?_)
                      · have h133 := tn_le h133 (by omega) (by omega)
                        refine lv_iconst (v := 0) hx hb d_Mod_link_176 (by decide) ?_
                        refine lv_istore_n hx hb d_Mod_link_177 rfl hl (by decide) rfl (fun ls hl => ?_)
                        have hl : lv_has ls 2 [(1, .int 0), (0, .ref h0)] := hl
                        have loop178 : ∀ (kq : Nat) (i : Nat) (fa6 : Int32) (fp6 : Int32) (ls : Array Slot) (H : Heap) (locs : List Loc) , me - i = kq → (hc6 : fa6 = 0 → fa7 = 0) → (hui6 : i ≤ 700) → (hLMk : fa6 = 0 → ∀ j, j < i → LMB bs mn tg on tw fd na ty j) → lv_has ls 2 [(1, .int (nI i)), (0, .ref h0)] → va_P g.1 classes [(h0, .inr (10, mob q rf n mm mb fa6 fp6 av ev wi mn tp tc sc nf fd me mp xn mt wh tq ag an ig)), ((q 2), aI g 600 bs), ((q 14), aI g 620 tg), ((q 15), aI g 620 tl), ((q 16), aI g 620 on), ((q 17), aI g 620 tw), ((q 22), aI g 320 fc), ((q 23), aI g 320 fq), ((q 27), aI g 160 fl), ((q 28), aI g 160 pl), ((q 29), aI g 160 na), ((q 30), aI g 160 ty), ((q 31), aI g 160 ca)] H → va_D A [(h0, .inr (10, mob q rf n mm mb fa6 fp6 av ev wi mn tp tc sc nf fd me mp xn mt wh tq ag an ig)), ((q 2), aI g 600 bs), ((q 14), aI g 620 tg), ((q 15), aI g 620 tl), ((q 16), aI g 620 on), ((q 17), aI g 620 tw), ((q 22), aI g 320 fc), ((q 23), aI g 320 fq), ((q 27), aI g 160 fl), ((q 28), aI g 160 pl), ((q 29), aI g 160 na), ((q 30), aI g 160 ty), ((q 31), aI g 160 ca)] → va_S A s.heap H locs → W p l e ({ frames := 7, cells := 0, slots := 0, locals := 164 }) s m [.ref h0].toArray below meth c H locs 0 0 (MQ below (tw_Qv g (fun (u : Int32 × Int32) => (u.1 = 0 → fa = 0) ∧ (u.1 = 0 → LCA mn tg on tw) ∧ (u.1 = 0 → ∀ j, 0 < j → j < mn → MC1 bs tg on tw j) ∧ (u.1 = 0 → TGv mn tg 7 tc) ∧ (u.1 = 0 → TGv mn tg 7 sc) ∧ (u.1 = 0 → ∀ j, j < nf → TGv mn tg 7 (fc j)) ∧ (u.1 = 0 → ∀ j, j < me → LMB bs mn tg on tw fd na ty j)) (fun u : Int32 × Int32 => [(h0, .inr (10, mob q rf n mm mb u.1 u.2 av ev wi mn tp tc sc nf fd me mp xn mt wh tq ag an ig)), ((q 2), aI g 600 bs), ((q 14), aI g 620 tg), ((q 15), aI g 620 tl), ((q 16), aI g 620 on), ((q 17), aI g 620 tw), ((q 22), aI g 320 fc), ((q 23), aI g 320 fq), ((q 27), aI g 160 fl), ((q 28), aI g 160 pl), ((q 29), aI g 160 na), ((q 30), aI g 160 ty), ((q 31), aI g 160 ca)]) A) [.ref h0].toArray s 0 0 A) (F0 m 178 ls []) := by
                          intro kq
                          induction kq using Nat.strongRecOn with
                          | _ kq ih178 =>
                            intro i fa6 fp6 ls H locs hk178 hc6 hui6 hLMk hl hP hD hS
                            refine lv_iload_n hx hb d_Mod_link_178 rfl (lv_at hl 0 rfl) ?_
                            refine lv_aload_n hx hb d_Mod_link_179 rfl (lv_at hl 1 rfl) ?_
                            refine va_get (D := g.1) (ci := 10) (v := .int (nI me)) (C := R_Mod) (T := F_Mod) (N := 61) hx hb hts in_Mod hown hK hP 0 rfl rfl 25 (by decide) (hts _ wd_1275) (fun _ h9 => h9) rfl d_Mod_link_180 ?_
                            refine lv_icmp_ge (tgt := 204) hx hb d_Mod_link_183 (by decide) (fun h183 => ?_) (fun h183 => ?_)
                            · have h183 := tn_le h183 (by omega) (by omega)
                              exact tw_vret E hS (fa6, fp6) (⟨(fun h => absurd h (fun h => (fun h => hp85_0 (hc7 h)) (hc6 h))), (fun h => absurd h (fun h => (fun h => hp85_0 (hc7 h)) (hc6 h))), (fun h => absurd h (fun h => (fun h => hp85_0 (hc7 h)) (hc6 h))), (fun h => absurd h (fun h => (fun h => hp85_0 (hc7 h)) (hc6 h))), (fun h => absurd h (fun h => (fun h => hp85_0 (hc7 h)) (hc6 h))), (fun h => absurd h (fun h => (fun h => hp85_0 (hc7 h)) (hc6 h))), (fun h => absurd h (fun h => (fun h => hp85_0 (hc7 h)) (hc6 h)))⟩) hP hD d_Mod_link_204
                            · have h183 := tn_nle h183 (by omega) (by omega)
                              refine lv_aload_n hx hb d_Mod_link_186 rfl (lv_at hl 1 rfl) ?_
                              refine va_get (D := g.1) (ci := 10) (v := .int fa6) (C := R_Mod) (T := F_Mod) (N := 61) hx hb hts in_Mod hown hK hP 0 rfl rfl 8 (by decide) (hts _ wd_1258) (fun _ h9 => h9) rfl d_Mod_link_187 ?_
                              refine lv_if_ne (tgt := 204) hx hb d_Mod_link_190 (by decide) (fun h190 => ?_) (fun h190 => ?_)
                              · exact tw_vret E hS (fa6, fp6) (⟨(fun h => absurd h h190), (fun h => absurd h h190), (fun h => absurd h h190), (fun h => absurd h h190), (fun h => absurd h h190), (fun h => absurd h h190), (fun h => absurd h h190)⟩) hP hD d_Mod_link_204
                              · exact absurd h190 (fun h => (fun h => hp85_0 (hc7 h)) (hc6 h))
                        exact loop178 _ 0 fa7 fp7 ls _ _ rfl (fun h => h) (by omega) (fun _ j h2 => absurd h2 (Nat.not_lt_zero j)) (hl) hP hD hS
                      · have h133 := tn_nle h133 (by omega) (by omega)
                        refine lv_aload_n hx hb d_Mod_link_136 rfl (lv_at hl 1 rfl) ?_
                        refine va_get (D := g.1) (ci := 10) (v := .int fa7) (C := R_Mod) (T := F_Mod) (N := 61) hx hb hts in_Mod hown hK hP 0 rfl rfl 8 (by decide) (hts _ wd_1258) (fun _ h9 => h9) rfl d_Mod_link_137 ?_
                        refine lv_if_ne (tgt := 176) hx hb d_Mod_link_140 (by decide) (fun h140 => ?_) (fun h140 => ?_)
                        · refine lv_iconst (v := 0) hx hb d_Mod_link_176 (by decide) ?_
                          refine lv_istore_n hx hb d_Mod_link_177 rfl hl (by decide) rfl (fun ls hl => ?_)
                          have hl : lv_has ls 2 [(1, .int 0), (0, .ref h0)] := hl
                          have loop178 : ∀ (kq : Nat) (i : Nat) (fa6 : Int32) (fp6 : Int32) (ls : Array Slot) (H : Heap) (locs : List Loc) , me - i = kq → (hc6 : fa6 = 0 → fa7 = 0) → (hui6 : i ≤ 700) → (hLMk : fa6 = 0 → ∀ j, j < i → LMB bs mn tg on tw fd na ty j) → lv_has ls 2 [(1, .int (nI i)), (0, .ref h0)] → va_P g.1 classes [(h0, .inr (10, mob q rf n mm mb fa6 fp6 av ev wi mn tp tc sc nf fd me mp xn mt wh tq ag an ig)), ((q 2), aI g 600 bs), ((q 14), aI g 620 tg), ((q 15), aI g 620 tl), ((q 16), aI g 620 on), ((q 17), aI g 620 tw), ((q 22), aI g 320 fc), ((q 23), aI g 320 fq), ((q 27), aI g 160 fl), ((q 28), aI g 160 pl), ((q 29), aI g 160 na), ((q 30), aI g 160 ty), ((q 31), aI g 160 ca)] H → va_D A [(h0, .inr (10, mob q rf n mm mb fa6 fp6 av ev wi mn tp tc sc nf fd me mp xn mt wh tq ag an ig)), ((q 2), aI g 600 bs), ((q 14), aI g 620 tg), ((q 15), aI g 620 tl), ((q 16), aI g 620 on), ((q 17), aI g 620 tw), ((q 22), aI g 320 fc), ((q 23), aI g 320 fq), ((q 27), aI g 160 fl), ((q 28), aI g 160 pl), ((q 29), aI g 160 na), ((q 30), aI g 160 ty), ((q 31), aI g 160 ca)] → va_S A s.heap H locs → W p l e ({ frames := 7, cells := 0, slots := 0, locals := 164 }) s m [.ref h0].toArray below meth c H locs 0 0 (MQ below (tw_Qv g (fun (u : Int32 × Int32) => (u.1 = 0 → fa = 0) ∧ (u.1 = 0 → LCA mn tg on tw) ∧ (u.1 = 0 → ∀ j, 0 < j → j < mn → MC1 bs tg on tw j) ∧ (u.1 = 0 → TGv mn tg 7 tc) ∧ (u.1 = 0 → TGv mn tg 7 sc) ∧ (u.1 = 0 → ∀ j, j < nf → TGv mn tg 7 (fc j)) ∧ (u.1 = 0 → ∀ j, j < me → LMB bs mn tg on tw fd na ty j)) (fun u : Int32 × Int32 => [(h0, .inr (10, mob q rf n mm mb u.1 u.2 av ev wi mn tp tc sc nf fd me mp xn mt wh tq ag an ig)), ((q 2), aI g 600 bs), ((q 14), aI g 620 tg), ((q 15), aI g 620 tl), ((q 16), aI g 620 on), ((q 17), aI g 620 tw), ((q 22), aI g 320 fc), ((q 23), aI g 320 fq), ((q 27), aI g 160 fl), ((q 28), aI g 160 pl), ((q 29), aI g 160 na), ((q 30), aI g 160 ty), ((q 31), aI g 160 ca)]) A) [.ref h0].toArray s 0 0 A) (F0 m 178 ls []) := by
                            intro kq
                            induction kq using Nat.strongRecOn with
                            | _ kq ih178 =>
                              intro i fa6 fp6 ls H locs hk178 hc6 hui6 hLMk hl hP hD hS
                              refine lv_iload_n hx hb d_Mod_link_178 rfl (lv_at hl 0 rfl) ?_
                              refine lv_aload_n hx hb d_Mod_link_179 rfl (lv_at hl 1 rfl) ?_
                              refine va_get (D := g.1) (ci := 10) (v := .int (nI me)) (C := R_Mod) (T := F_Mod) (N := 61) hx hb hts in_Mod hown hK hP 0 rfl rfl 25 (by decide) (hts _ wd_1275) (fun _ h9 => h9) rfl d_Mod_link_180 ?_
                              refine lv_icmp_ge (tgt := 204) hx hb d_Mod_link_183 (by decide) (fun h183 => ?_) (fun h183 => ?_)
                              · have h183 := tn_le h183 (by omega) (by omega)
                                exact tw_vret E hS (fa6, fp6) (⟨(fun h => absurd h (fun h => h140 (hc6 h))), (fun h => absurd h (fun h => h140 (hc6 h))), (fun h => absurd h (fun h => h140 (hc6 h))), (fun h => absurd h (fun h => h140 (hc6 h))), (fun h => absurd h (fun h => h140 (hc6 h))), (fun h => absurd h (fun h => h140 (hc6 h))), (fun h => absurd h (fun h => h140 (hc6 h)))⟩) hP hD d_Mod_link_204
                              · have h183 := tn_nle h183 (by omega) (by omega)
                                refine lv_aload_n hx hb d_Mod_link_186 rfl (lv_at hl 1 rfl) ?_
                                refine va_get (D := g.1) (ci := 10) (v := .int fa6) (C := R_Mod) (T := F_Mod) (N := 61) hx hb hts in_Mod hown hK hP 0 rfl rfl 8 (by decide) (hts _ wd_1258) (fun _ h9 => h9) rfl d_Mod_link_187 ?_
                                refine lv_if_ne (tgt := 204) hx hb d_Mod_link_190 (by decide) (fun h190 => ?_) (fun h190 => ?_)
                                · exact tw_vret E hS (fa6, fp6) (⟨(fun h => absurd h h190), (fun h => absurd h h190), (fun h => absurd h h190), (fun h => absurd h h190), (fun h => absurd h h190), (fun h => absurd h h190), (fun h => absurd h h190)⟩) hP hD d_Mod_link_204
                                · exact absurd h190 (fun h => h140 (hc6 h))
                          exact loop178 _ 0 fa7 fp7 ls _ _ rfl (fun h => h) (by omega) (fun _ j h2 => absurd h2 (Nat.not_lt_zero j)) (hl) hP hD hS
                        · exact absurd h140 (fun h => hp85_0 (hc7 h))
                  exact loop128 _ 0 u85.1 u85.2 ls _ _ rfl (fun h => h) (by omega) (fun _ j h2 => absurd h2 (Nat.not_lt_zero j)) (hl) hP hD hS
                · refine lv_aload_n hx hb d_Mod_link_114 rfl (lv_at hl 1 rfl) ?_
                  refine lv_bipush (v := 6) hx hb d_Mod_link_115 (by decide) ?_
                  refine lv_aload_n hx hb d_Mod_link_117 rfl (lv_at hl 1 rfl) ?_
                  refine va_get (D := g.1) (ci := 10) (v := .int tp) (C := R_Mod) (T := F_Mod) (N := 61) hx hb hts in_Mod hown hK hP 0 rfl rfl 18 (by decide) (hts _ wd_1268) (fun _ h9 => h9) rfl d_Mod_link_118 ?_
                  refine lv_iconst (v := 2) hx hb d_Mod_link_121 (by decide) ?_
                  refine lv_iadd hx hb d_Mod_link_122 ?_
                  obtain ⟨x87, ex87⟩ : ∃ z : Int32, tp + 2 = z := ⟨_, rfl⟩
                  refine tw_ri (e2 := x87) ex87 ?_
                  refine tw_wv (wr := [((q 2), aI g 600 bs), ((q 14), aI g 620 tg), ((q 15), aI g 620 tl), ((q 16), aI g 620 on), ((q 17), aI g 620 tw), ((q 22), aI g 320 fc), ((q 23), aI g 320 fq), ((q 27), aI g 160 fl), ((q 28), aI g 160 pl), ((q 29), aI g 160 na), ((q 30), aI g 160 ty), ((q 31), aI g 160 ca)]) (tw_runV (ws := [(h0, .inr (10, mob q rf n mm mb u85.1 u85.2 av ev wi mn tp tc sc nf fd me mp xn mt wh tq ag an ig)), ((q 2), aI g 600 bs), ((q 14), aI g 620 tg), ((q 15), aI g 620 tl), ((q 16), aI g 620 on), ((q 17), aI g 620 tw), ((q 22), aI g 320 fc), ((q 23), aI g 320 fq), ((q 27), aI g 160 fl), ((q 28), aI g 160 pl), ((q 29), aI g 160 na), ((q 30), aI g 160 ty), ((q 31), aI g 160 ca)]) (wc := [(h0, .inr (10, mob q rf n mm mb u85.1 u85.2 av ev wi mn tp tc sc nf fd me mp xn mt wh tq ag an ig))]) (As := [.int 6, .int x87]) (rest := []) E hB hK hZ (g_Mod_fail l g H.size h0 q rf n mm mb av ev wi mn tp tc sc nf fd me mp xn mt wh tq ag an ig u85.1 u85.2 6 x87 (by decide)) mc_Mod_fail mi_Mod_fail me_Mod_fail wd_1478 hP hD hS hA [0] rfl (by decide) 0 rfl rfl rfl rfl rfl (by decide) rfl hl.1 rfl (Nat.le_of_ble_eq_true rfl) (by decide) d_Mod_link_123) hP hD hS hA [0] [1, 2, 3, 4, 5, 6, 7, 8, 9, 10, 11, 12] rfl rfl (by decide) (by decide) (fun u89 H locs hr88 hP hD hS => ?_)
                  try dsimp only at hr88
                  have hP : va_P g.1 classes [((q 2), aI g 600 bs), ((q 14), aI g 620 tg), ((q 15), aI g 620 tl), ((q 16), aI g 620 on), ((q 17), aI g 620 tw), ((q 22), aI g 320 fc), ((q 23), aI g 320 fq), ((q 27), aI g 160 fl), ((q 28), aI g 160 pl), ((q 29), aI g 160 na), ((q 30), aI g 160 ty), ((q 31), aI g 160 ca), (h0, .inr (10, mob q rf n mm mb u89.1 u89.2 av ev wi mn tp tc sc nf fd me mp xn mt wh tq ag an ig))] H := hP
                  have hD : va_D A [((q 2), aI g 600 bs), ((q 14), aI g 620 tg), ((q 15), aI g 620 tl), ((q 16), aI g 620 on), ((q 17), aI g 620 tw), ((q 22), aI g 320 fc), ((q 23), aI g 320 fq), ((q 27), aI g 160 fl), ((q 28), aI g 160 pl), ((q 29), aI g 160 na), ((q 30), aI g 160 ty), ((q 31), aI g 160 ca), (h0, .inr (10, mob q rf n mm mb u89.1 u89.2 av ev wi mn tp tc sc nf fd me mp xn mt wh tq ag an ig))] := hD
                  have hP : va_P g.1 classes [(h0, .inr (10, mob q rf n mm mb u89.1 u89.2 av ev wi mn tp tc sc nf fd me mp xn mt wh tq ag an ig)), ((q 2), aI g 600 bs), ((q 14), aI g 620 tg), ((q 15), aI g 620 tl), ((q 16), aI g 620 on), ((q 17), aI g 620 tw), ((q 22), aI g 320 fc), ((q 23), aI g 320 fq), ((q 27), aI g 160 fl), ((q 28), aI g 160 pl), ((q 29), aI g 160 na), ((q 30), aI g 160 ty), ((q 31), aI g 160 ca)] H := hP.sub [12, 0, 1, 2, 3, 4, 5, 6, 7, 8, 9, 10, 11] rfl
                  have hD : va_D A [(h0, .inr (10, mob q rf n mm mb u89.1 u89.2 av ev wi mn tp tc sc nf fd me mp xn mt wh tq ag an ig)), ((q 2), aI g 600 bs), ((q 14), aI g 620 tg), ((q 15), aI g 620 tl), ((q 16), aI g 620 on), ((q 17), aI g 620 tw), ((q 22), aI g 320 fc), ((q 23), aI g 320 fq), ((q 27), aI g 160 fl), ((q 28), aI g 160 pl), ((q 29), aI g 160 na), ((q 30), aI g 160 ty), ((q 31), aI g 160 ca)] := hD.sub [12, 0, 1, 2, 3, 4, 5, 6, 7, 8, 9, 10, 11] (by decide) rfl
                  have hp89_0 := hr88
                  refine lv_iconst (v := 0) hx hb d_Mod_link_126 (by decide) ?_
                  refine lv_istore_n hx hb d_Mod_link_127 rfl hl (by decide) rfl (fun ls hl => ?_)
                  have hl : lv_has ls 2 [(1, .int 0), (0, .ref h0)] := hl
                  have loop128 : ∀ (kq : Nat) (i : Nat) (fa7 : Int32) (fp7 : Int32) (ls : Array Slot) (H : Heap) (locs : List Loc) , nf - i = kq → (hc7 : fa7 = 0 → u89.1 = 0) → (hui7 : i ≤ 700) → (hFCk : fa7 = 0 → ∀ j, j < i → TGv mn tg 7 (fc j)) → lv_has ls 2 [(1, .int (nI i)), (0, .ref h0)] → va_P g.1 classes [(h0, .inr (10, mob q rf n mm mb fa7 fp7 av ev wi mn tp tc sc nf fd me mp xn mt wh tq ag an ig)), ((q 2), aI g 600 bs), ((q 14), aI g 620 tg), ((q 15), aI g 620 tl), ((q 16), aI g 620 on), ((q 17), aI g 620 tw), ((q 22), aI g 320 fc), ((q 23), aI g 320 fq), ((q 27), aI g 160 fl), ((q 28), aI g 160 pl), ((q 29), aI g 160 na), ((q 30), aI g 160 ty), ((q 31), aI g 160 ca)] H → va_D A [(h0, .inr (10, mob q rf n mm mb fa7 fp7 av ev wi mn tp tc sc nf fd me mp xn mt wh tq ag an ig)), ((q 2), aI g 600 bs), ((q 14), aI g 620 tg), ((q 15), aI g 620 tl), ((q 16), aI g 620 on), ((q 17), aI g 620 tw), ((q 22), aI g 320 fc), ((q 23), aI g 320 fq), ((q 27), aI g 160 fl), ((q 28), aI g 160 pl), ((q 29), aI g 160 na), ((q 30), aI g 160 ty), ((q 31), aI g 160 ca)] → va_S A s.heap H locs → W p l e ({ frames := 7, cells := 0, slots := 0, locals := 164 }) s m [.ref h0].toArray below meth c H locs 0 0 (MQ below (tw_Qv g (fun (u : Int32 × Int32) => (u.1 = 0 → fa = 0) ∧ (u.1 = 0 → LCA mn tg on tw) ∧ (u.1 = 0 → ∀ j, 0 < j → j < mn → MC1 bs tg on tw j) ∧ (u.1 = 0 → TGv mn tg 7 tc) ∧ (u.1 = 0 → TGv mn tg 7 sc) ∧ (u.1 = 0 → ∀ j, j < nf → TGv mn tg 7 (fc j)) ∧ (u.1 = 0 → ∀ j, j < me → LMB bs mn tg on tw fd na ty j)) (fun u : Int32 × Int32 => [(h0, .inr (10, mob q rf n mm mb u.1 u.2 av ev wi mn tp tc sc nf fd me mp xn mt wh tq ag an ig)), ((q 2), aI g 600 bs), ((q 14), aI g 620 tg), ((q 15), aI g 620 tl), ((q 16), aI g 620 on), ((q 17), aI g 620 tw), ((q 22), aI g 320 fc), ((q 23), aI g 320 fq), ((q 27), aI g 160 fl), ((q 28), aI g 160 pl), ((q 29), aI g 160 na), ((q 30), aI g 160 ty), ((q 31), aI g 160 ca)]) A) [.ref h0].toArray s 0 0 A) (F0 m 128 ls []) := by
                    intro kq
                    induction kq using Nat.strongRecOn with
                    | _ kq ih128 =>
                      intro i fa7 fp7 ls H locs hk128 hc7 hui7 hFCk hl hP hD hS
                      refine lv_iload_n hx hb d_Mod_link_128 rfl (lv_at hl 0 rfl) ?_
                      refine lv_aload_n hx hb d_Mod_link_129 rfl (lv_at hl 1 rfl) ?_
                      refine va_get (D := g.1) (ci := 10) (v := .int (nI nf)) (C := R_Mod) (T := F_Mod) (N := 61) hx hb hts in_Mod hown hK hP 0 rfl rfl 21 (by decide) (hts _ wd_1271) (fun _ h9 => h9) rfl d_Mod_link_130 ?_
                      refine lv_icmp_ge (tgt := 176) hx hb d_Mod_link_133 (by decide) (fun h133 => ?_) (fun h133 => ?_)
                      · have h133 := tn_le h133 (by omega) (by omega)
                        refine lv_iconst (v := 0) hx hb d_Mod_link_176 (by decide) ?_
                        refine lv_istore_n hx hb d_Mod_link_177 rfl hl (by decide) rfl (fun ls hl => ?_)
                        have hl : lv_has ls 2 [(1, .int 0), (0, .ref h0)] := hl
                        have loop178 : ∀ (kq : Nat) (i : Nat) (fa6 : Int32) (fp6 : Int32) (ls : Array Slot) (H : Heap) (locs : List Loc) , me - i = kq → (hc6 : fa6 = 0 → fa7 = 0) → (hui6 : i ≤ 700) → (hLMk : fa6 = 0 → ∀ j, j < i → LMB bs mn tg on tw fd na ty j) → lv_has ls 2 [(1, .int (nI i)), (0, .ref h0)] → va_P g.1 classes [(h0, .inr (10, mob q rf n mm mb fa6 fp6 av ev wi mn tp tc sc nf fd me mp xn mt wh tq ag an ig)), ((q 2), aI g 600 bs), ((q 14), aI g 620 tg), ((q 15), aI g 620 tl), ((q 16), aI g 620 on), ((q 17), aI g 620 tw), ((q 22), aI g 320 fc), ((q 23), aI g 320 fq), ((q 27), aI g 160 fl), ((q 28), aI g 160 pl), ((q 29), aI g 160 na), ((q 30), aI g 160 ty), ((q 31), aI g 160 ca)] H → va_D A [(h0, .inr (10, mob q rf n mm mb fa6 fp6 av ev wi mn tp tc sc nf fd me mp xn mt wh tq ag an ig)), ((q 2), aI g 600 bs), ((q 14), aI g 620 tg), ((q 15), aI g 620 tl), ((q 16), aI g 620 on), ((q 17), aI g 620 tw), ((q 22), aI g 320 fc), ((q 23), aI g 320 fq), ((q 27), aI g 160 fl), ((q 28), aI g 160 pl), ((q 29), aI g 160 na), ((q 30), aI g 160 ty), ((q 31), aI g 160 ca)] → va_S A s.heap H locs → W p l e ({ frames := 7, cells := 0, slots := 0, locals := 164 }) s m [.ref h0].toArray below meth c H locs 0 0 (MQ below (tw_Qv g (fun (u : Int32 × Int32) => (u.1 = 0 → fa = 0) ∧ (u.1 = 0 → LCA mn tg on tw) ∧ (u.1 = 0 → ∀ j, 0 < j → j < mn → MC1 bs tg on tw j) ∧ (u.1 = 0 → TGv mn tg 7 tc) ∧ (u.1 = 0 → TGv mn tg 7 sc) ∧ (u.1 = 0 → ∀ j, j < nf → TGv mn tg 7 (fc j)) ∧ (u.1 = 0 → ∀ j, j < me → LMB bs mn tg on tw fd na ty j)) (fun u : Int32 × Int32 => [(h0, .inr (10, mob q rf n mm mb u.1 u.2 av ev wi mn tp tc sc nf fd me mp xn mt wh tq ag an ig)), ((q 2), aI g 600 bs), ((q 14), aI g 620 tg), ((q 15), aI g 620 tl), ((q 16), aI g 620 on), ((q 17), aI g 620 tw), ((q 22), aI g 320 fc), ((q 23), aI g 320 fq), ((q 27), aI g 160 fl), ((q 28), aI g 160 pl), ((q 29), aI g 160 na), ((q 30), aI g 160 ty), ((q 31), aI g 160 ca)]) A) [.ref h0].toArray s 0 0 A) (F0 m 178 ls []) := by
                          intro kq
                          induction kq using Nat.strongRecOn with
                          | _ kq ih178 =>
                            intro i fa6 fp6 ls H locs hk178 hc6 hui6 hLMk hl hP hD hS
                            refine lv_iload_n hx hb d_Mod_link_178 rfl (lv_at hl 0 rfl) ?_
                            refine lv_aload_n hx hb d_Mod_link_179 rfl (lv_at hl 1 rfl) ?_
                            refine va_get (D := g.1) (ci := 10) (v := .int (nI me)) (C := R_Mod) (T := F_Mod) (N := 61) hx hb hts in_Mod hown hK hP 0 rfl rfl 25 (by decide) (hts _ wd_1275) (fun _ h9 => h9) rfl d_Mod_link_180 ?_
                            refine lv_icmp_ge (tgt := 204) hx hb d_Mod_link_183 (by decide) (fun h183 => ?_) (fun h183 => ?_)
                            · have h183 := tn_le h183 (by omega) (by omega)
                              exact tw_vret E hS (fa6, fp6) (⟨(fun h => absurd h (fun h => (fun h => hp89_0 (hc7 h)) (hc6 h))), (fun h => absurd h (fun h => (fun h => hp89_0 (hc7 h)) (hc6 h))), (fun h => absurd h (fun h => (fun h => hp89_0 (hc7 h)) (hc6 h))), (fun h => absurd h (fun h => (fun h => hp89_0 (hc7 h)) (hc6 h))), (fun h => absurd h (fun h => (fun h => hp89_0 (hc7 h)) (hc6 h))), (fun h => absurd h (fun h => (fun h => hp89_0 (hc7 h)) (hc6 h))), (fun h => absurd h (fun h => (fun h => hp89_0 (hc7 h)) (hc6 h)))⟩) hP hD d_Mod_link_204
                            · have h183 := tn_nle h183 (by omega) (by omega)
                              refine lv_aload_n hx hb d_Mod_link_186 rfl (lv_at hl 1 rfl) ?_
                              refine va_get (D := g.1) (ci := 10) (v := .int fa6) (C := R_Mod) (T := F_Mod) (N := 61) hx hb hts in_Mod hown hK hP 0 rfl rfl 8 (by decide) (hts _ wd_1258) (fun _ h9 => h9) rfl d_Mod_link_187 ?_
                              refine lv_if_ne (tgt := 204) hx hb d_Mod_link_190 (by decide) (fun h190 => ?_) (fun h190 => ?_)
                              · exact tw_vret E hS (fa6, fp6) (⟨(fun h => absurd h h190), (fun h => absurd h h190), (fun h => absurd h h190), (fun h => absurd h h190), (fun h => absurd h h190), (fun h => absurd h h190), (fun h => absurd h h190)⟩) hP hD d_Mod_link_204
                              · exact absurd h190 (fun h => (fun h => hp89_0 (hc7 h)) (hc6 h))
                        exact loop178 _ 0 fa7 fp7 ls _ _ rfl (fun h => h) (by omega) (fun _ j h2 => absurd h2 (Nat.not_lt_zero j)) (hl) hP hD hS
                      · have h133 := tn_nle h133 (by omega) (by omega)
                        refine lv_aload_n hx hb d_Mod_link_136 rfl (lv_at hl 1 rfl) ?_
                        refine va_get (D := g.1) (ci := 10) (v := .int fa7) (C := R_Mod) (T := F_Mod) (N := 61) hx hb hts in_Mod hown hK hP 0 rfl rfl 8 (by decide) (hts _ wd_1258) (fun _ h9 => h9) rfl d_Mod_link_137 ?_
                        refine lv_if_ne (tgt := 176) hx hb d_Mod_link_140 (by decide) (fun h140 => ?_) (fun h140 => ?_)
                        · refine lv_iconst (v := 0) hx hb d_Mod_link_176 (by decide) ?_
                          refine lv_istore_n hx hb d_Mod_link_177 rfl hl (by decide) rfl (fun ls hl => ?_)
                          have hl : lv_has ls 2 [(1, .int 0), (0, .ref h0)] := hl
                          have loop178 : ∀ (kq : Nat) (i : Nat) (fa6 : Int32) (fp6 : Int32) (ls : Array Slot) (H : Heap) (locs : List Loc) , me - i = kq → (hc6 : fa6 = 0 → fa7 = 0) → (hui6 : i ≤ 700) → (hLMk : fa6 = 0 → ∀ j, j < i → LMB bs mn tg on tw fd na ty j) → lv_has ls 2 [(1, .int (nI i)), (0, .ref h0)] → va_P g.1 classes [(h0, .inr (10, mob q rf n mm mb fa6 fp6 av ev wi mn tp tc sc nf fd me mp xn mt wh tq ag an ig)), ((q 2), aI g 600 bs), ((q 14), aI g 620 tg), ((q 15), aI g 620 tl), ((q 16), aI g 620 on), ((q 17), aI g 620 tw), ((q 22), aI g 320 fc), ((q 23), aI g 320 fq), ((q 27), aI g 160 fl), ((q 28), aI g 160 pl), ((q 29), aI g 160 na), ((q 30), aI g 160 ty), ((q 31), aI g 160 ca)] H → va_D A [(h0, .inr (10, mob q rf n mm mb fa6 fp6 av ev wi mn tp tc sc nf fd me mp xn mt wh tq ag an ig)), ((q 2), aI g 600 bs), ((q 14), aI g 620 tg), ((q 15), aI g 620 tl), ((q 16), aI g 620 on), ((q 17), aI g 620 tw), ((q 22), aI g 320 fc), ((q 23), aI g 320 fq), ((q 27), aI g 160 fl), ((q 28), aI g 160 pl), ((q 29), aI g 160 na), ((q 30), aI g 160 ty), ((q 31), aI g 160 ca)] → va_S A s.heap H locs → W p l e ({ frames := 7, cells := 0, slots := 0, locals := 164 }) s m [.ref h0].toArray below meth c H locs 0 0 (MQ below (tw_Qv g (fun (u : Int32 × Int32) => (u.1 = 0 → fa = 0) ∧ (u.1 = 0 → LCA mn tg on tw) ∧ (u.1 = 0 → ∀ j, 0 < j → j < mn → MC1 bs tg on tw j) ∧ (u.1 = 0 → TGv mn tg 7 tc) ∧ (u.1 = 0 → TGv mn tg 7 sc) ∧ (u.1 = 0 → ∀ j, j < nf → TGv mn tg 7 (fc j)) ∧ (u.1 = 0 → ∀ j, j < me → LMB bs mn tg on tw fd na ty j)) (fun u : Int32 × Int32 => [(h0, .inr (10, mob q rf n mm mb u.1 u.2 av ev wi mn tp tc sc nf fd me mp xn mt wh tq ag an ig)), ((q 2), aI g 600 bs), ((q 14), aI g 620 tg), ((q 15), aI g 620 tl), ((q 16), aI g 620 on), ((q 17), aI g 620 tw), ((q 22), aI g 320 fc), ((q 23), aI g 320 fq), ((q 27), aI g 160 fl), ((q 28), aI g 160 pl), ((q 29), aI g 160 na), ((q 30), aI g 160 ty), ((q 31), aI g 160 ca)]) A) [.ref h0].toArray s 0 0 A) (F0 m 178 ls []) := by
                            intro kq
                            induction kq using Nat.strongRecOn with
                            | _ kq ih178 =>
                              intro i fa6 fp6 ls H locs hk178 hc6 hui6 hLMk hl hP hD hS
                              refine lv_iload_n hx hb d_Mod_link_178 rfl (lv_at hl 0 rfl) ?_
                              refine lv_aload_n hx hb d_Mod_link_179 rfl (lv_at hl 1 rfl) ?_
                              refine va_get (D := g.1) (ci := 10) (v := .int (nI me)) (C := R_Mod) (T := F_Mod) (N := 61) hx hb hts in_Mod hown hK hP 0 rfl rfl 25 (by decide) (hts _ wd_1275) (fun _ h9 => h9) rfl d_Mod_link_180 ?_
                              refine lv_icmp_ge (tgt := 204) hx hb d_Mod_link_183 (by decide) (fun h183 => ?_) (fun h183 => ?_)
                              · have h183 := tn_le h183 (by omega) (by omega)
                                exact tw_vret E hS (fa6, fp6) (⟨(fun h => absurd h (fun h => h140 (hc6 h))), (fun h => absurd h (fun h => h140 (hc6 h))), (fun h => absurd h (fun h => h140 (hc6 h))), (fun h => absurd h (fun h => h140 (hc6 h))), (fun h => absurd h (fun h => h140 (hc6 h))), (fun h => absurd h (fun h => h140 (hc6 h))), (fun h => absurd h (fun h => h140 (hc6 h)))⟩) hP hD d_Mod_link_204
                              · have h183 := tn_nle h183 (by omega) (by omega)
                                refine lv_aload_n hx hb d_Mod_link_186 rfl (lv_at hl 1 rfl) ?_
                                refine va_get (D := g.1) (ci := 10) (v := .int fa6) (C := R_Mod) (T := F_Mod) (N := 61) hx hb hts in_Mod hown hK hP 0 rfl rfl 8 (by decide) (hts _ wd_1258) (fun _ h9 => h9) rfl d_Mod_link_187 ?_
                                refine lv_if_ne (tgt := 204) hx hb d_Mod_link_190 (by decide) (fun h190 => ?_) (fun h190 => ?_)
                                · exact tw_vret E hS (fa6, fp6) (⟨(fun h => absurd h h190), (fun h => absurd h h190), (fun h => absurd h h190), (fun h => absurd h h190), (fun h => absurd h h190), (fun h => absurd h h190), (fun h => absurd h h190)⟩) hP hD d_Mod_link_204
                                · exact absurd h190 (fun h => h140 (hc6 h))
                          exact loop178 _ 0 fa7 fp7 ls _ _ rfl (fun h => h) (by omega) (fun _ j h2 => absurd h2 (Nat.not_lt_zero j)) (hl) hP hD hS
                        · exact absurd h140 (fun h => hp89_0 (hc7 h))
                  exact loop128 _ 0 u89.1 u89.2 ls _ _ rfl (fun h => h) (by omega) (fun _ j h2 => absurd h2 (Nat.not_lt_zero j)) (hl) hP hD hS
            · have h35 := tn_nle h35 (by omega) (by omega)
              refine lv_aload_n hx hb d_Mod_link_38 rfl (lv_at hl 1 rfl) ?_
              refine va_get (D := g.1) (ci := 10) (v := .int fa8) (C := R_Mod) (T := F_Mod) (N := 61) hx hb hts in_Mod hown hK hP 0 rfl rfl 8 (by decide) (hts _ wd_1258) (fun _ h9 => h9) rfl d_Mod_link_39 ?_
              refine lv_if_ne (tgt := 78) hx hb d_Mod_link_42 (by decide) (fun h42 => ?_) (fun h42 => ?_)
              · refine lv_aload_n hx hb d_Mod_link_78 rfl (lv_at hl 1 rfl) ?_
                refine lv_aload_n hx hb d_Mod_link_79 rfl (lv_at hl 1 rfl) ?_
                refine va_get (D := g.1) (ci := 10) (v := .int tc) (C := R_Mod) (T := F_Mod) (N := 61) hx hb hts in_Mod hown hK hP 0 rfl rfl 19 (by decide) (hts _ wd_1269) (fun _ h9 => h9) rfl d_Mod_link_80 ?_
                refine lv_bipush (v := 7) hx hb d_Mod_link_83 (by decide) ?_
                refine tw_si (tw_runV (ws := [(h0, .inr (10, mob q rf n mm mb fa8 fp8 av ev wi mn tp tc sc nf fd me mp xn mt wh tq ag an ig)), ((q 2), aI g 600 bs), ((q 14), aI g 620 tg), ((q 15), aI g 620 tl), ((q 16), aI g 620 on), ((q 17), aI g 620 tw), ((q 22), aI g 320 fc), ((q 23), aI g 320 fq), ((q 27), aI g 160 fl), ((q 28), aI g 160 pl), ((q 29), aI g 160 na), ((q 30), aI g 160 ty), ((q 31), aI g 160 ca)]) (wc := [(h0, .inr (10, mob q rf n mm mb fa8 fp8 av ev wi mn tp tc sc nf fd me mp xn mt wh tq ag an ig)), ((q 14), aI g 620 tg)]) (As := [.int tc, .int 7]) (rest := []) E hB hK hZ (g_Mod_isTagI l g H.size h0 q rf n mm mb fa8 fp8 av ev wi mn tp tc sc nf fd me mp xn mt wh tq ag an ig tg tc 7 (by omega)) mc_Mod_isTag mi_Mod_isTag me_Mod_isTag wd_1508 hP hD hS hA [0, 2] rfl (by decide) 0 rfl rfl rfl rfl rfl (by decide) rfl hl.1 rfl (Nat.le_of_ble_eq_true rfl) (by decide) d_Mod_link_85) (fun r90 hr90 => ?_)
                have hB90 := hr90
                refine lv_if_ne (tgt := 101) hx hb d_Mod_link_88 (by decide) (fun h88 => ?_) (fun h88 => ?_)
                · have hT88 := hB90.2 (hB90.1.resolve_left h88)
                  refine lv_aload_n hx hb d_Mod_link_101 rfl (lv_at hl 1 rfl) ?_
                  refine lv_aload_n hx hb d_Mod_link_102 rfl (lv_at hl 1 rfl) ?_
                  refine va_get (D := g.1) (ci := 10) (v := .int sc) (C := R_Mod) (T := F_Mod) (N := 61) hx hb hts in_Mod hown hK hP 0 rfl rfl 20 (by decide) (hts _ wd_1270) (fun _ h9 => h9) rfl d_Mod_link_103 ?_
                  refine lv_bipush (v := 7) hx hb d_Mod_link_106 (by decide) ?_
                  refine tw_si (tw_runV (ws := [(h0, .inr (10, mob q rf n mm mb fa8 fp8 av ev wi mn tp tc sc nf fd me mp xn mt wh tq ag an ig)), ((q 2), aI g 600 bs), ((q 14), aI g 620 tg), ((q 15), aI g 620 tl), ((q 16), aI g 620 on), ((q 17), aI g 620 tw), ((q 22), aI g 320 fc), ((q 23), aI g 320 fq), ((q 27), aI g 160 fl), ((q 28), aI g 160 pl), ((q 29), aI g 160 na), ((q 30), aI g 160 ty), ((q 31), aI g 160 ca)]) (wc := [(h0, .inr (10, mob q rf n mm mb fa8 fp8 av ev wi mn tp tc sc nf fd me mp xn mt wh tq ag an ig)), ((q 14), aI g 620 tg)]) (As := [.int sc, .int 7]) (rest := []) E hB hK hZ (g_Mod_isTagI l g H.size h0 q rf n mm mb fa8 fp8 av ev wi mn tp tc sc nf fd me mp xn mt wh tq ag an ig tg sc 7 (by omega)) mc_Mod_isTag mi_Mod_isTag me_Mod_isTag wd_1508 hP hD hS hA [0, 2] rfl (by decide) 0 rfl rfl rfl rfl rfl (by decide) rfl hl.1 rfl (Nat.le_of_ble_eq_true rfl) (by decide) d_Mod_link_108) (fun r91 hr91 => ?_)
                  have hB91 := hr91
                  refine lv_if_ne (tgt := 126) hx hb d_Mod_link_111 (by decide) (fun h111 => ?_) (fun h111 => ?_)
                  · have hT111 := hB91.2 (hB91.1.resolve_left h111)
                    refine lv_iconst (v := 0) hx hb d_Mod_link_126 (by decide) ?_
                    refine lv_istore_n hx hb d_Mod_link_127 rfl hl (by decide) rfl (fun ls hl => ?_)
                    have hl : lv_has ls 2 [(1, .int 0), (0, .ref h0)] := hl
                    have loop128 : ∀ (kq : Nat) (i : Nat) (fa7 : Int32) (fp7 : Int32) (ls : Array Slot) (H : Heap) (locs : List Loc) , nf - i = kq → (hc7 : fa7 = 0 → fa8 = 0) → (hui7 : i ≤ 700) → (hFCk : fa7 = 0 → ∀ j, j < i → TGv mn tg 7 (fc j)) → lv_has ls 2 [(1, .int (nI i)), (0, .ref h0)] → va_P g.1 classes [(h0, .inr (10, mob q rf n mm mb fa7 fp7 av ev wi mn tp tc sc nf fd me mp xn mt wh tq ag an ig)), ((q 2), aI g 600 bs), ((q 14), aI g 620 tg), ((q 15), aI g 620 tl), ((q 16), aI g 620 on), ((q 17), aI g 620 tw), ((q 22), aI g 320 fc), ((q 23), aI g 320 fq), ((q 27), aI g 160 fl), ((q 28), aI g 160 pl), ((q 29), aI g 160 na), ((q 30), aI g 160 ty), ((q 31), aI g 160 ca)] H → va_D A [(h0, .inr (10, mob q rf n mm mb fa7 fp7 av ev wi mn tp tc sc nf fd me mp xn mt wh tq ag an ig)), ((q 2), aI g 600 bs), ((q 14), aI g 620 tg), ((q 15), aI g 620 tl), ((q 16), aI g 620 on), ((q 17), aI g 620 tw), ((q 22), aI g 320 fc), ((q 23), aI g 320 fq), ((q 27), aI g 160 fl), ((q 28), aI g 160 pl), ((q 29), aI g 160 na), ((q 30), aI g 160 ty), ((q 31), aI g 160 ca)] → va_S A s.heap H locs → W p l e ({ frames := 7, cells := 0, slots := 0, locals := 164 }) s m [.ref h0].toArray below meth c H locs 0 0 (MQ below (tw_Qv g (fun (u : Int32 × Int32) => (u.1 = 0 → fa = 0) ∧ (u.1 = 0 → LCA mn tg on tw) ∧ (u.1 = 0 → ∀ j, 0 < j → j < mn → MC1 bs tg on tw j) ∧ (u.1 = 0 → TGv mn tg 7 tc) ∧ (u.1 = 0 → TGv mn tg 7 sc) ∧ (u.1 = 0 → ∀ j, j < nf → TGv mn tg 7 (fc j)) ∧ (u.1 = 0 → ∀ j, j < me → LMB bs mn tg on tw fd na ty j)) (fun u : Int32 × Int32 => [(h0, .inr (10, mob q rf n mm mb u.1 u.2 av ev wi mn tp tc sc nf fd me mp xn mt wh tq ag an ig)), ((q 2), aI g 600 bs), ((q 14), aI g 620 tg), ((q 15), aI g 620 tl), ((q 16), aI g 620 on), ((q 17), aI g 620 tw), ((q 22), aI g 320 fc), ((q 23), aI g 320 fq), ((q 27), aI g 160 fl), ((q 28), aI g 160 pl), ((q 29), aI g 160 na), ((q 30), aI g 160 ty), ((q 31), aI g 160 ca)]) A) [.ref h0].toArray s 0 0 A) (F0 m 128 ls []) := by
                      intro kq
                      induction kq using Nat.strongRecOn with
                      | _ kq ih128 =>
                        intro i fa7 fp7 ls H locs hk128 hc7 hui7 hFCk hl hP hD hS
                        refine lv_iload_n hx hb d_Mod_link_128 rfl (lv_at hl 0 rfl) ?_
                        refine lv_aload_n hx hb d_Mod_link_129 rfl (lv_at hl 1 rfl) ?_
                        refine va_get (D := g.1) (ci := 10) (v := .int (nI nf)) (C := R_Mod) (T := F_Mod) (N := 61) hx hb hts in_Mod hown hK hP 0 rfl rfl 21 (by decide) (hts _ wd_1271) (fun _ h9 => h9) rfl d_Mod_link_130 ?_
                        refine lv_icmp_ge (tgt := 176) hx hb d_Mod_link_133 (by decide) (fun h133 => ?_) (fun h133 => ?_)
                        · have h133 := tn_le h133 (by omega) (by omega)
                          refine lv_iconst (v := 0) hx hb d_Mod_link_176 (by decide) ?_
                          refine lv_istore_n hx hb d_Mod_link_177 rfl hl (by decide) rfl (fun ls hl => ?_)
                          have hl : lv_has ls 2 [(1, .int 0), (0, .ref h0)] := hl
                          have loop178 : ∀ (kq : Nat) (i : Nat) (fa6 : Int32) (fp6 : Int32) (ls : Array Slot) (H : Heap) (locs : List Loc) , me - i = kq → (hc6 : fa6 = 0 → fa7 = 0) → (hui6 : i ≤ 700) → (hLMk : fa6 = 0 → ∀ j, j < i → LMB bs mn tg on tw fd na ty j) → lv_has ls 2 [(1, .int (nI i)), (0, .ref h0)] → va_P g.1 classes [(h0, .inr (10, mob q rf n mm mb fa6 fp6 av ev wi mn tp tc sc nf fd me mp xn mt wh tq ag an ig)), ((q 2), aI g 600 bs), ((q 14), aI g 620 tg), ((q 15), aI g 620 tl), ((q 16), aI g 620 on), ((q 17), aI g 620 tw), ((q 22), aI g 320 fc), ((q 23), aI g 320 fq), ((q 27), aI g 160 fl), ((q 28), aI g 160 pl), ((q 29), aI g 160 na), ((q 30), aI g 160 ty), ((q 31), aI g 160 ca)] H → va_D A [(h0, .inr (10, mob q rf n mm mb fa6 fp6 av ev wi mn tp tc sc nf fd me mp xn mt wh tq ag an ig)), ((q 2), aI g 600 bs), ((q 14), aI g 620 tg), ((q 15), aI g 620 tl), ((q 16), aI g 620 on), ((q 17), aI g 620 tw), ((q 22), aI g 320 fc), ((q 23), aI g 320 fq), ((q 27), aI g 160 fl), ((q 28), aI g 160 pl), ((q 29), aI g 160 na), ((q 30), aI g 160 ty), ((q 31), aI g 160 ca)] → va_S A s.heap H locs → W p l e ({ frames := 7, cells := 0, slots := 0, locals := 164 }) s m [.ref h0].toArray below meth c H locs 0 0 (MQ below (tw_Qv g (fun (u : Int32 × Int32) => (u.1 = 0 → fa = 0) ∧ (u.1 = 0 → LCA mn tg on tw) ∧ (u.1 = 0 → ∀ j, 0 < j → j < mn → MC1 bs tg on tw j) ∧ (u.1 = 0 → TGv mn tg 7 tc) ∧ (u.1 = 0 → TGv mn tg 7 sc) ∧ (u.1 = 0 → ∀ j, j < nf → TGv mn tg 7 (fc j)) ∧ (u.1 = 0 → ∀ j, j < me → LMB bs mn tg on tw fd na ty j)) (fun u : Int32 × Int32 => [(h0, .inr (10, mob q rf n mm mb u.1 u.2 av ev wi mn tp tc sc nf fd me mp xn mt wh tq ag an ig)), ((q 2), aI g 600 bs), ((q 14), aI g 620 tg), ((q 15), aI g 620 tl), ((q 16), aI g 620 on), ((q 17), aI g 620 tw), ((q 22), aI g 320 fc), ((q 23), aI g 320 fq), ((q 27), aI g 160 fl), ((q 28), aI g 160 pl), ((q 29), aI g 160 na), ((q 30), aI g 160 ty), ((q 31), aI g 160 ca)]) A) [.ref h0].toArray s 0 0 A) (F0 m 178 ls []) := by
                            intro kq
                            induction kq using Nat.strongRecOn with
                            | _ kq ih178 =>
                              intro i fa6 fp6 ls H locs hk178 hc6 hui6 hLMk hl hP hD hS
                              refine lv_iload_n hx hb d_Mod_link_178 rfl (lv_at hl 0 rfl) ?_
                              refine lv_aload_n hx hb d_Mod_link_179 rfl (lv_at hl 1 rfl) ?_
                              refine va_get (D := g.1) (ci := 10) (v := .int (nI me)) (C := R_Mod) (T := F_Mod) (N := 61) hx hb hts in_Mod hown hK hP 0 rfl rfl 25 (by decide) (hts _ wd_1275) (fun _ h9 => h9) rfl d_Mod_link_180 ?_
                              refine lv_icmp_ge (tgt := 204) hx hb d_Mod_link_183 (by decide) (fun h183 => ?_) (fun h183 => ?_)
                              · have h183 := tn_le h183 (by omega) (by omega)
                                exact tw_vret E hS (fa6, fp6) (⟨(fun h => absurd h (fun h => (fun h => h42 (hc7 h)) (hc6 h))), (fun h => absurd h (fun h => (fun h => h42 (hc7 h)) (hc6 h))), (fun h => absurd h (fun h => (fun h => h42 (hc7 h)) (hc6 h))), (fun h => absurd h (fun h => (fun h => h42 (hc7 h)) (hc6 h))), (fun h => absurd h (fun h => (fun h => h42 (hc7 h)) (hc6 h))), (fun h => absurd h (fun h => (fun h => h42 (hc7 h)) (hc6 h))), (fun h => absurd h (fun h => (fun h => h42 (hc7 h)) (hc6 h)))⟩) hP hD d_Mod_link_204
                              · have h183 := tn_nle h183 (by omega) (by omega)
                                refine lv_aload_n hx hb d_Mod_link_186 rfl (lv_at hl 1 rfl) ?_
                                refine va_get (D := g.1) (ci := 10) (v := .int fa6) (C := R_Mod) (T := F_Mod) (N := 61) hx hb hts in_Mod hown hK hP 0 rfl rfl 8 (by decide) (hts _ wd_1258) (fun _ h9 => h9) rfl d_Mod_link_187 ?_
                                refine lv_if_ne (tgt := 204) hx hb d_Mod_link_190 (by decide) (fun h190 => ?_) (fun h190 => ?_)
                                · exact tw_vret E hS (fa6, fp6) (⟨(fun h => absurd h h190), (fun h => absurd h h190), (fun h => absurd h h190), (fun h => absurd h h190), (fun h => absurd h h190), (fun h => absurd h h190), (fun h => absurd h h190)⟩) hP hD d_Mod_link_204
                                · exact absurd h190 (fun h => (fun h => h42 (hc7 h)) (hc6 h))
                          exact loop178 _ 0 fa7 fp7 ls _ _ rfl (fun h => h) (by omega) (fun _ j h2 => absurd h2 (Nat.not_lt_zero j)) (hl) hP hD hS
                        · have h133 := tn_nle h133 (by omega) (by omega)
                          refine lv_aload_n hx hb d_Mod_link_136 rfl (lv_at hl 1 rfl) ?_
                          refine va_get (D := g.1) (ci := 10) (v := .int fa7) (C := R_Mod) (T := F_Mod) (N := 61) hx hb hts in_Mod hown hK hP 0 rfl rfl 8 (by decide) (hts _ wd_1258) (fun _ h9 => h9) rfl d_Mod_link_137 ?_
                          refine lv_if_ne (tgt := 176) hx hb d_Mod_link_140 (by decide) (fun h140 => ?_) (fun h140 => ?_)
                          · refine lv_iconst (v := 0) hx hb d_Mod_link_176 (by decide) ?_
                            refine lv_istore_n hx hb d_Mod_link_177 rfl hl (by decide) rfl (fun ls hl => ?_)
                            have hl : lv_has ls 2 [(1, .int 0), (0, .ref h0)] := hl
                            have loop178 : ∀ (kq : Nat) (i : Nat) (fa6 : Int32) (fp6 : Int32) (ls : Array Slot) (H : Heap) (locs : List Loc) , me - i = kq → (hc6 : fa6 = 0 → fa7 = 0) → (hui6 : i ≤ 700) → (hLMk : fa6 = 0 → ∀ j, j < i → LMB bs mn tg on tw fd na ty j) → lv_has ls 2 [(1, .int (nI i)), (0, .ref h0)] → va_P g.1 classes [(h0, .inr (10, mob q rf n mm mb fa6 fp6 av ev wi mn tp tc sc nf fd me mp xn mt wh tq ag an ig)), ((q 2), aI g 600 bs), ((q 14), aI g 620 tg), ((q 15), aI g 620 tl), ((q 16), aI g 620 on), ((q 17), aI g 620 tw), ((q 22), aI g 320 fc), ((q 23), aI g 320 fq), ((q 27), aI g 160 fl), ((q 28), aI g 160 pl), ((q 29), aI g 160 na), ((q 30), aI g 160 ty), ((q 31), aI g 160 ca)] H → va_D A [(h0, .inr (10, mob q rf n mm mb fa6 fp6 av ev wi mn tp tc sc nf fd me mp xn mt wh tq ag an ig)), ((q 2), aI g 600 bs), ((q 14), aI g 620 tg), ((q 15), aI g 620 tl), ((q 16), aI g 620 on), ((q 17), aI g 620 tw), ((q 22), aI g 320 fc), ((q 23), aI g 320 fq), ((q 27), aI g 160 fl), ((q 28), aI g 160 pl), ((q 29), aI g 160 na), ((q 30), aI g 160 ty), ((q 31), aI g 160 ca)] → va_S A s.heap H locs → W p l e ({ frames := 7, cells := 0, slots := 0, locals := 164 }) s m [.ref h0].toArray below meth c H locs 0 0 (MQ below (tw_Qv g (fun (u : Int32 × Int32) => (u.1 = 0 → fa = 0) ∧ (u.1 = 0 → LCA mn tg on tw) ∧ (u.1 = 0 → ∀ j, 0 < j → j < mn → MC1 bs tg on tw j) ∧ (u.1 = 0 → TGv mn tg 7 tc) ∧ (u.1 = 0 → TGv mn tg 7 sc) ∧ (u.1 = 0 → ∀ j, j < nf → TGv mn tg 7 (fc j)) ∧ (u.1 = 0 → ∀ j, j < me → LMB bs mn tg on tw fd na ty j)) (fun u : Int32 × Int32 => [(h0, .inr (10, mob q rf n mm mb u.1 u.2 av ev wi mn tp tc sc nf fd me mp xn mt wh tq ag an ig)), ((q 2), aI g 600 bs), ((q 14), aI g 620 tg), ((q 15), aI g 620 tl), ((q 16), aI g 620 on), ((q 17), aI g 620 tw), ((q 22), aI g 320 fc), ((q 23), aI g 320 fq), ((q 27), aI g 160 fl), ((q 28), aI g 160 pl), ((q 29), aI g 160 na), ((q 30), aI g 160 ty), ((q 31), aI g 160 ca)]) A) [.ref h0].toArray s 0 0 A) (F0 m 178 ls []) := by
                              intro kq
                              induction kq using Nat.strongRecOn with
                              | _ kq ih178 =>
                                intro i fa6 fp6 ls H locs hk178 hc6 hui6 hLMk hl hP hD hS
                                refine lv_iload_n hx hb d_Mod_link_178 rfl (lv_at hl 0 rfl) ?_
                                refine lv_aload_n hx hb d_Mod_link_179 rfl (lv_at hl 1 rfl) ?_
                                refine va_get (D := g.1) (ci := 10) (v := .int (nI me)) (C := R_Mod) (T := F_Mod) (N := 61) hx hb hts in_Mod hown hK hP 0 rfl rfl 25 (by decide) (hts _ wd_1275) (fun _ h9 => h9) rfl d_Mod_link_180 ?_
                                refine lv_icmp_ge (tgt := 204) hx hb d_Mod_link_183 (by decide) (fun h183 => ?_) (fun h183 => ?_)
                                · have h183 := tn_le h183 (by omega) (by omega)
                                  exact tw_vret E hS (fa6, fp6) (⟨(fun h => absurd h (fun h => h140 (hc6 h))), (fun h => absurd h (fun h => h140 (hc6 h))), (fun h => absurd h (fun h => h140 (hc6 h))), (fun h => absurd h (fun h => h140 (hc6 h))), (fun h => absurd h (fun h => h140 (hc6 h))), (fun h => absurd h (fun h => h140 (hc6 h))), (fun h => absurd h (fun h => h140 (hc6 h)))⟩) hP hD d_Mod_link_204
                                · have h183 := tn_nle h183 (by omega) (by omega)
                                  refine lv_aload_n hx hb d_Mod_link_186 rfl (lv_at hl 1 rfl) ?_
                                  refine va_get (D := g.1) (ci := 10) (v := .int fa6) (C := R_Mod) (T := F_Mod) (N := 61) hx hb hts in_Mod hown hK hP 0 rfl rfl 8 (by decide) (hts _ wd_1258) (fun _ h9 => h9) rfl d_Mod_link_187 ?_
                                  refine lv_if_ne (tgt := 204) hx hb d_Mod_link_190 (by decide) (fun h190 => ?_) (fun h190 => ?_)
                                  · exact tw_vret E hS (fa6, fp6) (⟨(fun h => absurd h h190), (fun h => absurd h h190), (fun h => absurd h h190), (fun h => absurd h h190), (fun h => absurd h h190), (fun h => absurd h h190), (fun h => absurd h h190)⟩) hP hD d_Mod_link_204
                                  · exact absurd h190 (fun h => h140 (hc6 h))
                            exact loop178 _ 0 fa7 fp7 ls _ _ rfl (fun h => h) (by omega) (fun _ j h2 => absurd h2 (Nat.not_lt_zero j)) (hl) hP hD hS
                          · exact absurd h140 (fun h => h42 (hc7 h))
                    exact loop128 _ 0 fa8 fp8 ls _ _ rfl (fun h => h) (by omega) (fun _ j h2 => absurd h2 (Nat.not_lt_zero j)) (hl) hP hD hS
                  · refine lv_aload_n hx hb d_Mod_link_114 rfl (lv_at hl 1 rfl) ?_
                    refine lv_bipush (v := 6) hx hb d_Mod_link_115 (by decide) ?_
                    refine lv_aload_n hx hb d_Mod_link_117 rfl (lv_at hl 1 rfl) ?_
                    refine va_get (D := g.1) (ci := 10) (v := .int tp) (C := R_Mod) (T := F_Mod) (N := 61) hx hb hts in_Mod hown hK hP 0 rfl rfl 18 (by decide) (hts _ wd_1268) (fun _ h9 => h9) rfl d_Mod_link_118 ?_
                    refine lv_iconst (v := 2) hx hb d_Mod_link_121 (by decide) ?_
                    refine lv_iadd hx hb d_Mod_link_122 ?_
                    obtain ⟨x92, ex92⟩ : ∃ z : Int32, tp + 2 = z := ⟨_, rfl⟩
                    refine tw_ri (e2 := x92) ex92 ?_
                    refine tw_wv (wr := [((q 2), aI g 600 bs), ((q 14), aI g 620 tg), ((q 15), aI g 620 tl), ((q 16), aI g 620 on), ((q 17), aI g 620 tw), ((q 22), aI g 320 fc), ((q 23), aI g 320 fq), ((q 27), aI g 160 fl), ((q 28), aI g 160 pl), ((q 29), aI g 160 na), ((q 30), aI g 160 ty), ((q 31), aI g 160 ca)]) (tw_runV (ws := [(h0, .inr (10, mob q rf n mm mb fa8 fp8 av ev wi mn tp tc sc nf fd me mp xn mt wh tq ag an ig)), ((q 2), aI g 600 bs), ((q 14), aI g 620 tg), ((q 15), aI g 620 tl), ((q 16), aI g 620 on), ((q 17), aI g 620 tw), ((q 22), aI g 320 fc), ((q 23), aI g 320 fq), ((q 27), aI g 160 fl), ((q 28), aI g 160 pl), ((q 29), aI g 160 na), ((q 30), aI g 160 ty), ((q 31), aI g 160 ca)]) (wc := [(h0, .inr (10, mob q rf n mm mb fa8 fp8 av ev wi mn tp tc sc nf fd me mp xn mt wh tq ag an ig))]) (As := [.int 6, .int x92]) (rest := []) E hB hK hZ (g_Mod_fail l g H.size h0 q rf n mm mb av ev wi mn tp tc sc nf fd me mp xn mt wh tq ag an ig fa8 fp8 6 x92 (by decide)) mc_Mod_fail mi_Mod_fail me_Mod_fail wd_1478 hP hD hS hA [0] rfl (by decide) 0 rfl rfl rfl rfl rfl (by decide) rfl hl.1 rfl (Nat.le_of_ble_eq_true rfl) (by decide) d_Mod_link_123) hP hD hS hA [0] [1, 2, 3, 4, 5, 6, 7, 8, 9, 10, 11, 12] rfl rfl (by decide) (by decide) (fun u94 H locs hr93 hP hD hS => ?_)
                    try dsimp only at hr93
                    have hP : va_P g.1 classes [((q 2), aI g 600 bs), ((q 14), aI g 620 tg), ((q 15), aI g 620 tl), ((q 16), aI g 620 on), ((q 17), aI g 620 tw), ((q 22), aI g 320 fc), ((q 23), aI g 320 fq), ((q 27), aI g 160 fl), ((q 28), aI g 160 pl), ((q 29), aI g 160 na), ((q 30), aI g 160 ty), ((q 31), aI g 160 ca), (h0, .inr (10, mob q rf n mm mb u94.1 u94.2 av ev wi mn tp tc sc nf fd me mp xn mt wh tq ag an ig))] H := hP
                    have hD : va_D A [((q 2), aI g 600 bs), ((q 14), aI g 620 tg), ((q 15), aI g 620 tl), ((q 16), aI g 620 on), ((q 17), aI g 620 tw), ((q 22), aI g 320 fc), ((q 23), aI g 320 fq), ((q 27), aI g 160 fl), ((q 28), aI g 160 pl), ((q 29), aI g 160 na), ((q 30), aI g 160 ty), ((q 31), aI g 160 ca), (h0, .inr (10, mob q rf n mm mb u94.1 u94.2 av ev wi mn tp tc sc nf fd me mp xn mt wh tq ag an ig))] := hD
                    have hP : va_P g.1 classes [(h0, .inr (10, mob q rf n mm mb u94.1 u94.2 av ev wi mn tp tc sc nf fd me mp xn mt wh tq ag an ig)), ((q 2), aI g 600 bs), ((q 14), aI g 620 tg), ((q 15), aI g 620 tl), ((q 16), aI g 620 on), ((q 17), aI g 620 tw), ((q 22), aI g 320 fc), ((q 23), aI g 320 fq), ((q 27), aI g 160 fl), ((q 28), aI g 160 pl), ((q 29), aI g 160 na), ((q 30), aI g 160 ty), ((q 31), aI g 160 ca)] H := hP.sub [12, 0, 1, 2, 3, 4, 5, 6, 7, 8, 9, 10, 11] rfl
                    have hD : va_D A [(h0, .inr (10, mob q rf n mm mb u94.1 u94.2 av ev wi mn tp tc sc nf fd me mp xn mt wh tq ag an ig)), ((q 2), aI g 600 bs), ((q 14), aI g 620 tg), ((q 15), aI g 620 tl), ((q 16), aI g 620 on), ((q 17), aI g 620 tw), ((q 22), aI g 320 fc), ((q 23), aI g 320 fq), ((q 27), aI g 160 fl), ((q 28), aI g 160 pl), ((q 29), aI g 160 na), ((q 30), aI g 160 ty), ((q 31), aI g 160 ca)] := hD.sub [12, 0, 1, 2, 3, 4, 5, 6, 7, 8, 9, 10, 11] (by decide) rfl
                    have hp94_0 := hr93
                    refine lv_iconst (v := 0) hx hb d_Mod_link_126 (by decide) ?_
                    refine lv_istore_n hx hb d_Mod_link_127 rfl hl (by decide) rfl (fun ls hl => ?_)
                    have hl : lv_has ls 2 [(1, .int 0), (0, .ref h0)] := hl
                    have loop128 : ∀ (kq : Nat) (i : Nat) (fa7 : Int32) (fp7 : Int32) (ls : Array Slot) (H : Heap) (locs : List Loc) , nf - i = kq → (hc7 : fa7 = 0 → u94.1 = 0) → (hui7 : i ≤ 700) → (hFCk : fa7 = 0 → ∀ j, j < i → TGv mn tg 7 (fc j)) → lv_has ls 2 [(1, .int (nI i)), (0, .ref h0)] → va_P g.1 classes [(h0, .inr (10, mob q rf n mm mb fa7 fp7 av ev wi mn tp tc sc nf fd me mp xn mt wh tq ag an ig)), ((q 2), aI g 600 bs), ((q 14), aI g 620 tg), ((q 15), aI g 620 tl), ((q 16), aI g 620 on), ((q 17), aI g 620 tw), ((q 22), aI g 320 fc), ((q 23), aI g 320 fq), ((q 27), aI g 160 fl), ((q 28), aI g 160 pl), ((q 29), aI g 160 na), ((q 30), aI g 160 ty), ((q 31), aI g 160 ca)] H → va_D A [(h0, .inr (10, mob q rf n mm mb fa7 fp7 av ev wi mn tp tc sc nf fd me mp xn mt wh tq ag an ig)), ((q 2), aI g 600 bs), ((q 14), aI g 620 tg), ((q 15), aI g 620 tl), ((q 16), aI g 620 on), ((q 17), aI g 620 tw), ((q 22), aI g 320 fc), ((q 23), aI g 320 fq), ((q 27), aI g 160 fl), ((q 28), aI g 160 pl), ((q 29), aI g 160 na), ((q 30), aI g 160 ty), ((q 31), aI g 160 ca)] → va_S A s.heap H locs → W p l e ({ frames := 7, cells := 0, slots := 0, locals := 164 }) s m [.ref h0].toArray below meth c H locs 0 0 (MQ below (tw_Qv g (fun (u : Int32 × Int32) => (u.1 = 0 → fa = 0) ∧ (u.1 = 0 → LCA mn tg on tw) ∧ (u.1 = 0 → ∀ j, 0 < j → j < mn → MC1 bs tg on tw j) ∧ (u.1 = 0 → TGv mn tg 7 tc) ∧ (u.1 = 0 → TGv mn tg 7 sc) ∧ (u.1 = 0 → ∀ j, j < nf → TGv mn tg 7 (fc j)) ∧ (u.1 = 0 → ∀ j, j < me → LMB bs mn tg on tw fd na ty j)) (fun u : Int32 × Int32 => [(h0, .inr (10, mob q rf n mm mb u.1 u.2 av ev wi mn tp tc sc nf fd me mp xn mt wh tq ag an ig)), ((q 2), aI g 600 bs), ((q 14), aI g 620 tg), ((q 15), aI g 620 tl), ((q 16), aI g 620 on), ((q 17), aI g 620 tw), ((q 22), aI g 320 fc), ((q 23), aI g 320 fq), ((q 27), aI g 160 fl), ((q 28), aI g 160 pl), ((q 29), aI g 160 na), ((q 30), aI g 160 ty), ((q 31), aI g 160 ca)]) A) [.ref h0].toArray s 0 0 A) (F0 m 128 ls []) := by
                      intro kq
                      induction kq using Nat.strongRecOn with
                      | _ kq ih128 =>
                        intro i fa7 fp7 ls H locs hk128 hc7 hui7 hFCk hl hP hD hS
                        refine lv_iload_n hx hb d_Mod_link_128 rfl (lv_at hl 0 rfl) ?_
                        refine lv_aload_n hx hb d_Mod_link_129 rfl (lv_at hl 1 rfl) ?_
                        refine va_get (D := g.1) (ci := 10) (v := .int (nI nf)) (C := R_Mod) (T := F_Mod) (N := 61) hx hb hts in_Mod hown hK hP 0 rfl rfl 21 (by decide) (hts _ wd_1271) (fun _ h9 => h9) rfl d_Mod_link_130 ?_
                        refine lv_icmp_ge (tgt := 176) hx hb d_Mod_link_133 (by decide) (fun h133 => ?_) (fun h133 => ?_)
                        · have h133 := tn_le h133 (by omega) (by omega)
                          refine lv_iconst (v := 0) hx hb d_Mod_link_176 (by decide) ?_
                          refine lv_istore_n hx hb d_Mod_link_177 rfl hl (by decide) rfl (fun ls hl => ?_)
                          have hl : lv_has ls 2 [(1, .int 0), (0, .ref h0)] := hl
                          have loop178 : ∀ (kq : Nat) (i : Nat) (fa6 : Int32) (fp6 : Int32) (ls : Array Slot) (H : Heap) (locs : List Loc) , me - i = kq → (hc6 : fa6 = 0 → fa7 = 0) → (hui6 : i ≤ 700) → (hLMk : fa6 = 0 → ∀ j, j < i → LMB bs mn tg on tw fd na ty j) → lv_has ls 2 [(1, .int (nI i)), (0, .ref h0)] → va_P g.1 classes [(h0, .inr (10, mob q rf n mm mb fa6 fp6 av ev wi mn tp tc sc nf fd me mp xn mt wh tq ag an ig)), ((q 2), aI g 600 bs), ((q 14), aI g 620 tg), ((q 15), aI g 620 tl), ((q 16), aI g 620 on), ((q 17), aI g 620 tw), ((q 22), aI g 320 fc), ((q 23), aI g 320 fq), ((q 27), aI g 160 fl), ((q 28), aI g 160 pl), ((q 29), aI g 160 na), ((q 30), aI g 160 ty), ((q 31), aI g 160 ca)] H → va_D A [(h0, .inr (10, mob q rf n mm mb fa6 fp6 av ev wi mn tp tc sc nf fd me mp xn mt wh tq ag an ig)), ((q 2), aI g 600 bs), ((q 14), aI g 620 tg), ((q 15), aI g 620 tl), ((q 16), aI g 620 on), ((q 17), aI g 620 tw), ((q 22), aI g 320 fc), ((q 23), aI g 320 fq), ((q 27), aI g 160 fl), ((q 28), aI g 160 pl), ((q 29), aI g 160 na), ((q 30), aI g 160 ty), ((q 31), aI g 160 ca)] → va_S A s.heap H locs → W p l e ({ frames := 7, cells := 0, slots := 0, locals := 164 }) s m [.ref h0].toArray below meth c H locs 0 0 (MQ below (tw_Qv g (fun (u : Int32 × Int32) => (u.1 = 0 → fa = 0) ∧ (u.1 = 0 → LCA mn tg on tw) ∧ (u.1 = 0 → ∀ j, 0 < j → j < mn → MC1 bs tg on tw j) ∧ (u.1 = 0 → TGv mn tg 7 tc) ∧ (u.1 = 0 → TGv mn tg 7 sc) ∧ (u.1 = 0 → ∀ j, j < nf → TGv mn tg 7 (fc j)) ∧ (u.1 = 0 → ∀ j, j < me → LMB bs mn tg on tw fd na ty j)) (fun u : Int32 × Int32 => [(h0, .inr (10, mob q rf n mm mb u.1 u.2 av ev wi mn tp tc sc nf fd me mp xn mt wh tq ag an ig)), ((q 2), aI g 600 bs), ((q 14), aI g 620 tg), ((q 15), aI g 620 tl), ((q 16), aI g 620 on), ((q 17), aI g 620 tw), ((q 22), aI g 320 fc), ((q 23), aI g 320 fq), ((q 27), aI g 160 fl), ((q 28), aI g 160 pl), ((q 29), aI g 160 na), ((q 30), aI g 160 ty), ((q 31), aI g 160 ca)]) A) [.ref h0].toArray s 0 0 A) (F0 m 178 ls []) := by
                            intro kq
                            induction kq using Nat.strongRecOn with
                            | _ kq ih178 =>
                              intro i fa6 fp6 ls H locs hk178 hc6 hui6 hLMk hl hP hD hS
                              refine lv_iload_n hx hb d_Mod_link_178 rfl (lv_at hl 0 rfl) ?_
                              refine lv_aload_n hx hb d_Mod_link_179 rfl (lv_at hl 1 rfl) ?_
                              refine va_get (D := g.1) (ci := 10) (v := .int (nI me)) (C := R_Mod) (T := F_Mod) (N := 61) hx hb hts in_Mod hown hK hP 0 rfl rfl 25 (by decide) (hts _ wd_1275) (fun _ h9 => h9) rfl d_Mod_link_180 ?_
                              refine lv_icmp_ge (tgt := 204) hx hb d_Mod_link_183 (by decide) (fun h183 => ?_) (fun h183 => ?_)
                              · have h183 := tn_le h183 (by omega) (by omega)
                                exact tw_vret E hS (fa6, fp6) (⟨(fun h => absurd h (fun h => (fun h => hp94_0 (hc7 h)) (hc6 h))), (fun h => absurd h (fun h => (fun h => hp94_0 (hc7 h)) (hc6 h))), (fun h => absurd h (fun h => (fun h => hp94_0 (hc7 h)) (hc6 h))), (fun h => absurd h (fun h => (fun h => hp94_0 (hc7 h)) (hc6 h))), (fun h => absurd h (fun h => (fun h => hp94_0 (hc7 h)) (hc6 h))), (fun h => absurd h (fun h => (fun h => hp94_0 (hc7 h)) (hc6 h))), (fun h => absurd h (fun h => (fun h => hp94_0 (hc7 h)) (hc6 h)))⟩) hP hD d_Mod_link_204
                              · have h183 := tn_nle h183 (by omega) (by omega)
                                refine lv_aload_n hx hb d_Mod_link_186 rfl (lv_at hl 1 rfl) ?_
                                refine va_get (D := g.1) (ci := 10) (v := .int fa6) (C := R_Mod) (T := F_Mod) (N := 61) hx hb hts in_Mod hown hK hP 0 rfl rfl 8 (by decide) (hts _ wd_1258) (fun _ h9 => h9) rfl d_Mod_link_187 ?_
                                refine lv_if_ne (tgt := 204) hx hb d_Mod_link_190 (by decide) (fun h190 => ?_) (fun h190 => ?_)
                                · exact tw_vret E hS (fa6, fp6) (⟨(fun h => absurd h h190), (fun h => absurd h h190), (fun h => absurd h h190), (fun h => absurd h h190), (fun h => absurd h h190), (fun h => absurd h h190), (fun h => absurd h h190)⟩) hP hD d_Mod_link_204
                                · exact absurd h190 (fun h => (fun h => hp94_0 (hc7 h)) (hc6 h))
                          exact loop178 _ 0 fa7 fp7 ls _ _ rfl (fun h => h) (by omega) (fun _ j h2 => absurd h2 (Nat.not_lt_zero j)) (hl) hP hD hS
                        · have h133 := tn_nle h133 (by omega) (by omega)
                          refine lv_aload_n hx hb d_Mod_link_136 rfl (lv_at hl 1 rfl) ?_
                          refine va_get (D := g.1) (ci := 10) (v := .int fa7) (C := R_Mod) (T := F_Mod) (N := 61) hx hb hts in_Mod hown hK hP 0 rfl rfl 8 (by decide) (hts _ wd_1258) (fun _ h9 => h9) rfl d_Mod_link_137 ?_
                          refine lv_if_ne (tgt := 176) hx hb d_Mod_link_140 (by decide) (fun h140 => ?_) (fun h140 => ?_)
                          · refine lv_iconst (v := 0) hx hb d_Mod_link_176 (by decide) ?_
                            refine lv_istore_n hx hb d_Mod_link_177 rfl hl (by decide) rfl (fun ls hl => ?_)
                            have hl : lv_has ls 2 [(1, .int 0), (0, .ref h0)] := hl
                            have loop178 : ∀ (kq : Nat) (i : Nat) (fa6 : Int32) (fp6 : Int32) (ls : Array Slot) (H : Heap) (locs : List Loc) , me - i = kq → (hc6 : fa6 = 0 → fa7 = 0) → (hui6 : i ≤ 700) → (hLMk : fa6 = 0 → ∀ j, j < i → LMB bs mn tg on tw fd na ty j) → lv_has ls 2 [(1, .int (nI i)), (0, .ref h0)] → va_P g.1 classes [(h0, .inr (10, mob q rf n mm mb fa6 fp6 av ev wi mn tp tc sc nf fd me mp xn mt wh tq ag an ig)), ((q 2), aI g 600 bs), ((q 14), aI g 620 tg), ((q 15), aI g 620 tl), ((q 16), aI g 620 on), ((q 17), aI g 620 tw), ((q 22), aI g 320 fc), ((q 23), aI g 320 fq), ((q 27), aI g 160 fl), ((q 28), aI g 160 pl), ((q 29), aI g 160 na), ((q 30), aI g 160 ty), ((q 31), aI g 160 ca)] H → va_D A [(h0, .inr (10, mob q rf n mm mb fa6 fp6 av ev wi mn tp tc sc nf fd me mp xn mt wh tq ag an ig)), ((q 2), aI g 600 bs), ((q 14), aI g 620 tg), ((q 15), aI g 620 tl), ((q 16), aI g 620 on), ((q 17), aI g 620 tw), ((q 22), aI g 320 fc), ((q 23), aI g 320 fq), ((q 27), aI g 160 fl), ((q 28), aI g 160 pl), ((q 29), aI g 160 na), ((q 30), aI g 160 ty), ((q 31), aI g 160 ca)] → va_S A s.heap H locs → W p l e ({ frames := 7, cells := 0, slots := 0, locals := 164 }) s m [.ref h0].toArray below meth c H locs 0 0 (MQ below (tw_Qv g (fun (u : Int32 × Int32) => (u.1 = 0 → fa = 0) ∧ (u.1 = 0 → LCA mn tg on tw) ∧ (u.1 = 0 → ∀ j, 0 < j → j < mn → MC1 bs tg on tw j) ∧ (u.1 = 0 → TGv mn tg 7 tc) ∧ (u.1 = 0 → TGv mn tg 7 sc) ∧ (u.1 = 0 → ∀ j, j < nf → TGv mn tg 7 (fc j)) ∧ (u.1 = 0 → ∀ j, j < me → LMB bs mn tg on tw fd na ty j)) (fun u : Int32 × Int32 => [(h0, .inr (10, mob q rf n mm mb u.1 u.2 av ev wi mn tp tc sc nf fd me mp xn mt wh tq ag an ig)), ((q 2), aI g 600 bs), ((q 14), aI g 620 tg), ((q 15), aI g 620 tl), ((q 16), aI g 620 on), ((q 17), aI g 620 tw), ((q 22), aI g 320 fc), ((q 23), aI g 320 fq), ((q 27), aI g 160 fl), ((q 28), aI g 160 pl), ((q 29), aI g 160 na), ((q 30), aI g 160 ty), ((q 31), aI g 160 ca)]) A) [.ref h0].toArray s 0 0 A) (F0 m 178 ls []) := by
                              intro kq
                              induction kq using Nat.strongRecOn with
                              | _ kq ih178 =>
                                intro i fa6 fp6 ls H locs hk178 hc6 hui6 hLMk hl hP hD hS
                                refine lv_iload_n hx hb d_Mod_link_178 rfl (lv_at hl 0 rfl) ?_
                                refine lv_aload_n hx hb d_Mod_link_179 rfl (lv_at hl 1 rfl) ?_
                                refine va_get (D := g.1) (ci := 10) (v := .int (nI me)) (C := R_Mod) (T := F_Mod) (N := 61) hx hb hts in_Mod hown hK hP 0 rfl rfl 25 (by decide) (hts _ wd_1275) (fun _ h9 => h9) rfl d_Mod_link_180 ?_
                                refine lv_icmp_ge (tgt := 204) hx hb d_Mod_link_183 (by decide) (fun h183 => ?_) (fun h183 => ?_)
                                · have h183 := tn_le h183 (by omega) (by omega)
                                  exact tw_vret E hS (fa6, fp6) (⟨(fun h => absurd h (fun h => h140 (hc6 h))), (fun h => absurd h (fun h => h140 (hc6 h))), (fun h => absurd h (fun h => h140 (hc6 h))), (fun h => absurd h (fun h => h140 (hc6 h))), (fun h => absurd h (fun h => h140 (hc6 h))), (fun h => absurd h (fun h => h140 (hc6 h))), (fun h => absurd h (fun h => h140 (hc6 h)))⟩) hP hD d_Mod_link_204
                                · have h183 := tn_nle h183 (by omega) (by omega)
                                  refine lv_aload_n hx hb d_Mod_link_186 rfl (lv_at hl 1 rfl) ?_
                                  refine va_get (D := g.1) (ci := 10) (v := .int fa6) (C := R_Mod) (T := F_Mod) (N := 61) hx hb hts in_Mod hown hK hP 0 rfl rfl 8 (by decide) (hts _ wd_1258) (fun _ h9 => h9) rfl d_Mod_link_187 ?_
                                  refine lv_if_ne (tgt := 204) hx hb d_Mod_link_190 (by decide) (fun h190 => ?_) (fun h190 => ?_)
                                  · exact tw_vret E hS (fa6, fp6) (⟨(fun h => absurd h h190), (fun h => absurd h h190), (fun h => absurd h h190), (fun h => absurd h h190), (fun h => absurd h h190), (fun h => absurd h h190), (fun h => absurd h h190)⟩) hP hD d_Mod_link_204
                                  · exact absurd h190 (fun h => h140 (hc6 h))
                            exact loop178 _ 0 fa7 fp7 ls _ _ rfl (fun h => h) (by omega) (fun _ j h2 => absurd h2 (Nat.not_lt_zero j)) (hl) hP hD hS
                          · exact absurd h140 (fun h => hp94_0 (hc7 h))
                    exact loop128 _ 0 u94.1 u94.2 ls _ _ rfl (fun h => h) (by omega) (fun _ j h2 => absurd h2 (Nat.not_lt_zero j)) (hl) hP hD hS
                · refine lv_aload_n hx hb d_Mod_link_91 rfl (lv_at hl 1 rfl) ?_
                  refine lv_bipush (v := 6) hx hb d_Mod_link_92 (by decide) ?_
                  refine lv_aload_n hx hb d_Mod_link_94 rfl (lv_at hl 1 rfl) ?_
                  refine va_get (D := g.1) (ci := 10) (v := .int tp) (C := R_Mod) (T := F_Mod) (N := 61) hx hb hts in_Mod hown hK hP 0 rfl rfl 18 (by decide) (hts _ wd_1268) (fun _ h9 => h9) rfl d_Mod_link_95 ?_
                  refine tw_wv (wr := [((q 2), aI g 600 bs), ((q 14), aI g 620 tg), ((q 15), aI g 620 tl), ((q 16), aI g 620 on), ((q 17), aI g 620 tw), ((q 22), aI g 320 fc), ((q 23), aI g 320 fq), ((q 27), aI g 160 fl), ((q 28), aI g 160 pl), ((q 29), aI g 160 na), ((q 30), aI g 160 ty), ((q 31), aI g 160 ca)]) (tw_runV (ws := [(h0, .inr (10, mob q rf n mm mb fa8 fp8 av ev wi mn tp tc sc nf fd me mp xn mt wh tq ag an ig)), ((q 2), aI g 600 bs), ((q 14), aI g 620 tg), ((q 15), aI g 620 tl), ((q 16), aI g 620 on), ((q 17), aI g 620 tw), ((q 22), aI g 320 fc), ((q 23), aI g 320 fq), ((q 27), aI g 160 fl), ((q 28), aI g 160 pl), ((q 29), aI g 160 na), ((q 30), aI g 160 ty), ((q 31), aI g 160 ca)]) (wc := [(h0, .inr (10, mob q rf n mm mb fa8 fp8 av ev wi mn tp tc sc nf fd me mp xn mt wh tq ag an ig))]) (As := [.int 6, .int tp]) (rest := []) E hB hK hZ (g_Mod_fail l g H.size h0 q rf n mm mb av ev wi mn tp tc sc nf fd me mp xn mt wh tq ag an ig fa8 fp8 6 tp (by decide)) mc_Mod_fail mi_Mod_fail me_Mod_fail wd_1478 hP hD hS hA [0] rfl (by decide) 0 rfl rfl rfl rfl rfl (by decide) rfl hl.1 rfl (Nat.le_of_ble_eq_true rfl) (by decide) d_Mod_link_98) hP hD hS hA [0] [1, 2, 3, 4, 5, 6, 7, 8, 9, 10, 11, 12] rfl rfl (by decide) (by decide) (fun u96 H locs hr95 hP hD hS => ?_)
                  try dsimp only at hr95
                  have hP : va_P g.1 classes [((q 2), aI g 600 bs), ((q 14), aI g 620 tg), ((q 15), aI g 620 tl), ((q 16), aI g 620 on), ((q 17), aI g 620 tw), ((q 22), aI g 320 fc), ((q 23), aI g 320 fq), ((q 27), aI g 160 fl), ((q 28), aI g 160 pl), ((q 29), aI g 160 na), ((q 30), aI g 160 ty), ((q 31), aI g 160 ca), (h0, .inr (10, mob q rf n mm mb u96.1 u96.2 av ev wi mn tp tc sc nf fd me mp xn mt wh tq ag an ig))] H := hP
                  have hD : va_D A [((q 2), aI g 600 bs), ((q 14), aI g 620 tg), ((q 15), aI g 620 tl), ((q 16), aI g 620 on), ((q 17), aI g 620 tw), ((q 22), aI g 320 fc), ((q 23), aI g 320 fq), ((q 27), aI g 160 fl), ((q 28), aI g 160 pl), ((q 29), aI g 160 na), ((q 30), aI g 160 ty), ((q 31), aI g 160 ca), (h0, .inr (10, mob q rf n mm mb u96.1 u96.2 av ev wi mn tp tc sc nf fd me mp xn mt wh tq ag an ig))] := hD
                  have hP : va_P g.1 classes [(h0, .inr (10, mob q rf n mm mb u96.1 u96.2 av ev wi mn tp tc sc nf fd me mp xn mt wh tq ag an ig)), ((q 2), aI g 600 bs), ((q 14), aI g 620 tg), ((q 15), aI g 620 tl), ((q 16), aI g 620 on), ((q 17), aI g 620 tw), ((q 22), aI g 320 fc), ((q 23), aI g 320 fq), ((q 27), aI g 160 fl), ((q 28), aI g 160 pl), ((q 29), aI g 160 na), ((q 30), aI g 160 ty), ((q 31), aI g 160 ca)] H := hP.sub [12, 0, 1, 2, 3, 4, 5, 6, 7, 8, 9, 10, 11] rfl
                  have hD : va_D A [(h0, .inr (10, mob q rf n mm mb u96.1 u96.2 av ev wi mn tp tc sc nf fd me mp xn mt wh tq ag an ig)), ((q 2), aI g 600 bs), ((q 14), aI g 620 tg), ((q 15), aI g 620 tl), ((q 16), aI g 620 on), ((q 17), aI g 620 tw), ((q 22), aI g 320 fc), ((q 23), aI g 320 fq), ((q 27), aI g 160 fl), ((q 28), aI g 160 pl), ((q 29), aI g 160 na), ((q 30), aI g 160 ty), ((q 31), aI g 160 ca)] := hD.sub [12, 0, 1, 2, 3, 4, 5, 6, 7, 8, 9, 10, 11] (by decide) rfl
                  have hp96_0 := hr95
                  refine lv_aload_n hx hb d_Mod_link_101 rfl (lv_at hl 1 rfl) ?_
                  refine lv_aload_n hx hb d_Mod_link_102 rfl (lv_at hl 1 rfl) ?_
                  refine va_get (D := g.1) (ci := 10) (v := .int sc) (C := R_Mod) (T := F_Mod) (N := 61) hx hb hts in_Mod hown hK hP 0 rfl rfl 20 (by decide) (hts _ wd_1270) (fun _ h9 => h9) rfl d_Mod_link_103 ?_
                  refine lv_bipush (v := 7) hx hb d_Mod_link_106 (by decide) ?_
                  refine tw_si (tw_runV (ws := [(h0, .inr (10, mob q rf n mm mb u96.1 u96.2 av ev wi mn tp tc sc nf fd me mp xn mt wh tq ag an ig)), ((q 2), aI g 600 bs), ((q 14), aI g 620 tg), ((q 15), aI g 620 tl), ((q 16), aI g 620 on), ((q 17), aI g 620 tw), ((q 22), aI g 320 fc), ((q 23), aI g 320 fq), ((q 27), aI g 160 fl), ((q 28), aI g 160 pl), ((q 29), aI g 160 na), ((q 30), aI g 160 ty), ((q 31), aI g 160 ca)]) (wc := [(h0, .inr (10, mob q rf n mm mb u96.1 u96.2 av ev wi mn tp tc sc nf fd me mp xn mt wh tq ag an ig)), ((q 14), aI g 620 tg)]) (As := [.int sc, .int 7]) (rest := []) E hB hK hZ (g_Mod_isTagI l g H.size h0 q rf n mm mb u96.1 u96.2 av ev wi mn tp tc sc nf fd me mp xn mt wh tq ag an ig tg sc 7 (by omega)) mc_Mod_isTag mi_Mod_isTag me_Mod_isTag wd_1508 hP hD hS hA [0, 2] rfl (by decide) 0 rfl rfl rfl rfl rfl (by decide) rfl hl.1 rfl (Nat.le_of_ble_eq_true rfl) (by decide) d_Mod_link_108) (fun r97 hr97 => ?_)
                  have hB97 := hr97
                  refine lv_if_ne (tgt := 126) hx hb d_Mod_link_111 (by decide) (fun h111 => ?_) (fun h111 => ?_)
                  · have hT111 := hB97.2 (hB97.1.resolve_left h111)
                    refine lv_iconst (v := 0) hx hb d_Mod_link_126 (by decide) ?_
                    refine lv_istore_n hx hb d_Mod_link_127 rfl hl (by decide) rfl (fun ls hl => ?_)
                    have hl : lv_has ls 2 [(1, .int 0), (0, .ref h0)] := hl
                    have loop128 : ∀ (kq : Nat) (i : Nat) (fa7 : Int32) (fp7 : Int32) (ls : Array Slot) (H : Heap) (locs : List Loc) , nf - i = kq → (hc7 : fa7 = 0 → u96.1 = 0) → (hui7 : i ≤ 700) → (hFCk : fa7 = 0 → ∀ j, j < i → TGv mn tg 7 (fc j)) → lv_has ls 2 [(1, .int (nI i)), (0, .ref h0)] → va_P g.1 classes [(h0, .inr (10, mob q rf n mm mb fa7 fp7 av ev wi mn tp tc sc nf fd me mp xn mt wh tq ag an ig)), ((q 2), aI g 600 bs), ((q 14), aI g 620 tg), ((q 15), aI g 620 tl), ((q 16), aI g 620 on), ((q 17), aI g 620 tw), ((q 22), aI g 320 fc), ((q 23), aI g 320 fq), ((q 27), aI g 160 fl), ((q 28), aI g 160 pl), ((q 29), aI g 160 na), ((q 30), aI g 160 ty), ((q 31), aI g 160 ca)] H → va_D A [(h0, .inr (10, mob q rf n mm mb fa7 fp7 av ev wi mn tp tc sc nf fd me mp xn mt wh tq ag an ig)), ((q 2), aI g 600 bs), ((q 14), aI g 620 tg), ((q 15), aI g 620 tl), ((q 16), aI g 620 on), ((q 17), aI g 620 tw), ((q 22), aI g 320 fc), ((q 23), aI g 320 fq), ((q 27), aI g 160 fl), ((q 28), aI g 160 pl), ((q 29), aI g 160 na), ((q 30), aI g 160 ty), ((q 31), aI g 160 ca)] → va_S A s.heap H locs → W p l e ({ frames := 7, cells := 0, slots := 0, locals := 164 }) s m [.ref h0].toArray below meth c H locs 0 0 (MQ below (tw_Qv g (fun (u : Int32 × Int32) => (u.1 = 0 → fa = 0) ∧ (u.1 = 0 → LCA mn tg on tw) ∧ (u.1 = 0 → ∀ j, 0 < j → j < mn → MC1 bs tg on tw j) ∧ (u.1 = 0 → TGv mn tg 7 tc) ∧ (u.1 = 0 → TGv mn tg 7 sc) ∧ (u.1 = 0 → ∀ j, j < nf → TGv mn tg 7 (fc j)) ∧ (u.1 = 0 → ∀ j, j < me → LMB bs mn tg on tw fd na ty j)) (fun u : Int32 × Int32 => [(h0, .inr (10, mob q rf n mm mb u.1 u.2 av ev wi mn tp tc sc nf fd me mp xn mt wh tq ag an ig)), ((q 2), aI g 600 bs), ((q 14), aI g 620 tg), ((q 15), aI g 620 tl), ((q 16), aI g 620 on), ((q 17), aI g 620 tw), ((q 22), aI g 320 fc), ((q 23), aI g 320 fq), ((q 27), aI g 160 fl), ((q 28), aI g 160 pl), ((q 29), aI g 160 na), ((q 30), aI g 160 ty), ((q 31), aI g 160 ca)]) A) [.ref h0].toArray s 0 0 A) (F0 m 128 ls []) := by
                      intro kq
                      induction kq using Nat.strongRecOn with
                      | _ kq ih128 =>
                        intro i fa7 fp7 ls H locs hk128 hc7 hui7 hFCk hl hP hD hS
                        refine lv_iload_n hx hb d_Mod_link_128 rfl (lv_at hl 0 rfl) ?_
                        refine lv_aload_n hx hb d_Mod_link_129 rfl (lv_at hl 1 rfl) ?_
                        refine va_get (D := g.1) (ci := 10) (v := .int (nI nf)) (C := R_Mod) (T := F_Mod) (N := 61) hx hb hts in_Mod hown hK hP 0 rfl rfl 21 (by decide) (hts _ wd_1271) (fun _ h9 => h9) rfl d_Mod_link_130 ?_
                        refine lv_icmp_ge (tgt := 176) hx hb d_Mod_link_133 (by decide) (fun h133 => ?_) (fun h133 => ?_)
                        · have h133 := tn_le h133 (by omega) (by omega)
                          refine lv_iconst (v := 0) hx hb d_Mod_link_176 (by decide) ?_
                          refine lv_istore_n hx hb d_Mod_link_177 rfl hl (by decide) rfl (fun ls hl => ?_)
                          have hl : lv_has ls 2 [(1, .int 0), (0, .ref h0)] := hl
                          have loop178 : ∀ (kq : Nat) (i : Nat) (fa6 : Int32) (fp6 : Int32) (ls : Array Slot) (H : Heap) (locs : List Loc) , me - i = kq → (hc6 : fa6 = 0 → fa7 = 0) → (hui6 : i ≤ 700) → (hLMk : fa6 = 0 → ∀ j, j < i → LMB bs mn tg on tw fd na ty j) → lv_has ls 2 [(1, .int (nI i)), (0, .ref h0)] → va_P g.1 classes [(h0, .inr (10, mob q rf n mm mb fa6 fp6 av ev wi mn tp tc sc nf fd me mp xn mt wh tq ag an ig)), ((q 2), aI g 600 bs), ((q 14), aI g 620 tg), ((q 15), aI g 620 tl), ((q 16), aI g 620 on), ((q 17), aI g 620 tw), ((q 22), aI g 320 fc), ((q 23), aI g 320 fq), ((q 27), aI g 160 fl), ((q 28), aI g 160 pl), ((q 29), aI g 160 na), ((q 30), aI g 160 ty), ((q 31), aI g 160 ca)] H → va_D A [(h0, .inr (10, mob q rf n mm mb fa6 fp6 av ev wi mn tp tc sc nf fd me mp xn mt wh tq ag an ig)), ((q 2), aI g 600 bs), ((q 14), aI g 620 tg), ((q 15), aI g 620 tl), ((q 16), aI g 620 on), ((q 17), aI g 620 tw), ((q 22), aI g 320 fc), ((q 23), aI g 320 fq), ((q 27), aI g 160 fl), ((q 28), aI g 160 pl), ((q 29), aI g 160 na), ((q 30), aI g 160 ty), ((q 31), aI g 160 ca)] → va_S A s.heap H locs → W p l e ({ frames := 7, cells := 0, slots := 0, locals := 164 }) s m [.ref h0].toArray below meth c H locs 0 0 (MQ below (tw_Qv g (fun (u : Int32 × Int32) => (u.1 = 0 → fa = 0) ∧ (u.1 = 0 → LCA mn tg on tw) ∧ (u.1 = 0 → ∀ j, 0 < j → j < mn → MC1 bs tg on tw j) ∧ (u.1 = 0 → TGv mn tg 7 tc) ∧ (u.1 = 0 → TGv mn tg 7 sc) ∧ (u.1 = 0 → ∀ j, j < nf → TGv mn tg 7 (fc j)) ∧ (u.1 = 0 → ∀ j, j < me → LMB bs mn tg on tw fd na ty j)) (fun u : Int32 × Int32 => [(h0, .inr (10, mob q rf n mm mb u.1 u.2 av ev wi mn tp tc sc nf fd me mp xn mt wh tq ag an ig)), ((q 2), aI g 600 bs), ((q 14), aI g 620 tg), ((q 15), aI g 620 tl), ((q 16), aI g 620 on), ((q 17), aI g 620 tw), ((q 22), aI g 320 fc), ((q 23), aI g 320 fq), ((q 27), aI g 160 fl), ((q 28), aI g 160 pl), ((q 29), aI g 160 na), ((q 30), aI g 160 ty), ((q 31), aI g 160 ca)]) A) [.ref h0].toArray s 0 0 A) (F0 m 178 ls []) := by
                            intro kq
                            induction kq using Nat.strongRecOn with
                            | _ kq ih178 =>
                              intro i fa6 fp6 ls H locs hk178 hc6 hui6 hLMk hl hP hD hS
                              refine lv_iload_n hx hb d_Mod_link_178 rfl (lv_at hl 0 rfl) ?_
                              refine lv_aload_n hx hb d_Mod_link_179 rfl (lv_at hl 1 rfl) ?_
                              refine va_get (D := g.1) (ci := 10) (v := .int (nI me)) (C := R_Mod) (T := F_Mod) (N := 61) hx hb hts in_Mod hown hK hP 0 rfl rfl 25 (by decide) (hts _ wd_1275) (fun _ h9 => h9) rfl d_Mod_link_180 ?_
                              refine lv_icmp_ge (tgt := 204) hx hb d_Mod_link_183 (by decide) (fun h183 => ?_) (fun h183 => ?_)
                              · have h183 := tn_le h183 (by omega) (by omega)
                                exact tw_vret E hS (fa6, fp6) (⟨(fun h => absurd h (fun h => (fun h => hp96_0 (hc7 h)) (hc6 h))), (fun h => absurd h (fun h => (fun h => hp96_0 (hc7 h)) (hc6 h))), (fun h => absurd h (fun h => (fun h => hp96_0 (hc7 h)) (hc6 h))), (fun h => absurd h (fun h => (fun h => hp96_0 (hc7 h)) (hc6 h))), (fun h => absurd h (fun h => (fun h => hp96_0 (hc7 h)) (hc6 h))), (fun h => absurd h (fun h => (fun h => hp96_0 (hc7 h)) (hc6 h))), (fun h => absurd h (fun h => (fun h => hp96_0 (hc7 h)) (hc6 h)))⟩) hP hD d_Mod_link_204
                              · have h183 := tn_nle h183 (by omega) (by omega)
                                refine lv_aload_n hx hb d_Mod_link_186 rfl (lv_at hl 1 rfl) ?_
                                refine va_get (D := g.1) (ci := 10) (v := .int fa6) (C := R_Mod) (T := F_Mod) (N := 61) hx hb hts in_Mod hown hK hP 0 rfl rfl 8 (by decide) (hts _ wd_1258) (fun _ h9 => h9) rfl d_Mod_link_187 ?_
                                refine lv_if_ne (tgt := 204) hx hb d_Mod_link_190 (by decide) (fun h190 => ?_) (fun h190 => ?_)
                                · exact tw_vret E hS (fa6, fp6) (⟨(fun h => absurd h h190), (fun h => absurd h h190), (fun h => absurd h h190), (fun h => absurd h h190), (fun h => absurd h h190), (fun h => absurd h h190), (fun h => absurd h h190)⟩) hP hD d_Mod_link_204
                                · exact absurd h190 (fun h => (fun h => hp96_0 (hc7 h)) (hc6 h))
                          exact loop178 _ 0 fa7 fp7 ls _ _ rfl (fun h => h) (by omega) (fun _ j h2 => absurd h2 (Nat.not_lt_zero j)) (hl) hP hD hS
                        · have h133 := tn_nle h133 (by omega) (by omega)
                          refine lv_aload_n hx hb d_Mod_link_136 rfl (lv_at hl 1 rfl) ?_
                          refine va_get (D := g.1) (ci := 10) (v := .int fa7) (C := R_Mod) (T := F_Mod) (N := 61) hx hb hts in_Mod hown hK hP 0 rfl rfl 8 (by decide) (hts _ wd_1258) (fun _ h9 => h9) rfl d_Mod_link_137 ?_
                          refine lv_if_ne (tgt := 176) hx hb d_Mod_link_140 (by decide) (fun h140 => ?_) (fun h140 => ?_)
                          · refine lv_iconst (v := 0) hx hb d_Mod_link_176 (by decide) ?_
                            refine lv_istore_n hx hb d_Mod_link_177 rfl hl (by decide) rfl (fun ls hl => ?_)
                            have hl : lv_has ls 2 [(1, .int 0), (0, .ref h0)] := hl
                            have loop178 : ∀ (kq : Nat) (i : Nat) (fa6 : Int32) (fp6 : Int32) (ls : Array Slot) (H : Heap) (locs : List Loc) , me - i = kq → (hc6 : fa6 = 0 → fa7 = 0) → (hui6 : i ≤ 700) → (hLMk : fa6 = 0 → ∀ j, j < i → LMB bs mn tg on tw fd na ty j) → lv_has ls 2 [(1, .int (nI i)), (0, .ref h0)] → va_P g.1 classes [(h0, .inr (10, mob q rf n mm mb fa6 fp6 av ev wi mn tp tc sc nf fd me mp xn mt wh tq ag an ig)), ((q 2), aI g 600 bs), ((q 14), aI g 620 tg), ((q 15), aI g 620 tl), ((q 16), aI g 620 on), ((q 17), aI g 620 tw), ((q 22), aI g 320 fc), ((q 23), aI g 320 fq), ((q 27), aI g 160 fl), ((q 28), aI g 160 pl), ((q 29), aI g 160 na), ((q 30), aI g 160 ty), ((q 31), aI g 160 ca)] H → va_D A [(h0, .inr (10, mob q rf n mm mb fa6 fp6 av ev wi mn tp tc sc nf fd me mp xn mt wh tq ag an ig)), ((q 2), aI g 600 bs), ((q 14), aI g 620 tg), ((q 15), aI g 620 tl), ((q 16), aI g 620 on), ((q 17), aI g 620 tw), ((q 22), aI g 320 fc), ((q 23), aI g 320 fq), ((q 27), aI g 160 fl), ((q 28), aI g 160 pl), ((q 29), aI g 160 na), ((q 30), aI g 160 ty), ((q 31), aI g 160 ca)] → va_S A s.heap H locs → W p l e ({ frames := 7, cells := 0, slots := 0, locals := 164 }) s m [.ref h0].toArray below meth c H locs 0 0 (MQ below (tw_Qv g (fun (u : Int32 × Int32) => (u.1 = 0 → fa = 0) ∧ (u.1 = 0 → LCA mn tg on tw) ∧ (u.1 = 0 → ∀ j, 0 < j → j < mn → MC1 bs tg on tw j) ∧ (u.1 = 0 → TGv mn tg 7 tc) ∧ (u.1 = 0 → TGv mn tg 7 sc) ∧ (u.1 = 0 → ∀ j, j < nf → TGv mn tg 7 (fc j)) ∧ (u.1 = 0 → ∀ j, j < me → LMB bs mn tg on tw fd na ty j)) (fun u : Int32 × Int32 => [(h0, .inr (10, mob q rf n mm mb u.1 u.2 av ev wi mn tp tc sc nf fd me mp xn mt wh tq ag an ig)), ((q 2), aI g 600 bs), ((q 14), aI g 620 tg), ((q 15), aI g 620 tl), ((q 16), aI g 620 on), ((q 17), aI g 620 tw), ((q 22), aI g 320 fc), ((q 23), aI g 320 fq), ((q 27), aI g 160 fl), ((q 28), aI g 160 pl), ((q 29), aI g 160 na), ((q 30), aI g 160 ty), ((q 31), aI g 160 ca)]) A) [.ref h0].toArray s 0 0 A) (F0 m 178 ls []) := by
                              intro kq
                              induction kq using Nat.strongRecOn with
                              | _ kq ih178 =>
                                intro i fa6 fp6 ls H locs hk178 hc6 hui6 hLMk hl hP hD hS
                                refine lv_iload_n hx hb d_Mod_link_178 rfl (lv_at hl 0 rfl) ?_
                                refine lv_aload_n hx hb d_Mod_link_179 rfl (lv_at hl 1 rfl) ?_
                                refine va_get (D := g.1) (ci := 10) (v := .int (nI me)) (C := R_Mod) (T := F_Mod) (N := 61) hx hb hts in_Mod hown hK hP 0 rfl rfl 25 (by decide) (hts _ wd_1275) (fun _ h9 => h9) rfl d_Mod_link_180 ?_
                                refine lv_icmp_ge (tgt := 204) hx hb d_Mod_link_183 (by decide) (fun h183 => ?_) (fun h183 => ?_)
                                · have h183 := tn_le h183 (by omega) (by omega)
                                  exact tw_vret E hS (fa6, fp6) (⟨(fun h => absurd h (fun h => h140 (hc6 h))), (fun h => absurd h (fun h => h140 (hc6 h))), (fun h => absurd h (fun h => h140 (hc6 h))), (fun h => absurd h (fun h => h140 (hc6 h))), (fun h => absurd h (fun h => h140 (hc6 h))), (fun h => absurd h (fun h => h140 (hc6 h))), (fun h => absurd h (fun h => h140 (hc6 h)))⟩) hP hD d_Mod_link_204
                                · have h183 := tn_nle h183 (by omega) (by omega)
                                  refine lv_aload_n hx hb d_Mod_link_186 rfl (lv_at hl 1 rfl) ?_
                                  refine va_get (D := g.1) (ci := 10) (v := .int fa6) (C := R_Mod) (T := F_Mod) (N := 61) hx hb hts in_Mod hown hK hP 0 rfl rfl 8 (by decide) (hts _ wd_1258) (fun _ h9 => h9) rfl d_Mod_link_187 ?_
                                  refine lv_if_ne (tgt := 204) hx hb d_Mod_link_190 (by decide) (fun h190 => ?_) (fun h190 => ?_)
                                  · exact tw_vret E hS (fa6, fp6) (⟨(fun h => absurd h h190), (fun h => absurd h h190), (fun h => absurd h h190), (fun h => absurd h h190), (fun h => absurd h h190), (fun h => absurd h h190), (fun h => absurd h h190)⟩) hP hD d_Mod_link_204
                                  · exact absurd h190 (fun h => h140 (hc6 h))
                            exact loop178 _ 0 fa7 fp7 ls _ _ rfl (fun h => h) (by omega) (fun _ j h2 => absurd h2 (Nat.not_lt_zero j)) (hl) hP hD hS
                          · exact absurd h140 (fun h => hp96_0 (hc7 h))
                    exact loop128 _ 0 u96.1 u96.2 ls _ _ rfl (fun h => h) (by omega) (fun _ j h2 => absurd h2 (Nat.not_lt_zero j)) (hl) hP hD hS
                  · refine lv_aload_n hx hb d_Mod_link_114 rfl (lv_at hl 1 rfl) ?_
                    refine lv_bipush (v := 6) hx hb d_Mod_link_115 (by decide) ?_
                    refine lv_aload_n hx hb d_Mod_link_117 rfl (lv_at hl 1 rfl) ?_
                    refine va_get (D := g.1) (ci := 10) (v := .int tp) (C := R_Mod) (T := F_Mod) (N := 61) hx hb hts in_Mod hown hK hP 0 rfl rfl 18 (by decide) (hts _ wd_1268) (fun _ h9 => h9) rfl d_Mod_link_118 ?_
                    refine lv_iconst (v := 2) hx hb d_Mod_link_121 (by decide) ?_
                    refine lv_iadd hx hb d_Mod_link_122 ?_
                    obtain ⟨x98, ex98⟩ : ∃ z : Int32, tp + 2 = z := ⟨_, rfl⟩
                    refine tw_ri (e2 := x98) ex98 ?_
                    refine tw_wv (wr := [((q 2), aI g 600 bs), ((q 14), aI g 620 tg), ((q 15), aI g 620 tl), ((q 16), aI g 620 on), ((q 17), aI g 620 tw), ((q 22), aI g 320 fc), ((q 23), aI g 320 fq), ((q 27), aI g 160 fl), ((q 28), aI g 160 pl), ((q 29), aI g 160 na), ((q 30), aI g 160 ty), ((q 31), aI g 160 ca)]) (tw_runV (ws := [(h0, .inr (10, mob q rf n mm mb u96.1 u96.2 av ev wi mn tp tc sc nf fd me mp xn mt wh tq ag an ig)), ((q 2), aI g 600 bs), ((q 14), aI g 620 tg), ((q 15), aI g 620 tl), ((q 16), aI g 620 on), ((q 17), aI g 620 tw), ((q 22), aI g 320 fc), ((q 23), aI g 320 fq), ((q 27), aI g 160 fl), ((q 28), aI g 160 pl), ((q 29), aI g 160 na), ((q 30), aI g 160 ty), ((q 31), aI g 160 ca)]) (wc := [(h0, .inr (10, mob q rf n mm mb u96.1 u96.2 av ev wi mn tp tc sc nf fd me mp xn mt wh tq ag an ig))]) (As := [.int 6, .int x98]) (rest := []) E hB hK hZ (g_Mod_fail l g H.size h0 q rf n mm mb av ev wi mn tp tc sc nf fd me mp xn mt wh tq ag an ig u96.1 u96.2 6 x98 (by decide)) mc_Mod_fail mi_Mod_fail me_Mod_fail wd_1478 hP hD hS hA [0] rfl (by decide) 0 rfl rfl rfl rfl rfl (by decide) rfl hl.1 rfl (Nat.le_of_ble_eq_true rfl) (by decide) d_Mod_link_123) hP hD hS hA [0] [1, 2, 3, 4, 5, 6, 7, 8, 9, 10, 11, 12] rfl rfl (by decide) (by decide) (fun u100 H locs hr99 hP hD hS => ?_)
                    try dsimp only at hr99
                    have hP : va_P g.1 classes [((q 2), aI g 600 bs), ((q 14), aI g 620 tg), ((q 15), aI g 620 tl), ((q 16), aI g 620 on), ((q 17), aI g 620 tw), ((q 22), aI g 320 fc), ((q 23), aI g 320 fq), ((q 27), aI g 160 fl), ((q 28), aI g 160 pl), ((q 29), aI g 160 na), ((q 30), aI g 160 ty), ((q 31), aI g 160 ca), (h0, .inr (10, mob q rf n mm mb u100.1 u100.2 av ev wi mn tp tc sc nf fd me mp xn mt wh tq ag an ig))] H := hP
                    have hD : va_D A [((q 2), aI g 600 bs), ((q 14), aI g 620 tg), ((q 15), aI g 620 tl), ((q 16), aI g 620 on), ((q 17), aI g 620 tw), ((q 22), aI g 320 fc), ((q 23), aI g 320 fq), ((q 27), aI g 160 fl), ((q 28), aI g 160 pl), ((q 29), aI g 160 na), ((q 30), aI g 160 ty), ((q 31), aI g 160 ca), (h0, .inr (10, mob q rf n mm mb u100.1 u100.2 av ev wi mn tp tc sc nf fd me mp xn mt wh tq ag an ig))] := hD
                    have hP : va_P g.1 classes [(h0, .inr (10, mob q rf n mm mb u100.1 u100.2 av ev wi mn tp tc sc nf fd me mp xn mt wh tq ag an ig)), ((q 2), aI g 600 bs), ((q 14), aI g 620 tg), ((q 15), aI g 620 tl), ((q 16), aI g 620 on), ((q 17), aI g 620 tw), ((q 22), aI g 320 fc), ((q 23), aI g 320 fq), ((q 27), aI g 160 fl), ((q 28), aI g 160 pl), ((q 29), aI g 160 na), ((q 30), aI g 160 ty), ((q 31), aI g 160 ca)] H := hP.sub [12, 0, 1, 2, 3, 4, 5, 6, 7, 8, 9, 10, 11] rfl
                    have hD : va_D A [(h0, .inr (10, mob q rf n mm mb u100.1 u100.2 av ev wi mn tp tc sc nf fd me mp xn mt wh tq ag an ig)), ((q 2), aI g 600 bs), ((q 14), aI g 620 tg), ((q 15), aI g 620 tl), ((q 16), aI g 620 on), ((q 17), aI g 620 tw), ((q 22), aI g 320 fc), ((q 23), aI g 320 fq), ((q 27), aI g 160 fl), ((q 28), aI g 160 pl), ((q 29), aI g 160 na), ((q 30), aI g 160 ty), ((q 31), aI g 160 ca)] := hD.sub [12, 0, 1, 2, 3, 4, 5, 6, 7, 8, 9, 10, 11] (by decide) rfl
                    have hp100_0 := hr99
                    refine lv_iconst (v := 0) hx hb d_Mod_link_126 (by decide) ?_
                    refine lv_istore_n hx hb d_Mod_link_127 rfl hl (by decide) rfl (fun ls hl => ?_)
                    have hl : lv_has ls 2 [(1, .int 0), (0, .ref h0)] := hl
                    have loop128 : ∀ (kq : Nat) (i : Nat) (fa7 : Int32) (fp7 : Int32) (ls : Array Slot) (H : Heap) (locs : List Loc) , nf - i = kq → (hc7 : fa7 = 0 → u100.1 = 0) → (hui7 : i ≤ 700) → (hFCk : fa7 = 0 → ∀ j, j < i → TGv mn tg 7 (fc j)) → lv_has ls 2 [(1, .int (nI i)), (0, .ref h0)] → va_P g.1 classes [(h0, .inr (10, mob q rf n mm mb fa7 fp7 av ev wi mn tp tc sc nf fd me mp xn mt wh tq ag an ig)), ((q 2), aI g 600 bs), ((q 14), aI g 620 tg), ((q 15), aI g 620 tl), ((q 16), aI g 620 on), ((q 17), aI g 620 tw), ((q 22), aI g 320 fc), ((q 23), aI g 320 fq), ((q 27), aI g 160 fl), ((q 28), aI g 160 pl), ((q 29), aI g 160 na), ((q 30), aI g 160 ty), ((q 31), aI g 160 ca)] H → va_D A [(h0, .inr (10, mob q rf n mm mb fa7 fp7 av ev wi mn tp tc sc nf fd me mp xn mt wh tq ag an ig)), ((q 2), aI g 600 bs), ((q 14), aI g 620 tg), ((q 15), aI g 620 tl), ((q 16), aI g 620 on), ((q 17), aI g 620 tw), ((q 22), aI g 320 fc), ((q 23), aI g 320 fq), ((q 27), aI g 160 fl), ((q 28), aI g 160 pl), ((q 29), aI g 160 na), ((q 30), aI g 160 ty), ((q 31), aI g 160 ca)] → va_S A s.heap H locs → W p l e ({ frames := 7, cells := 0, slots := 0, locals := 164 }) s m [.ref h0].toArray below meth c H locs 0 0 (MQ below (tw_Qv g (fun (u : Int32 × Int32) => (u.1 = 0 → fa = 0) ∧ (u.1 = 0 → LCA mn tg on tw) ∧ (u.1 = 0 → ∀ j, 0 < j → j < mn → MC1 bs tg on tw j) ∧ (u.1 = 0 → TGv mn tg 7 tc) ∧ (u.1 = 0 → TGv mn tg 7 sc) ∧ (u.1 = 0 → ∀ j, j < nf → TGv mn tg 7 (fc j)) ∧ (u.1 = 0 → ∀ j, j < me → LMB bs mn tg on tw fd na ty j)) (fun u : Int32 × Int32 => [(h0, .inr (10, mob q rf n mm mb u.1 u.2 av ev wi mn tp tc sc nf fd me mp xn mt wh tq ag an ig)), ((q 2), aI g 600 bs), ((q 14), aI g 620 tg), ((q 15), aI g 620 tl), ((q 16), aI g 620 on), ((q 17), aI g 620 tw), ((q 22), aI g 320 fc), ((q 23), aI g 320 fq), ((q 27), aI g 160 fl), ((q 28), aI g 160 pl), ((q 29), aI g 160 na), ((q 30), aI g 160 ty), ((q 31), aI g 160 ca)]) A) [.ref h0].toArray s 0 0 A) (F0 m 128 ls []) := by
                      intro kq
                      induction kq using Nat.strongRecOn with
                      | _ kq ih128 =>
                        intro i fa7 fp7 ls H locs hk128 hc7 hui7 hFCk hl hP hD hS
                        refine lv_iload_n hx hb d_Mod_link_128 rfl (lv_at hl 0 rfl) ?_
                        refine lv_aload_n hx hb d_Mod_link_129 rfl (lv_at hl 1 rfl) ?_
                        refine va_get (D := g.1) (ci := 10) (v := .int (nI nf)) (C := R_Mod) (T := F_Mod) (N := 61) hx hb hts in_Mod hown hK hP 0 rfl rfl 21 (by decide) (hts _ wd_1271) (fun _ h9 => h9) rfl d_Mod_link_130 ?_
                        refine lv_icmp_ge (tgt := 176) hx hb d_Mod_link_133 (by decide) (fun h133 => ?_) (fun h133 => ?_)
                        · have h133 := tn_le h133 (by omega) (by omega)
                          refine lv_iconst (v := 0) hx hb d_Mod_link_176 (by decide) ?_
                          refine lv_istore_n hx hb d_Mod_link_177 rfl hl (by decide) rfl (fun ls hl => ?_)
                          have hl : lv_has ls 2 [(1, .int 0), (0, .ref h0)] := hl
                          have loop178 : ∀ (kq : Nat) (i : Nat) (fa6 : Int32) (fp6 : Int32) (ls : Array Slot) (H : Heap) (locs : List Loc) , me - i = kq → (hc6 : fa6 = 0 → fa7 = 0) → (hui6 : i ≤ 700) → (hLMk : fa6 = 0 → ∀ j, j < i → LMB bs mn tg on tw fd na ty j) → lv_has ls 2 [(1, .int (nI i)), (0, .ref h0)] → va_P g.1 classes [(h0, .inr (10, mob q rf n mm mb fa6 fp6 av ev wi mn tp tc sc nf fd me mp xn mt wh tq ag an ig)), ((q 2), aI g 600 bs), ((q 14), aI g 620 tg), ((q 15), aI g 620 tl), ((q 16), aI g 620 on), ((q 17), aI g 620 tw), ((q 22), aI g 320 fc), ((q 23), aI g 320 fq), ((q 27), aI g 160 fl), ((q 28), aI g 160 pl), ((q 29), aI g 160 na), ((q 30), aI g 160 ty), ((q 31), aI g 160 ca)] H → va_D A [(h0, .inr (10, mob q rf n mm mb fa6 fp6 av ev wi mn tp tc sc nf fd me mp xn mt wh tq ag an ig)), ((q 2), aI g 600 bs), ((q 14), aI g 620 tg), ((q 15), aI g 620 tl), ((q 16), aI g 620 on), ((q 17), aI g 620 tw), ((q 22), aI g 320 fc), ((q 23), aI g 320 fq), ((q 27), aI g 160 fl), ((q 28), aI g 160 pl), ((q 29), aI g 160 na), ((q 30), aI g 160 ty), ((q 31), aI g 160 ca)] → va_S A s.heap H locs → W p l e ({ frames := 7, cells := 0, slots := 0, locals := 164 }) s m [.ref h0].toArray below meth c H locs 0 0 (MQ below (tw_Qv g (fun (u : Int32 × Int32) => (u.1 = 0 → fa = 0) ∧ (u.1 = 0 → LCA mn tg on tw) ∧ (u.1 = 0 → ∀ j, 0 < j → j < mn → MC1 bs tg on tw j) ∧ (u.1 = 0 → TGv mn tg 7 tc) ∧ (u.1 = 0 → TGv mn tg 7 sc) ∧ (u.1 = 0 → ∀ j, j < nf → TGv mn tg 7 (fc j)) ∧ (u.1 = 0 → ∀ j, j < me → LMB bs mn tg on tw fd na ty j)) (fun u : Int32 × Int32 => [(h0, .inr (10, mob q rf n mm mb u.1 u.2 av ev wi mn tp tc sc nf fd me mp xn mt wh tq ag an ig)), ((q 2), aI g 600 bs), ((q 14), aI g 620 tg), ((q 15), aI g 620 tl), ((q 16), aI g 620 on), ((q 17), aI g 620 tw), ((q 22), aI g 320 fc), ((q 23), aI g 320 fq), ((q 27), aI g 160 fl), ((q 28), aI g 160 pl), ((q 29), aI g 160 na), ((q 30), aI g 160 ty), ((q 31), aI g 160 ca)]) A) [.ref h0].toArray s 0 0 A) (F0 m 178 ls []) := by
                            intro kq
                            induction kq using Nat.strongRecOn with
                            | _ kq ih178 =>
                              intro i fa6 fp6 ls H locs hk178 hc6 hui6 hLMk hl hP hD hS
                              refine lv_iload_n hx hb d_Mod_link_178 rfl (lv_at hl 0 rfl) ?_
                              refine lv_aload_n hx hb d_Mod_link_179 rfl (lv_at hl 1 rfl) ?_
                              refine va_get (D := g.1) (ci := 10) (v := .int (nI me)) (C := R_Mod) (T := F_Mod) (N := 61) hx hb hts in_Mod hown hK hP 0 rfl rfl 25 (by decide) (hts _ wd_1275) (fun _ h9 => h9) rfl d_Mod_link_180 ?_
                              refine lv_icmp_ge (tgt := 204) hx hb d_Mod_link_183 (by decide) (fun h183 => ?_) (fun h183 => ?_)
                              · have h183 := tn_le h183 (by omega) (by omega)
                                exact tw_vret E hS (fa6, fp6) (⟨(fun h => absurd h (fun h => (fun h => hp100_0 (hc7 h)) (hc6 h))), (fun h => absurd h (fun h => (fun h => hp100_0 (hc7 h)) (hc6 h))), (fun h => absurd h (fun h => (fun h => hp100_0 (hc7 h)) (hc6 h))), (fun h => absurd h (fun h => (fun h => hp100_0 (hc7 h)) (hc6 h))), (fun h => absurd h (fun h => (fun h => hp100_0 (hc7 h)) (hc6 h))), (fun h => absurd h (fun h => (fun h => hp100_0 (hc7 h)) (hc6 h))), (fun h => absurd h (fun h => (fun h => hp100_0 (hc7 h)) (hc6 h)))⟩) hP hD d_Mod_link_204
                              · have h183 := tn_nle h183 (by omega) (by omega)
                                refine lv_aload_n hx hb d_Mod_link_186 rfl (lv_at hl 1 rfl) ?_
                                refine va_get (D := g.1) (ci := 10) (v := .int fa6) (C := R_Mod) (T := F_Mod) (N := 61) hx hb hts in_Mod hown hK hP 0 rfl rfl 8 (by decide) (hts _ wd_1258) (fun _ h9 => h9) rfl d_Mod_link_187 ?_
                                refine lv_if_ne (tgt := 204) hx hb d_Mod_link_190 (by decide) (fun h190 => ?_) (fun h190 => ?_)
                                · exact tw_vret E hS (fa6, fp6) (⟨(fun h => absurd h h190), (fun h => absurd h h190), (fun h => absurd h h190), (fun h => absurd h h190), (fun h => absurd h h190), (fun h => absurd h h190), (fun h => absurd h h190)⟩) hP hD d_Mod_link_204
                                · exact absurd h190 (fun h => (fun h => hp100_0 (hc7 h)) (hc6 h))
                          exact loop178 _ 0 fa7 fp7 ls _ _ rfl (fun h => h) (by omega) (fun _ j h2 => absurd h2 (Nat.not_lt_zero j)) (hl) hP hD hS
                        · have h133 := tn_nle h133 (by omega) (by omega)
                          refine lv_aload_n hx hb d_Mod_link_136 rfl (lv_at hl 1 rfl) ?_
                          refine va_get (D := g.1) (ci := 10) (v := .int fa7) (C := R_Mod) (T := F_Mod) (N := 61) hx hb hts in_Mod hown hK hP 0 rfl rfl 8 (by decide) (hts _ wd_1258) (fun _ h9 => h9) rfl d_Mod_link_137 ?_
                          refine lv_if_ne (tgt := 176) hx hb d_Mod_link_140 (by decide) (fun h140 => ?_) (fun h140 => ?_)
                          · refine lv_iconst (v := 0) hx hb d_Mod_link_176 (by decide) ?_
                            refine lv_istore_n hx hb d_Mod_link_177 rfl hl (by decide) rfl (fun ls hl => ?_)
                            have hl : lv_has ls 2 [(1, .int 0), (0, .ref h0)] := hl
                            have loop178 : ∀ (kq : Nat) (i : Nat) (fa6 : Int32) (fp6 : Int32) (ls : Array Slot) (H : Heap) (locs : List Loc) , me - i = kq → (hc6 : fa6 = 0 → fa7 = 0) → (hui6 : i ≤ 700) → (hLMk : fa6 = 0 → ∀ j, j < i → LMB bs mn tg on tw fd na ty j) → lv_has ls 2 [(1, .int (nI i)), (0, .ref h0)] → va_P g.1 classes [(h0, .inr (10, mob q rf n mm mb fa6 fp6 av ev wi mn tp tc sc nf fd me mp xn mt wh tq ag an ig)), ((q 2), aI g 600 bs), ((q 14), aI g 620 tg), ((q 15), aI g 620 tl), ((q 16), aI g 620 on), ((q 17), aI g 620 tw), ((q 22), aI g 320 fc), ((q 23), aI g 320 fq), ((q 27), aI g 160 fl), ((q 28), aI g 160 pl), ((q 29), aI g 160 na), ((q 30), aI g 160 ty), ((q 31), aI g 160 ca)] H → va_D A [(h0, .inr (10, mob q rf n mm mb fa6 fp6 av ev wi mn tp tc sc nf fd me mp xn mt wh tq ag an ig)), ((q 2), aI g 600 bs), ((q 14), aI g 620 tg), ((q 15), aI g 620 tl), ((q 16), aI g 620 on), ((q 17), aI g 620 tw), ((q 22), aI g 320 fc), ((q 23), aI g 320 fq), ((q 27), aI g 160 fl), ((q 28), aI g 160 pl), ((q 29), aI g 160 na), ((q 30), aI g 160 ty), ((q 31), aI g 160 ca)] → va_S A s.heap H locs → W p l e ({ frames := 7, cells := 0, slots := 0, locals := 164 }) s m [.ref h0].toArray below meth c H locs 0 0 (MQ below (tw_Qv g (fun (u : Int32 × Int32) => (u.1 = 0 → fa = 0) ∧ (u.1 = 0 → LCA mn tg on tw) ∧ (u.1 = 0 → ∀ j, 0 < j → j < mn → MC1 bs tg on tw j) ∧ (u.1 = 0 → TGv mn tg 7 tc) ∧ (u.1 = 0 → TGv mn tg 7 sc) ∧ (u.1 = 0 → ∀ j, j < nf → TGv mn tg 7 (fc j)) ∧ (u.1 = 0 → ∀ j, j < me → LMB bs mn tg on tw fd na ty j)) (fun u : Int32 × Int32 => [(h0, .inr (10, mob q rf n mm mb u.1 u.2 av ev wi mn tp tc sc nf fd me mp xn mt wh tq ag an ig)), ((q 2), aI g 600 bs), ((q 14), aI g 620 tg), ((q 15), aI g 620 tl), ((q 16), aI g 620 on), ((q 17), aI g 620 tw), ((q 22), aI g 320 fc), ((q 23), aI g 320 fq), ((q 27), aI g 160 fl), ((q 28), aI g 160 pl), ((q 29), aI g 160 na), ((q 30), aI g 160 ty), ((q 31), aI g 160 ca)]) A) [.ref h0].toArray s 0 0 A) (F0 m 178 ls []) := by
                              intro kq
                              induction kq using Nat.strongRecOn with
                              | _ kq ih178 =>
                                intro i fa6 fp6 ls H locs hk178 hc6 hui6 hLMk hl hP hD hS
                                refine lv_iload_n hx hb d_Mod_link_178 rfl (lv_at hl 0 rfl) ?_
                                refine lv_aload_n hx hb d_Mod_link_179 rfl (lv_at hl 1 rfl) ?_
                                refine va_get (D := g.1) (ci := 10) (v := .int (nI me)) (C := R_Mod) (T := F_Mod) (N := 61) hx hb hts in_Mod hown hK hP 0 rfl rfl 25 (by decide) (hts _ wd_1275) (fun _ h9 => h9) rfl d_Mod_link_180 ?_
                                refine lv_icmp_ge (tgt := 204) hx hb d_Mod_link_183 (by decide) (fun h183 => ?_) (fun h183 => ?_)
                                · have h183 := tn_le h183 (by omega) (by omega)
                                  exact tw_vret E hS (fa6, fp6) (⟨(fun h => absurd h (fun h => h140 (hc6 h))), (fun h => absurd h (fun h => h140 (hc6 h))), (fun h => absurd h (fun h => h140 (hc6 h))), (fun h => absurd h (fun h => h140 (hc6 h))), (fun h => absurd h (fun h => h140 (hc6 h))), (fun h => absurd h (fun h => h140 (hc6 h))), (fun h => absurd h (fun h => h140 (hc6 h)))⟩) hP hD d_Mod_link_204
                                · have h183 := tn_nle h183 (by omega) (by omega)
                                  refine lv_aload_n hx hb d_Mod_link_186 rfl (lv_at hl 1 rfl) ?_
                                  refine va_get (D := g.1) (ci := 10) (v := .int fa6) (C := R_Mod) (T := F_Mod) (N := 61) hx hb hts in_Mod hown hK hP 0 rfl rfl 8 (by decide) (hts _ wd_1258) (fun _ h9 => h9) rfl d_Mod_link_187 ?_
                                  refine lv_if_ne (tgt := 204) hx hb d_Mod_link_190 (by decide) (fun h190 => ?_) (fun h190 => ?_)
                                  · exact tw_vret E hS (fa6, fp6) (⟨(fun h => absurd h h190), (fun h => absurd h h190), (fun h => absurd h h190), (fun h => absurd h h190), (fun h => absurd h h190), (fun h => absurd h h190), (fun h => absurd h h190)⟩) hP hD d_Mod_link_204
                                  · exact absurd h190 (fun h => h140 (hc6 h))
                            exact loop178 _ 0 fa7 fp7 ls _ _ rfl (fun h => h) (by omega) (fun _ j h2 => absurd h2 (Nat.not_lt_zero j)) (hl) hP hD hS
                          · exact absurd h140 (fun h => hp100_0 (hc7 h))
                    exact loop128 _ 0 u100.1 u100.2 ls _ _ rfl (fun h => h) (by omega) (fun _ j h2 => absurd h2 (Nat.not_lt_zero j)) (hl) hP hD hS
              · have hz101 := hc8 h42
                have hz102 := hc9 hz101
                have hz103 := hLCk hz101
                have hz104 := hMCk h42
                refine lv_aload_n hx hb d_Mod_link_45 rfl (lv_at hl 1 rfl) ?_
                refine va_get (D := g.1) (ci := 10) (v := .ref (q 14)) (C := R_Mod) (T := F_Mod) (N := 61) hx hb hts in_Mod hown hK hP 0 rfl rfl 14 (by decide) (hts _ wd_1264) (fun _ h9 => h9) rfl d_Mod_link_46 ?_
                refine lv_iload_n hx hb d_Mod_link_49 rfl (lv_at hl 0 rfl) ?_
                refine va_iald hx hb hK hP 2 0 rfl rfl (vp_in_nI (by omega) (by decide)) d_Mod_link_50 ?_
                refine tw_ri (e2 := tg k) (by rw [nI_clamp (by omega)]) ?_
                refine lv_bipush (v := 9) hx hb d_Mod_link_51 (by decide) ?_
                refine lv_icmp_eq (tgt := 67) hx hb d_Mod_link_53 (by decide) (fun h53 => ?_) (fun h53 => ?_)
                · refine lv_aload_n hx hb d_Mod_link_67 rfl (lv_at hl 1 rfl) ?_
                  refine lv_iload_n hx hb d_Mod_link_68 rfl (lv_at hl 0 rfl) ?_
                  refine tw_wv (wr := [((q 22), aI g 320 fc), ((q 23), aI g 320 fq), ((q 27), aI g 160 fl), ((q 28), aI g 160 pl), ((q 29), aI g 160 na), ((q 30), aI g 160 ty), ((q 31), aI g 160 ca)]) (tw_runV (ws := [(h0, .inr (10, mob q rf n mm mb fa8 fp8 av ev wi mn tp tc sc nf fd me mp xn mt wh tq ag an ig)), ((q 2), aI g 600 bs), ((q 14), aI g 620 tg), ((q 15), aI g 620 tl), ((q 16), aI g 620 on), ((q 17), aI g 620 tw), ((q 22), aI g 320 fc), ((q 23), aI g 320 fq), ((q 27), aI g 160 fl), ((q 28), aI g 160 pl), ((q 29), aI g 160 na), ((q 30), aI g 160 ty), ((q 31), aI g 160 ca)]) (wc := [(h0, .inr (10, mob q rf n mm mb fa8 fp8 av ev wi mn tp tc sc nf fd me mp xn mt wh tq ag an ig)), ((q 2), aI g 600 bs), ((q 14), aI g 620 tg), ((q 15), aI g 620 tl), ((q 16), aI g 620 on), ((q 17), aI g 620 tw)]) (As := [.int (nI k)]) (rest := []) E hB hK hZ (g_Mod_linkMemberConstant l g H.size h0 q rf n mm mb av ev wi mn tp tc sc nf fd me mp xn mt wh tq ag an ig bs tg tl on tw fa8 fp8 k (by omega) hTX (fun j h1 h2 => hz103 j h1 (by omega)) (by omega) (by omega) (Or.inl h53) h42) mc_Mod_linkMemberConstant mi_Mod_linkMemberConstant me_Mod_linkMemberConstant wd_1567 hP hD hS hA [0, 1, 2, 3, 4, 5] rfl (by decide) 0 rfl rfl rfl rfl rfl (by decide) rfl hl.1 rfl (Nat.le_of_ble_eq_true rfl) (by decide) d_Mod_link_69) hP hD hS hA [0, 1, 2, 3, 4, 5] [6, 7, 8, 9, 10, 11, 12] rfl rfl (by decide) (by decide) (fun u106 H locs hr105 hP hD hS => ?_)
                  try dsimp only at hr105
                  have hP : va_P g.1 classes [((q 22), aI g 320 fc), ((q 23), aI g 320 fq), ((q 27), aI g 160 fl), ((q 28), aI g 160 pl), ((q 29), aI g 160 na), ((q 30), aI g 160 ty), ((q 31), aI g 160 ca), (h0, .inr (10, mob q rf n mm mb u106.1 u106.2 av ev wi mn tp tc sc nf fd me mp xn mt wh tq ag an ig)), ((q 2), aI g 600 bs), ((q 14), aI g 620 tg), ((q 15), aI g 620 tl), ((q 16), aI g 620 on), ((q 17), aI g 620 tw)] H := hP
                  have hD : va_D A [((q 22), aI g 320 fc), ((q 23), aI g 320 fq), ((q 27), aI g 160 fl), ((q 28), aI g 160 pl), ((q 29), aI g 160 na), ((q 30), aI g 160 ty), ((q 31), aI g 160 ca), (h0, .inr (10, mob q rf n mm mb u106.1 u106.2 av ev wi mn tp tc sc nf fd me mp xn mt wh tq ag an ig)), ((q 2), aI g 600 bs), ((q 14), aI g 620 tg), ((q 15), aI g 620 tl), ((q 16), aI g 620 on), ((q 17), aI g 620 tw)] := hD
                  have hP : va_P g.1 classes [(h0, .inr (10, mob q rf n mm mb u106.1 u106.2 av ev wi mn tp tc sc nf fd me mp xn mt wh tq ag an ig)), ((q 2), aI g 600 bs), ((q 14), aI g 620 tg), ((q 15), aI g 620 tl), ((q 16), aI g 620 on), ((q 17), aI g 620 tw), ((q 22), aI g 320 fc), ((q 23), aI g 320 fq), ((q 27), aI g 160 fl), ((q 28), aI g 160 pl), ((q 29), aI g 160 na), ((q 30), aI g 160 ty), ((q 31), aI g 160 ca)] H := hP.sub [7, 8, 9, 10, 11, 12, 0, 1, 2, 3, 4, 5, 6] rfl
                  have hD : va_D A [(h0, .inr (10, mob q rf n mm mb u106.1 u106.2 av ev wi mn tp tc sc nf fd me mp xn mt wh tq ag an ig)), ((q 2), aI g 600 bs), ((q 14), aI g 620 tg), ((q 15), aI g 620 tl), ((q 16), aI g 620 on), ((q 17), aI g 620 tw), ((q 22), aI g 320 fc), ((q 23), aI g 320 fq), ((q 27), aI g 160 fl), ((q 28), aI g 160 pl), ((q 29), aI g 160 na), ((q 30), aI g 160 ty), ((q 31), aI g 160 ca)] := hD.sub [7, 8, 9, 10, 11, 12, 0, 1, 2, 3, 4, 5, 6] (by decide) rfl
                  obtain ⟨hp106_0, hp106_1⟩ := hr105
                  refine lv_iinc (k := 0) (v := nI (k + 1)) hx hb d_Mod_link_72 hl rfl ((nI_succ k).symm) (by decide) rfl (fun ls hl => ?_)
                  have hl : lv_has ls 2 [(1, .int (nI (k + 1))), (0, .ref h0)] := hl
                  refine lv_goto (tgt := 30) hx hb d_Mod_link_75 (by decide) ?_
                  have hP : va_P g.1 classes [(h0, .inr (10, mob q rf n mm mb u106.1 u106.2 av ev wi mn tp tc sc nf fd me mp xn mt wh tq ag an ig)), ((q 2), aI g 600 bs), ((q 14), aI g 620 tg), ((q 15), aI g 620 tl), ((q 16), aI g 620 on), ((q 17), aI g 620 tw), ((q 22), aI g 320 fc), ((q 23), aI g 320 fq), ((q 27), aI g 160 fl), ((q 28), aI g 160 pl), ((q 29), aI g 160 na), ((q 30), aI g 160 ty), ((q 31), aI g 160 ca)] H := hP.sub [0, 1, 2, 3, 4, 5, 6, 7, 8, 9, 10, 11, 12] rfl
                  have hD : va_D A [(h0, .inr (10, mob q rf n mm mb u106.1 u106.2 av ev wi mn tp tc sc nf fd me mp xn mt wh tq ag an ig)), ((q 2), aI g 600 bs), ((q 14), aI g 620 tg), ((q 15), aI g 620 tl), ((q 16), aI g 620 on), ((q 17), aI g 620 tw), ((q 22), aI g 320 fc), ((q 23), aI g 320 fq), ((q 27), aI g 160 fl), ((q 28), aI g 160 pl), ((q 29), aI g 160 na), ((q 30), aI g 160 ty), ((q 31), aI g 160 ca)] := hD.sub [0, 1, 2, 3, 4, 5, 6, 7, 8, 9, 10, 11, 12] (by decide) rfl
                  exact ih30 _ (by omega) (k + 1) u106.1 u106.2 ls _ _ rfl (fun _ => hz101) (by omega) (by omega) (fun hz => by have hz107 := hp106_0 hz; have hz108 := hc8 hz107; have hz109 := hc9 hz108; have hz110 := hLCk hz108; have hz111 := hMCk hz107; have hz112 := hp106_1 hz; exact fun j h1 h2 => by by_cases ej : j = k; (rw [ej]; exact hz112); (exact hz111 j h1 (by omega))) (lv_sub hl [0, 1] rfl) hP hD hS
                · refine lv_aload_n hx hb d_Mod_link_56 rfl (lv_at hl 1 rfl) ?_
                  refine va_get (D := g.1) (ci := 10) (v := .ref (q 14)) (C := R_Mod) (T := F_Mod) (N := 61) hx hb hts in_Mod hown hK hP 0 rfl rfl 14 (by decide) (hts _ wd_1264) (fun _ h9 => h9) rfl d_Mod_link_57 ?_
                  refine lv_iload_n hx hb d_Mod_link_60 rfl (lv_at hl 0 rfl) ?_
                  refine va_iald hx hb hK hP 2 0 rfl rfl (vp_in_nI (by omega) (by decide)) d_Mod_link_61 ?_
                  refine tw_ri (e2 := tg k) (by rw [nI_clamp (by omega)]) ?_
                  refine lv_bipush (v := 10) hx hb d_Mod_link_62 (by decide) ?_
                  refine lv_icmp_ne (tgt := 72) hx hb d_Mod_link_64 (by decide) (fun h64 => ?_) (fun h64 => ?_)
                  · refine lv_iinc (k := 0) (v := nI (k + 1)) hx hb d_Mod_link_72 hl rfl ((nI_succ k).symm) (by decide) rfl (fun ls hl => ?_)
                    have hl : lv_has ls 2 [(1, .int (nI (k + 1))), (0, .ref h0)] := hl
                    refine lv_goto (tgt := 30) hx hb d_Mod_link_75 (by decide) ?_
                    have hP : va_P g.1 classes [(h0, .inr (10, mob q rf n mm mb fa8 fp8 av ev wi mn tp tc sc nf fd me mp xn mt wh tq ag an ig)), ((q 2), aI g 600 bs), ((q 14), aI g 620 tg), ((q 15), aI g 620 tl), ((q 16), aI g 620 on), ((q 17), aI g 620 tw), ((q 22), aI g 320 fc), ((q 23), aI g 320 fq), ((q 27), aI g 160 fl), ((q 28), aI g 160 pl), ((q 29), aI g 160 na), ((q 30), aI g 160 ty), ((q 31), aI g 160 ca)] H := hP.sub [0, 1, 2, 3, 4, 5, 6, 7, 8, 9, 10, 11, 12] rfl
                    have hD : va_D A [(h0, .inr (10, mob q rf n mm mb fa8 fp8 av ev wi mn tp tc sc nf fd me mp xn mt wh tq ag an ig)), ((q 2), aI g 600 bs), ((q 14), aI g 620 tg), ((q 15), aI g 620 tl), ((q 16), aI g 620 on), ((q 17), aI g 620 tw), ((q 22), aI g 320 fc), ((q 23), aI g 320 fq), ((q 27), aI g 160 fl), ((q 28), aI g 160 pl), ((q 29), aI g 160 na), ((q 30), aI g 160 ty), ((q 31), aI g 160 ca)] := hD.sub [0, 1, 2, 3, 4, 5, 6, 7, 8, 9, 10, 11, 12] (by decide) rfl
                    exact ih30 _ (by omega) (k + 1) fa8 fp8 ls _ _ rfl (fun _ => hz101) (by omega) (by omega) (fun _ => by exact fun j h1 h2 => by by_cases ej : j = k; (rw [ej]; exact ⟨fun h9 => absurd h9 h53, fun h9 => absurd h9 h64⟩); (exact hz104 j h1 (by omega))) (lv_sub hl [0, 1] rfl) hP hD hS
                  · refine lv_aload_n hx hb d_Mod_link_67 rfl (lv_at hl 1 rfl) ?_
                    refine lv_iload_n hx hb d_Mod_link_68 rfl (lv_at hl 0 rfl) ?_
                    refine tw_wv (wr := [((q 22), aI g 320 fc), ((q 23), aI g 320 fq), ((q 27), aI g 160 fl), ((q 28), aI g 160 pl), ((q 29), aI g 160 na), ((q 30), aI g 160 ty), ((q 31), aI g 160 ca)]) (tw_runV (ws := [(h0, .inr (10, mob q rf n mm mb fa8 fp8 av ev wi mn tp tc sc nf fd me mp xn mt wh tq ag an ig)), ((q 2), aI g 600 bs), ((q 14), aI g 620 tg), ((q 15), aI g 620 tl), ((q 16), aI g 620 on), ((q 17), aI g 620 tw), ((q 22), aI g 320 fc), ((q 23), aI g 320 fq), ((q 27), aI g 160 fl), ((q 28), aI g 160 pl), ((q 29), aI g 160 na), ((q 30), aI g 160 ty), ((q 31), aI g 160 ca)]) (wc := [(h0, .inr (10, mob q rf n mm mb fa8 fp8 av ev wi mn tp tc sc nf fd me mp xn mt wh tq ag an ig)), ((q 2), aI g 600 bs), ((q 14), aI g 620 tg), ((q 15), aI g 620 tl), ((q 16), aI g 620 on), ((q 17), aI g 620 tw)]) (As := [.int (nI k)]) (rest := []) E hB hK hZ (g_Mod_linkMemberConstant l g H.size h0 q rf n mm mb av ev wi mn tp tc sc nf fd me mp xn mt wh tq ag an ig bs tg tl on tw fa8 fp8 k (by omega) hTX (fun j h1 h2 => hz103 j h1 (by omega)) (by omega) (by omega) (Or.inr h64) h42) mc_Mod_linkMemberConstant mi_Mod_linkMemberConstant me_Mod_linkMemberConstant wd_1567 hP hD hS hA [0, 1, 2, 3, 4, 5] rfl (by decide) 0 rfl rfl rfl rfl rfl (by decide) rfl hl.1 rfl (Nat.le_of_ble_eq_true rfl) (by decide) d_Mod_link_69) hP hD hS hA [0, 1, 2, 3, 4, 5] [6, 7, 8, 9, 10, 11, 12] rfl rfl (by decide) (by decide) (fun u114 H locs hr113 hP hD hS => ?_)
                    try dsimp only at hr113
                    have hP : va_P g.1 classes [((q 22), aI g 320 fc), ((q 23), aI g 320 fq), ((q 27), aI g 160 fl), ((q 28), aI g 160 pl), ((q 29), aI g 160 na), ((q 30), aI g 160 ty), ((q 31), aI g 160 ca), (h0, .inr (10, mob q rf n mm mb u114.1 u114.2 av ev wi mn tp tc sc nf fd me mp xn mt wh tq ag an ig)), ((q 2), aI g 600 bs), ((q 14), aI g 620 tg), ((q 15), aI g 620 tl), ((q 16), aI g 620 on), ((q 17), aI g 620 tw)] H := hP
                    have hD : va_D A [((q 22), aI g 320 fc), ((q 23), aI g 320 fq), ((q 27), aI g 160 fl), ((q 28), aI g 160 pl), ((q 29), aI g 160 na), ((q 30), aI g 160 ty), ((q 31), aI g 160 ca), (h0, .inr (10, mob q rf n mm mb u114.1 u114.2 av ev wi mn tp tc sc nf fd me mp xn mt wh tq ag an ig)), ((q 2), aI g 600 bs), ((q 14), aI g 620 tg), ((q 15), aI g 620 tl), ((q 16), aI g 620 on), ((q 17), aI g 620 tw)] := hD
                    have hP : va_P g.1 classes [(h0, .inr (10, mob q rf n mm mb u114.1 u114.2 av ev wi mn tp tc sc nf fd me mp xn mt wh tq ag an ig)), ((q 2), aI g 600 bs), ((q 14), aI g 620 tg), ((q 15), aI g 620 tl), ((q 16), aI g 620 on), ((q 17), aI g 620 tw), ((q 22), aI g 320 fc), ((q 23), aI g 320 fq), ((q 27), aI g 160 fl), ((q 28), aI g 160 pl), ((q 29), aI g 160 na), ((q 30), aI g 160 ty), ((q 31), aI g 160 ca)] H := hP.sub [7, 8, 9, 10, 11, 12, 0, 1, 2, 3, 4, 5, 6] rfl
                    have hD : va_D A [(h0, .inr (10, mob q rf n mm mb u114.1 u114.2 av ev wi mn tp tc sc nf fd me mp xn mt wh tq ag an ig)), ((q 2), aI g 600 bs), ((q 14), aI g 620 tg), ((q 15), aI g 620 tl), ((q 16), aI g 620 on), ((q 17), aI g 620 tw), ((q 22), aI g 320 fc), ((q 23), aI g 320 fq), ((q 27), aI g 160 fl), ((q 28), aI g 160 pl), ((q 29), aI g 160 na), ((q 30), aI g 160 ty), ((q 31), aI g 160 ca)] := hD.sub [7, 8, 9, 10, 11, 12, 0, 1, 2, 3, 4, 5, 6] (by decide) rfl
                    obtain ⟨hp114_0, hp114_1⟩ := hr113
                    refine lv_iinc (k := 0) (v := nI (k + 1)) hx hb d_Mod_link_72 hl rfl ((nI_succ k).symm) (by decide) rfl (fun ls hl => ?_)
                    have hl : lv_has ls 2 [(1, .int (nI (k + 1))), (0, .ref h0)] := hl
                    refine lv_goto (tgt := 30) hx hb d_Mod_link_75 (by decide) ?_
                    have hP : va_P g.1 classes [(h0, .inr (10, mob q rf n mm mb u114.1 u114.2 av ev wi mn tp tc sc nf fd me mp xn mt wh tq ag an ig)), ((q 2), aI g 600 bs), ((q 14), aI g 620 tg), ((q 15), aI g 620 tl), ((q 16), aI g 620 on), ((q 17), aI g 620 tw), ((q 22), aI g 320 fc), ((q 23), aI g 320 fq), ((q 27), aI g 160 fl), ((q 28), aI g 160 pl), ((q 29), aI g 160 na), ((q 30), aI g 160 ty), ((q 31), aI g 160 ca)] H := hP.sub [0, 1, 2, 3, 4, 5, 6, 7, 8, 9, 10, 11, 12] rfl
                    have hD : va_D A [(h0, .inr (10, mob q rf n mm mb u114.1 u114.2 av ev wi mn tp tc sc nf fd me mp xn mt wh tq ag an ig)), ((q 2), aI g 600 bs), ((q 14), aI g 620 tg), ((q 15), aI g 620 tl), ((q 16), aI g 620 on), ((q 17), aI g 620 tw), ((q 22), aI g 320 fc), ((q 23), aI g 320 fq), ((q 27), aI g 160 fl), ((q 28), aI g 160 pl), ((q 29), aI g 160 na), ((q 30), aI g 160 ty), ((q 31), aI g 160 ca)] := hD.sub [0, 1, 2, 3, 4, 5, 6, 7, 8, 9, 10, 11, 12] (by decide) rfl
                    exact ih30 _ (by omega) (k + 1) u114.1 u114.2 ls _ _ rfl (fun _ => hz101) (by omega) (by omega) (fun hz => by have hz115 := hp114_0 hz; have hz116 := hc8 hz115; have hz117 := hc9 hz116; have hz118 := hLCk hz116; have hz119 := hMCk hz115; have hz120 := hp114_1 hz; exact fun j h1 h2 => by by_cases ej : j = k; (rw [ej]; exact hz120); (exact hz119 j h1 (by omega))) (lv_sub hl [0, 1] rfl) hP hD hS
        exact loop30 _ 1 fa9 fp9 ls _ _ rfl (fun h => h) (Nat.le_refl _) (by omega) (fun _ j h1 h2 => absurd h2 (by omega)) (hl) hP hD hS
      · have h7 := tn_nle h7 (by omega) (by omega)
        refine lv_aload_n hx hb d_Mod_link_10 rfl (lv_at hl 1 rfl) ?_
        refine va_get (D := g.1) (ci := 10) (v := .int fa9) (C := R_Mod) (T := F_Mod) (N := 61) hx hb hts in_Mod hown hK hP 0 rfl rfl 8 (by decide) (hts _ wd_1258) (fun _ h9 => h9) rfl d_Mod_link_11 ?_
        refine lv_if_ne (tgt := 28) hx hb d_Mod_link_14 (by decide) (fun h14 => ?_) (fun h14 => ?_)
        · refine lv_iconst (v := 1) hx hb d_Mod_link_28 (by decide) ?_
          refine lv_istore_n hx hb d_Mod_link_29 rfl hl (by decide) rfl (fun ls hl => ?_)
          have hl : lv_has ls 2 [(1, .int 1), (0, .ref h0)] := hl
          have loop30 : ∀ (kq : Nat) (k : Nat) (fa8 : Int32) (fp8 : Int32) (ls : Array Slot) (H : Heap) (locs : List Loc) , mn - k = kq → (hc8 : fa8 = 0 → fa9 = 0) → (hvk : 1 ≤ k) → (huk8 : k ≤ 700) → (hMCk : fa8 = 0 → ∀ j, 0 < j → j < k → MC1 bs tg on tw j) → lv_has ls 2 [(1, .int (nI k)), (0, .ref h0)] → va_P g.1 classes [(h0, .inr (10, mob q rf n mm mb fa8 fp8 av ev wi mn tp tc sc nf fd me mp xn mt wh tq ag an ig)), ((q 2), aI g 600 bs), ((q 14), aI g 620 tg), ((q 15), aI g 620 tl), ((q 16), aI g 620 on), ((q 17), aI g 620 tw), ((q 22), aI g 320 fc), ((q 23), aI g 320 fq), ((q 27), aI g 160 fl), ((q 28), aI g 160 pl), ((q 29), aI g 160 na), ((q 30), aI g 160 ty), ((q 31), aI g 160 ca)] H → va_D A [(h0, .inr (10, mob q rf n mm mb fa8 fp8 av ev wi mn tp tc sc nf fd me mp xn mt wh tq ag an ig)), ((q 2), aI g 600 bs), ((q 14), aI g 620 tg), ((q 15), aI g 620 tl), ((q 16), aI g 620 on), ((q 17), aI g 620 tw), ((q 22), aI g 320 fc), ((q 23), aI g 320 fq), ((q 27), aI g 160 fl), ((q 28), aI g 160 pl), ((q 29), aI g 160 na), ((q 30), aI g 160 ty), ((q 31), aI g 160 ca)] → va_S A s.heap H locs → W p l e ({ frames := 7, cells := 0, slots := 0, locals := 164 }) s m [.ref h0].toArray below meth c H locs 0 0 (MQ below (tw_Qv g (fun (u : Int32 × Int32) => (u.1 = 0 → fa = 0) ∧ (u.1 = 0 → LCA mn tg on tw) ∧ (u.1 = 0 → ∀ j, 0 < j → j < mn → MC1 bs tg on tw j) ∧ (u.1 = 0 → TGv mn tg 7 tc) ∧ (u.1 = 0 → TGv mn tg 7 sc) ∧ (u.1 = 0 → ∀ j, j < nf → TGv mn tg 7 (fc j)) ∧ (u.1 = 0 → ∀ j, j < me → LMB bs mn tg on tw fd na ty j)) (fun u : Int32 × Int32 => [(h0, .inr (10, mob q rf n mm mb u.1 u.2 av ev wi mn tp tc sc nf fd me mp xn mt wh tq ag an ig)), ((q 2), aI g 600 bs), ((q 14), aI g 620 tg), ((q 15), aI g 620 tl), ((q 16), aI g 620 on), ((q 17), aI g 620 tw), ((q 22), aI g 320 fc), ((q 23), aI g 320 fq), ((q 27), aI g 160 fl), ((q 28), aI g 160 pl), ((q 29), aI g 160 na), ((q 30), aI g 160 ty), ((q 31), aI g 160 ca)]) A) [.ref h0].toArray s 0 0 A) (F0 m 30 ls []) := by
            intro kq
            induction kq using Nat.strongRecOn with
            | _ kq ih30 =>
              intro k fa8 fp8 ls H locs hk30 hc8 hvk huk8 hMCk hl hP hD hS
              refine lv_iload_n hx hb d_Mod_link_30 rfl (lv_at hl 0 rfl) ?_
              refine lv_aload_n hx hb d_Mod_link_31 rfl (lv_at hl 1 rfl) ?_
              refine va_get (D := g.1) (ci := 10) (v := .int (nI mn)) (C := R_Mod) (T := F_Mod) (N := 61) hx hb hts in_Mod hown hK hP 0 rfl rfl 13 (by decide) (hts _ wd_1263) (fun _ h9 => h9) rfl d_Mod_link_32 ?_
              refine lv_icmp_ge (tgt := 78) hx hb d_Mod_link_35 (by decide) (fun h35 => ?_) (fun h35 => ?_)
              · have h35 := tn_le h35 (by omega) (by omega)
                refine lv_aload_n hx hb d_Mod_link_78 rfl (lv_at hl 1 rfl) ?_
                refine lv_aload_n hx hb d_Mod_link_79 rfl (lv_at hl 1 rfl) ?_
                refine va_get (D := g.1) (ci := 10) (v := .int tc) (C := R_Mod) (T := F_Mod) (N := 61) hx hb hts in_Mod hown hK hP 0 rfl rfl 19 (by decide) (hts _ wd_1269) (fun _ h9 => h9) rfl d_Mod_link_80 ?_
                refine lv_bipush (v := 7) hx hb d_Mod_link_83 (by decide) ?_
                refine tw_si (tw_runV (ws := [(h0, .inr (10, mob q rf n mm mb fa8 fp8 av ev wi mn tp tc sc nf fd me mp xn mt wh tq ag an ig)), ((q 2), aI g 600 bs), ((q 14), aI g 620 tg), ((q 15), aI g 620 tl), ((q 16), aI g 620 on), ((q 17), aI g 620 tw), ((q 22), aI g 320 fc), ((q 23), aI g 320 fq), ((q 27), aI g 160 fl), ((q 28), aI g 160 pl), ((q 29), aI g 160 na), ((q 30), aI g 160 ty), ((q 31), aI g 160 ca)]) (wc := [(h0, .inr (10, mob q rf n mm mb fa8 fp8 av ev wi mn tp tc sc nf fd me mp xn mt wh tq ag an ig)), ((q 14), aI g 620 tg)]) (As := [.int tc, .int 7]) (rest := []) E hB hK hZ (g_Mod_isTagI l g H.size h0 q rf n mm mb fa8 fp8 av ev wi mn tp tc sc nf fd me mp xn mt wh tq ag an ig tg tc 7 (by omega)) mc_Mod_isTag mi_Mod_isTag me_Mod_isTag wd_1508 hP hD hS hA [0, 2] rfl (by decide) 0 rfl rfl rfl rfl rfl (by decide) rfl hl.1 rfl (Nat.le_of_ble_eq_true rfl) (by decide) d_Mod_link_85) (fun r121 hr121 => ?_)
                have hB121 := hr121
                refine lv_if_ne (tgt := 101) hx hb d_Mod_link_88 (by decide) (fun h88 => ?_) (fun h88 => ?_)
                · have hT88 := hB121.2 (hB121.1.resolve_left h88)
                  refine lv_aload_n hx hb d_Mod_link_101 rfl (lv_at hl 1 rfl) ?_
                  refine lv_aload_n hx hb d_Mod_link_102 rfl (lv_at hl 1 rfl) ?_
                  refine va_get (D := g.1) (ci := 10) (v := .int sc) (C := R_Mod) (T := F_Mod) (N := 61) hx hb hts in_Mod hown hK hP 0 rfl rfl 20 (by decide) (hts _ wd_1270) (fun _ h9 => h9) rfl d_Mod_link_103 ?_
                  refine lv_bipush (v := 7) hx hb d_Mod_link_106 (by decide) ?_
                  refine tw_si (tw_runV (ws := [(h0, .inr (10, mob q rf n mm mb fa8 fp8 av ev wi mn tp tc sc nf fd me mp xn mt wh tq ag an ig)), ((q 2), aI g 600 bs), ((q 14), aI g 620 tg), ((q 15), aI g 620 tl), ((q 16), aI g 620 on), ((q 17), aI g 620 tw), ((q 22), aI g 320 fc), ((q 23), aI g 320 fq), ((q 27), aI g 160 fl), ((q 28), aI g 160 pl), ((q 29), aI g 160 na), ((q 30), aI g 160 ty), ((q 31), aI g 160 ca)]) (wc := [(h0, .inr (10, mob q rf n mm mb fa8 fp8 av ev wi mn tp tc sc nf fd me mp xn mt wh tq ag an ig)), ((q 14), aI g 620 tg)]) (As := [.int sc, .int 7]) (rest := []) E hB hK hZ (g_Mod_isTagI l g H.size h0 q rf n mm mb fa8 fp8 av ev wi mn tp tc sc nf fd me mp xn mt wh tq ag an ig tg sc 7 (by omega)) mc_Mod_isTag mi_Mod_isTag me_Mod_isTag wd_1508 hP hD hS hA [0, 2] rfl (by decide) 0 rfl rfl rfl rfl rfl (by decide) rfl hl.1 rfl (Nat.le_of_ble_eq_true rfl) (by decide) d_Mod_link_108) (fun r122 hr122 => ?_)
                  have hB122 := hr122
                  refine lv_if_ne (tgt := 126) hx hb d_Mod_link_111 (by decide) (fun h111 => ?_) (fun h111 => ?_)
                  · have hT111 := hB122.2 (hB122.1.resolve_left h111)
                    refine lv_iconst (v := 0) hx hb d_Mod_link_126 (by decide) ?_
                    refine lv_istore_n hx hb d_Mod_link_127 rfl hl (by decide) rfl (fun ls hl => ?_)
                    have hl : lv_has ls 2 [(1, .int 0), (0, .ref h0)] := hl
                    have loop128 : ∀ (kq : Nat) (i : Nat) (fa7 : Int32) (fp7 : Int32) (ls : Array Slot) (H : Heap) (locs : List Loc) , nf - i = kq → (hc7 : fa7 = 0 → fa8 = 0) → (hui7 : i ≤ 700) → (hFCk : fa7 = 0 → ∀ j, j < i → TGv mn tg 7 (fc j)) → lv_has ls 2 [(1, .int (nI i)), (0, .ref h0)] → va_P g.1 classes [(h0, .inr (10, mob q rf n mm mb fa7 fp7 av ev wi mn tp tc sc nf fd me mp xn mt wh tq ag an ig)), ((q 2), aI g 600 bs), ((q 14), aI g 620 tg), ((q 15), aI g 620 tl), ((q 16), aI g 620 on), ((q 17), aI g 620 tw), ((q 22), aI g 320 fc), ((q 23), aI g 320 fq), ((q 27), aI g 160 fl), ((q 28), aI g 160 pl), ((q 29), aI g 160 na), ((q 30), aI g 160 ty), ((q 31), aI g 160 ca)] H → va_D A [(h0, .inr (10, mob q rf n mm mb fa7 fp7 av ev wi mn tp tc sc nf fd me mp xn mt wh tq ag an ig)), ((q 2), aI g 600 bs), ((q 14), aI g 620 tg), ((q 15), aI g 620 tl), ((q 16), aI g 620 on), ((q 17), aI g 620 tw), ((q 22), aI g 320 fc), ((q 23), aI g 320 fq), ((q 27), aI g 160 fl), ((q 28), aI g 160 pl), ((q 29), aI g 160 na), ((q 30), aI g 160 ty), ((q 31), aI g 160 ca)] → va_S A s.heap H locs → W p l e ({ frames := 7, cells := 0, slots := 0, locals := 164 }) s m [.ref h0].toArray below meth c H locs 0 0 (MQ below (tw_Qv g (fun (u : Int32 × Int32) => (u.1 = 0 → fa = 0) ∧ (u.1 = 0 → LCA mn tg on tw) ∧ (u.1 = 0 → ∀ j, 0 < j → j < mn → MC1 bs tg on tw j) ∧ (u.1 = 0 → TGv mn tg 7 tc) ∧ (u.1 = 0 → TGv mn tg 7 sc) ∧ (u.1 = 0 → ∀ j, j < nf → TGv mn tg 7 (fc j)) ∧ (u.1 = 0 → ∀ j, j < me → LMB bs mn tg on tw fd na ty j)) (fun u : Int32 × Int32 => [(h0, .inr (10, mob q rf n mm mb u.1 u.2 av ev wi mn tp tc sc nf fd me mp xn mt wh tq ag an ig)), ((q 2), aI g 600 bs), ((q 14), aI g 620 tg), ((q 15), aI g 620 tl), ((q 16), aI g 620 on), ((q 17), aI g 620 tw), ((q 22), aI g 320 fc), ((q 23), aI g 320 fq), ((q 27), aI g 160 fl), ((q 28), aI g 160 pl), ((q 29), aI g 160 na), ((q 30), aI g 160 ty), ((q 31), aI g 160 ca)]) A) [.ref h0].toArray s 0 0 A) (F0 m 128 ls []) := by
                      intro kq
                      induction kq using Nat.strongRecOn with
                      | _ kq ih128 =>
                        intro i fa7 fp7 ls H locs hk128 hc7 hui7 hFCk hl hP hD hS
                        refine lv_iload_n hx hb d_Mod_link_128 rfl (lv_at hl 0 rfl) ?_
                        refine lv_aload_n hx hb d_Mod_link_129 rfl (lv_at hl 1 rfl) ?_
                        refine va_get (D := g.1) (ci := 10) (v := .int (nI nf)) (C := R_Mod) (T := F_Mod) (N := 61) hx hb hts in_Mod hown hK hP 0 rfl rfl 21 (by decide) (hts _ wd_1271) (fun _ h9 => h9) rfl d_Mod_link_130 ?_
                        refine lv_icmp_ge (tgt := 176) hx hb d_Mod_link_133 (by decide) (fun h133 => ?_) (fun h133 => ?_)
                        · have h133 := tn_le h133 (by omega) (by omega)
                          refine lv_iconst (v := 0) hx hb d_Mod_link_176 (by decide) ?_
                          refine lv_istore_n hx hb d_Mod_link_177 rfl hl (by decide) rfl (fun ls hl => ?_)
                          have hl : lv_has ls 2 [(1, .int 0), (0, .ref h0)] := hl
                          have loop178 : ∀ (kq : Nat) (i : Nat) (fa6 : Int32) (fp6 : Int32) (ls : Array Slot) (H : Heap) (locs : List Loc) , me - i = kq → (hc6 : fa6 = 0 → fa7 = 0) → (hui6 : i ≤ 700) → (hLMk : fa6 = 0 → ∀ j, j < i → LMB bs mn tg on tw fd na ty j) → lv_has ls 2 [(1, .int (nI i)), (0, .ref h0)] → va_P g.1 classes [(h0, .inr (10, mob q rf n mm mb fa6 fp6 av ev wi mn tp tc sc nf fd me mp xn mt wh tq ag an ig)), ((q 2), aI g 600 bs), ((q 14), aI g 620 tg), ((q 15), aI g 620 tl), ((q 16), aI g 620 on), ((q 17), aI g 620 tw), ((q 22), aI g 320 fc), ((q 23), aI g 320 fq), ((q 27), aI g 160 fl), ((q 28), aI g 160 pl), ((q 29), aI g 160 na), ((q 30), aI g 160 ty), ((q 31), aI g 160 ca)] H → va_D A [(h0, .inr (10, mob q rf n mm mb fa6 fp6 av ev wi mn tp tc sc nf fd me mp xn mt wh tq ag an ig)), ((q 2), aI g 600 bs), ((q 14), aI g 620 tg), ((q 15), aI g 620 tl), ((q 16), aI g 620 on), ((q 17), aI g 620 tw), ((q 22), aI g 320 fc), ((q 23), aI g 320 fq), ((q 27), aI g 160 fl), ((q 28), aI g 160 pl), ((q 29), aI g 160 na), ((q 30), aI g 160 ty), ((q 31), aI g 160 ca)] → va_S A s.heap H locs → W p l e ({ frames := 7, cells := 0, slots := 0, locals := 164 }) s m [.ref h0].toArray below meth c H locs 0 0 (MQ below (tw_Qv g (fun (u : Int32 × Int32) => (u.1 = 0 → fa = 0) ∧ (u.1 = 0 → LCA mn tg on tw) ∧ (u.1 = 0 → ∀ j, 0 < j → j < mn → MC1 bs tg on tw j) ∧ (u.1 = 0 → TGv mn tg 7 tc) ∧ (u.1 = 0 → TGv mn tg 7 sc) ∧ (u.1 = 0 → ∀ j, j < nf → TGv mn tg 7 (fc j)) ∧ (u.1 = 0 → ∀ j, j < me → LMB bs mn tg on tw fd na ty j)) (fun u : Int32 × Int32 => [(h0, .inr (10, mob q rf n mm mb u.1 u.2 av ev wi mn tp tc sc nf fd me mp xn mt wh tq ag an ig)), ((q 2), aI g 600 bs), ((q 14), aI g 620 tg), ((q 15), aI g 620 tl), ((q 16), aI g 620 on), ((q 17), aI g 620 tw), ((q 22), aI g 320 fc), ((q 23), aI g 320 fq), ((q 27), aI g 160 fl), ((q 28), aI g 160 pl), ((q 29), aI g 160 na), ((q 30), aI g 160 ty), ((q 31), aI g 160 ca)]) A) [.ref h0].toArray s 0 0 A) (F0 m 178 ls []) := by
                            intro kq
                            induction kq using Nat.strongRecOn with
                            | _ kq ih178 =>
                              intro i fa6 fp6 ls H locs hk178 hc6 hui6 hLMk hl hP hD hS
                              refine lv_iload_n hx hb d_Mod_link_178 rfl (lv_at hl 0 rfl) ?_
                              refine lv_aload_n hx hb d_Mod_link_179 rfl (lv_at hl 1 rfl) ?_
                              refine va_get (D := g.1) (ci := 10) (v := .int (nI me)) (C := R_Mod) (T := F_Mod) (N := 61) hx hb hts in_Mod hown hK hP 0 rfl rfl 25 (by decide) (hts _ wd_1275) (fun _ h9 => h9) rfl d_Mod_link_180 ?_
                              refine lv_icmp_ge (tgt := 204) hx hb d_Mod_link_183 (by decide) (fun h183 => ?_) (fun h183 => ?_)
                              · have h183 := tn_le h183 (by omega) (by omega)
                                exact tw_vret E hS (fa6, fp6) (⟨(fun h => absurd h (fun h => (fun h => (fun h => h14 (hc8 h)) (hc7 h)) (hc6 h))), (fun h => absurd h (fun h => (fun h => (fun h => h14 (hc8 h)) (hc7 h)) (hc6 h))), (fun h => absurd h (fun h => (fun h => (fun h => h14 (hc8 h)) (hc7 h)) (hc6 h))), (fun h => absurd h (fun h => (fun h => (fun h => h14 (hc8 h)) (hc7 h)) (hc6 h))), (fun h => absurd h (fun h => (fun h => (fun h => h14 (hc8 h)) (hc7 h)) (hc6 h))), (fun h => absurd h (fun h => (fun h => (fun h => h14 (hc8 h)) (hc7 h)) (hc6 h))), (fun h => absurd h (fun h => (fun h => (fun h => h14 (hc8 h)) (hc7 h)) (hc6 h)))⟩) hP hD d_Mod_link_204
                              · have h183 := tn_nle h183 (by omega) (by omega)
                                refine lv_aload_n hx hb d_Mod_link_186 rfl (lv_at hl 1 rfl) ?_
                                refine va_get (D := g.1) (ci := 10) (v := .int fa6) (C := R_Mod) (T := F_Mod) (N := 61) hx hb hts in_Mod hown hK hP 0 rfl rfl 8 (by decide) (hts _ wd_1258) (fun _ h9 => h9) rfl d_Mod_link_187 ?_
                                refine lv_if_ne (tgt := 204) hx hb d_Mod_link_190 (by decide) (fun h190 => ?_) (fun h190 => ?_)
                                · exact tw_vret E hS (fa6, fp6) (⟨(fun h => absurd h h190), (fun h => absurd h h190), (fun h => absurd h h190), (fun h => absurd h h190), (fun h => absurd h h190), (fun h => absurd h h190), (fun h => absurd h h190)⟩) hP hD d_Mod_link_204
                                · exact absurd h190 (fun h => (fun h => (fun h => h14 (hc8 h)) (hc7 h)) (hc6 h))
                          exact loop178 _ 0 fa7 fp7 ls _ _ rfl (fun h => h) (by omega) (fun _ j h2 => absurd h2 (Nat.not_lt_zero j)) (hl) hP hD hS
                        · have h133 := tn_nle h133 (by omega) (by omega)
                          refine lv_aload_n hx hb d_Mod_link_136 rfl (lv_at hl 1 rfl) ?_
                          refine va_get (D := g.1) (ci := 10) (v := .int fa7) (C := R_Mod) (T := F_Mod) (N := 61) hx hb hts in_Mod hown hK hP 0 rfl rfl 8 (by decide) (hts _ wd_1258) (fun _ h9 => h9) rfl d_Mod_link_137 ?_
                          refine lv_if_ne (tgt := 176) hx hb d_Mod_link_140 (by decide) (fun h140 => ?_) (fun h140 => ?_)
                          · refine lv_iconst (v := 0) hx hb d_Mod_link_176 (by decide) ?_
                            refine lv_istore_n hx hb d_Mod_link_177 rfl hl (by decide) rfl (fun ls hl => ?_)
                            have hl : lv_has ls 2 [(1, .int 0), (0, .ref h0)] := hl
                            have loop178 : ∀ (kq : Nat) (i : Nat) (fa6 : Int32) (fp6 : Int32) (ls : Array Slot) (H : Heap) (locs : List Loc) , me - i = kq → (hc6 : fa6 = 0 → fa7 = 0) → (hui6 : i ≤ 700) → (hLMk : fa6 = 0 → ∀ j, j < i → LMB bs mn tg on tw fd na ty j) → lv_has ls 2 [(1, .int (nI i)), (0, .ref h0)] → va_P g.1 classes [(h0, .inr (10, mob q rf n mm mb fa6 fp6 av ev wi mn tp tc sc nf fd me mp xn mt wh tq ag an ig)), ((q 2), aI g 600 bs), ((q 14), aI g 620 tg), ((q 15), aI g 620 tl), ((q 16), aI g 620 on), ((q 17), aI g 620 tw), ((q 22), aI g 320 fc), ((q 23), aI g 320 fq), ((q 27), aI g 160 fl), ((q 28), aI g 160 pl), ((q 29), aI g 160 na), ((q 30), aI g 160 ty), ((q 31), aI g 160 ca)] H → va_D A [(h0, .inr (10, mob q rf n mm mb fa6 fp6 av ev wi mn tp tc sc nf fd me mp xn mt wh tq ag an ig)), ((q 2), aI g 600 bs), ((q 14), aI g 620 tg), ((q 15), aI g 620 tl), ((q 16), aI g 620 on), ((q 17), aI g 620 tw), ((q 22), aI g 320 fc), ((q 23), aI g 320 fq), ((q 27), aI g 160 fl), ((q 28), aI g 160 pl), ((q 29), aI g 160 na), ((q 30), aI g 160 ty), ((q 31), aI g 160 ca)] → va_S A s.heap H locs → W p l e ({ frames := 7, cells := 0, slots := 0, locals := 164 }) s m [.ref h0].toArray below meth c H locs 0 0 (MQ below (tw_Qv g (fun (u : Int32 × Int32) => (u.1 = 0 → fa = 0) ∧ (u.1 = 0 → LCA mn tg on tw) ∧ (u.1 = 0 → ∀ j, 0 < j → j < mn → MC1 bs tg on tw j) ∧ (u.1 = 0 → TGv mn tg 7 tc) ∧ (u.1 = 0 → TGv mn tg 7 sc) ∧ (u.1 = 0 → ∀ j, j < nf → TGv mn tg 7 (fc j)) ∧ (u.1 = 0 → ∀ j, j < me → LMB bs mn tg on tw fd na ty j)) (fun u : Int32 × Int32 => [(h0, .inr (10, mob q rf n mm mb u.1 u.2 av ev wi mn tp tc sc nf fd me mp xn mt wh tq ag an ig)), ((q 2), aI g 600 bs), ((q 14), aI g 620 tg), ((q 15), aI g 620 tl), ((q 16), aI g 620 on), ((q 17), aI g 620 tw), ((q 22), aI g 320 fc), ((q 23), aI g 320 fq), ((q 27), aI g 160 fl), ((q 28), aI g 160 pl), ((q 29), aI g 160 na), ((q 30), aI g 160 ty), ((q 31), aI g 160 ca)]) A) [.ref h0].toArray s 0 0 A) (F0 m 178 ls []) := by
                              intro kq
                              induction kq using Nat.strongRecOn with
                              | _ kq ih178 =>
                                intro i fa6 fp6 ls H locs hk178 hc6 hui6 hLMk hl hP hD hS
                                refine lv_iload_n hx hb d_Mod_link_178 rfl (lv_at hl 0 rfl) ?_
                                refine lv_aload_n hx hb d_Mod_link_179 rfl (lv_at hl 1 rfl) ?_
                                refine va_get (D := g.1) (ci := 10) (v := .int (nI me)) (C := R_Mod) (T := F_Mod) (N := 61) hx hb hts in_Mod hown hK hP 0 rfl rfl 25 (by decide) (hts _ wd_1275) (fun _ h9 => h9) rfl d_Mod_link_180 ?_
                                refine lv_icmp_ge (tgt := 204) hx hb d_Mod_link_183 (by decide) (fun h183 => ?_) (fun h183 => ?_)
                                · have h183 := tn_le h183 (by omega) (by omega)
                                  exact tw_vret E hS (fa6, fp6) (⟨(fun h => absurd h (fun h => h140 (hc6 h))), (fun h => absurd h (fun h => h140 (hc6 h))), (fun h => absurd h (fun h => h140 (hc6 h))), (fun h => absurd h (fun h => h140 (hc6 h))), (fun h => absurd h (fun h => h140 (hc6 h))), (fun h => absurd h (fun h => h140 (hc6 h))), (fun h => absurd h (fun h => h140 (hc6 h)))⟩) hP hD d_Mod_link_204
                                · have h183 := tn_nle h183 (by omega) (by omega)
                                  refine lv_aload_n hx hb d_Mod_link_186 rfl (lv_at hl 1 rfl) ?_
                                  refine va_get (D := g.1) (ci := 10) (v := .int fa6) (C := R_Mod) (T := F_Mod) (N := 61) hx hb hts in_Mod hown hK hP 0 rfl rfl 8 (by decide) (hts _ wd_1258) (fun _ h9 => h9) rfl d_Mod_link_187 ?_
                                  refine lv_if_ne (tgt := 204) hx hb d_Mod_link_190 (by decide) (fun h190 => ?_) (fun h190 => ?_)
                                  · exact tw_vret E hS (fa6, fp6) (⟨(fun h => absurd h h190), (fun h => absurd h h190), (fun h => absurd h h190), (fun h => absurd h h190), (fun h => absurd h h190), (fun h => absurd h h190), (fun h => absurd h h190)⟩) hP hD d_Mod_link_204
                                  · exact absurd h190 (fun h => h140 (hc6 h))
                            exact loop178 _ 0 fa7 fp7 ls _ _ rfl (fun h => h) (by omega) (fun _ j h2 => absurd h2 (Nat.not_lt_zero j)) (hl) hP hD hS
                          · exact absurd h140 (fun h => (fun h => h14 (hc8 h)) (hc7 h))
                    exact loop128 _ 0 fa8 fp8 ls _ _ rfl (fun h => h) (by omega) (fun _ j h2 => absurd h2 (Nat.not_lt_zero j)) (hl) hP hD hS
                  · refine lv_aload_n hx hb d_Mod_link_114 rfl (lv_at hl 1 rfl) ?_
                    refine lv_bipush (v := 6) hx hb d_Mod_link_115 (by decide) ?_
                    refine lv_aload_n hx hb d_Mod_link_117 rfl (lv_at hl 1 rfl) ?_
                    refine va_get (D := g.1) (ci := 10) (v := .int tp) (C := R_Mod) (T := F_Mod) (N := 61) hx hb hts in_Mod hown hK hP 0 rfl rfl 18 (by decide) (hts _ wd_1268) (fun _ h9 => h9) rfl d_Mod_link_118 ?_
                    refine lv_iconst (v := 2) hx hb d_Mod_link_121 (by decide) ?_
                    refine lv_iadd hx hb d_Mod_link_122 ?_
                    obtain ⟨x123, ex123⟩ : ∃ z : Int32, tp + 2 = z := ⟨_, rfl⟩
                    refine tw_ri (e2 := x123) ex123 ?_
                    refine tw_wv (wr := [((q 2), aI g 600 bs), ((q 14), aI g 620 tg), ((q 15), aI g 620 tl), ((q 16), aI g 620 on), ((q 17), aI g 620 tw), ((q 22), aI g 320 fc), ((q 23), aI g 320 fq), ((q 27), aI g 160 fl), ((q 28), aI g 160 pl), ((q 29), aI g 160 na), ((q 30), aI g 160 ty), ((q 31), aI g 160 ca)]) (tw_runV (ws := [(h0, .inr (10, mob q rf n mm mb fa8 fp8 av ev wi mn tp tc sc nf fd me mp xn mt wh tq ag an ig)), ((q 2), aI g 600 bs), ((q 14), aI g 620 tg), ((q 15), aI g 620 tl), ((q 16), aI g 620 on), ((q 17), aI g 620 tw), ((q 22), aI g 320 fc), ((q 23), aI g 320 fq), ((q 27), aI g 160 fl), ((q 28), aI g 160 pl), ((q 29), aI g 160 na), ((q 30), aI g 160 ty), ((q 31), aI g 160 ca)]) (wc := [(h0, .inr (10, mob q rf n mm mb fa8 fp8 av ev wi mn tp tc sc nf fd me mp xn mt wh tq ag an ig))]) (As := [.int 6, .int x123]) (rest := []) E hB hK hZ (g_Mod_fail l g H.size h0 q rf n mm mb av ev wi mn tp tc sc nf fd me mp xn mt wh tq ag an ig fa8 fp8 6 x123 (by decide)) mc_Mod_fail mi_Mod_fail me_Mod_fail wd_1478 hP hD hS hA [0] rfl (by decide) 0 rfl rfl rfl rfl rfl (by decide) rfl hl.1 rfl (Nat.le_of_ble_eq_true rfl) (by decide) d_Mod_link_123) hP hD hS hA [0] [1, 2, 3, 4, 5, 6, 7, 8, 9, 10, 11, 12] rfl rfl (by decide) (by decide) (fun u125 H locs hr124 hP hD hS => ?_)
                    try dsimp only at hr124
                    have hP : va_P g.1 classes [((q 2), aI g 600 bs), ((q 14), aI g 620 tg), ((q 15), aI g 620 tl), ((q 16), aI g 620 on), ((q 17), aI g 620 tw), ((q 22), aI g 320 fc), ((q 23), aI g 320 fq), ((q 27), aI g 160 fl), ((q 28), aI g 160 pl), ((q 29), aI g 160 na), ((q 30), aI g 160 ty), ((q 31), aI g 160 ca), (h0, .inr (10, mob q rf n mm mb u125.1 u125.2 av ev wi mn tp tc sc nf fd me mp xn mt wh tq ag an ig))] H := hP
                    have hD : va_D A [((q 2), aI g 600 bs), ((q 14), aI g 620 tg), ((q 15), aI g 620 tl), ((q 16), aI g 620 on), ((q 17), aI g 620 tw), ((q 22), aI g 320 fc), ((q 23), aI g 320 fq), ((q 27), aI g 160 fl), ((q 28), aI g 160 pl), ((q 29), aI g 160 na), ((q 30), aI g 160 ty), ((q 31), aI g 160 ca), (h0, .inr (10, mob q rf n mm mb u125.1 u125.2 av ev wi mn tp tc sc nf fd me mp xn mt wh tq ag an ig))] := hD
                    have hP : va_P g.1 classes [(h0, .inr (10, mob q rf n mm mb u125.1 u125.2 av ev wi mn tp tc sc nf fd me mp xn mt wh tq ag an ig)), ((q 2), aI g 600 bs), ((q 14), aI g 620 tg), ((q 15), aI g 620 tl), ((q 16), aI g 620 on), ((q 17), aI g 620 tw), ((q 22), aI g 320 fc), ((q 23), aI g 320 fq), ((q 27), aI g 160 fl), ((q 28), aI g 160 pl), ((q 29), aI g 160 na), ((q 30), aI g 160 ty), ((q 31), aI g 160 ca)] H := hP.sub [12, 0, 1, 2, 3, 4, 5, 6, 7, 8, 9, 10, 11] rfl
                    have hD : va_D A [(h0, .inr (10, mob q rf n mm mb u125.1 u125.2 av ev wi mn tp tc sc nf fd me mp xn mt wh tq ag an ig)), ((q 2), aI g 600 bs), ((q 14), aI g 620 tg), ((q 15), aI g 620 tl), ((q 16), aI g 620 on), ((q 17), aI g 620 tw), ((q 22), aI g 320 fc), ((q 23), aI g 320 fq), ((q 27), aI g 160 fl), ((q 28), aI g 160 pl), ((q 29), aI g 160 na), ((q 30), aI g 160 ty), ((q 31), aI g 160 ca)] := hD.sub [12, 0, 1, 2, 3, 4, 5, 6, 7, 8, 9, 10, 11] (by decide) rfl
                    have hp125_0 := hr124
                    refine lv_iconst (v := 0) hx hb d_Mod_link_126 (by decide) ?_
                    refine lv_istore_n hx hb d_Mod_link_127 rfl hl (by decide) rfl (fun ls hl => ?_)
                    have hl : lv_has ls 2 [(1, .int 0), (0, .ref h0)] := hl
                    have loop128 : ∀ (kq : Nat) (i : Nat) (fa7 : Int32) (fp7 : Int32) (ls : Array Slot) (H : Heap) (locs : List Loc) , nf - i = kq → (hc7 : fa7 = 0 → u125.1 = 0) → (hui7 : i ≤ 700) → (hFCk : fa7 = 0 → ∀ j, j < i → TGv mn tg 7 (fc j)) → lv_has ls 2 [(1, .int (nI i)), (0, .ref h0)] → va_P g.1 classes [(h0, .inr (10, mob q rf n mm mb fa7 fp7 av ev wi mn tp tc sc nf fd me mp xn mt wh tq ag an ig)), ((q 2), aI g 600 bs), ((q 14), aI g 620 tg), ((q 15), aI g 620 tl), ((q 16), aI g 620 on), ((q 17), aI g 620 tw), ((q 22), aI g 320 fc), ((q 23), aI g 320 fq), ((q 27), aI g 160 fl), ((q 28), aI g 160 pl), ((q 29), aI g 160 na), ((q 30), aI g 160 ty), ((q 31), aI g 160 ca)] H → va_D A [(h0, .inr (10, mob q rf n mm mb fa7 fp7 av ev wi mn tp tc sc nf fd me mp xn mt wh tq ag an ig)), ((q 2), aI g 600 bs), ((q 14), aI g 620 tg), ((q 15), aI g 620 tl), ((q 16), aI g 620 on), ((q 17), aI g 620 tw), ((q 22), aI g 320 fc), ((q 23), aI g 320 fq), ((q 27), aI g 160 fl), ((q 28), aI g 160 pl), ((q 29), aI g 160 na), ((q 30), aI g 160 ty), ((q 31), aI g 160 ca)] → va_S A s.heap H locs → W p l e ({ frames := 7, cells := 0, slots := 0, locals := 164 }) s m [.ref h0].toArray below meth c H locs 0 0 (MQ below (tw_Qv g (fun (u : Int32 × Int32) => (u.1 = 0 → fa = 0) ∧ (u.1 = 0 → LCA mn tg on tw) ∧ (u.1 = 0 → ∀ j, 0 < j → j < mn → MC1 bs tg on tw j) ∧ (u.1 = 0 → TGv mn tg 7 tc) ∧ (u.1 = 0 → TGv mn tg 7 sc) ∧ (u.1 = 0 → ∀ j, j < nf → TGv mn tg 7 (fc j)) ∧ (u.1 = 0 → ∀ j, j < me → LMB bs mn tg on tw fd na ty j)) (fun u : Int32 × Int32 => [(h0, .inr (10, mob q rf n mm mb u.1 u.2 av ev wi mn tp tc sc nf fd me mp xn mt wh tq ag an ig)), ((q 2), aI g 600 bs), ((q 14), aI g 620 tg), ((q 15), aI g 620 tl), ((q 16), aI g 620 on), ((q 17), aI g 620 tw), ((q 22), aI g 320 fc), ((q 23), aI g 320 fq), ((q 27), aI g 160 fl), ((q 28), aI g 160 pl), ((q 29), aI g 160 na), ((q 30), aI g 160 ty), ((q 31), aI g 160 ca)]) A) [.ref h0].toArray s 0 0 A) (F0 m 128 ls []) := by
                      intro kq
                      induction kq using Nat.strongRecOn with
                      | _ kq ih128 =>
                        intro i fa7 fp7 ls H locs hk128 hc7 hui7 hFCk hl hP hD hS
                        refine lv_iload_n hx hb d_Mod_link_128 rfl (lv_at hl 0 rfl) ?_
                        refine lv_aload_n hx hb d_Mod_link_129 rfl (lv_at hl 1 rfl) ?_
                        refine va_get (D := g.1) (ci := 10) (v := .int (nI nf)) (C := R_Mod) (T := F_Mod) (N := 61) hx hb hts in_Mod hown hK hP 0 rfl rfl 21 (by decide) (hts _ wd_1271) (fun _ h9 => h9) rfl d_Mod_link_130 ?_
                        refine lv_icmp_ge (tgt := 176) hx hb d_Mod_link_133 (by decide) (fun h133 => ?_) (fun h133 => ?_)
                        · have h133 := tn_le h133 (by omega) (by omega)
                          refine lv_iconst (v := 0) hx hb d_Mod_link_176 (by decide) ?_
                          refine lv_istore_n hx hb d_Mod_link_177 rfl hl (by decide) rfl (fun ls hl => ?_)
                          have hl : lv_has ls 2 [(1, .int 0), (0, .ref h0)] := hl
                          have loop178 : ∀ (kq : Nat) (i : Nat) (fa6 : Int32) (fp6 : Int32) (ls : Array Slot) (H : Heap) (locs : List Loc) , me - i = kq → (hc6 : fa6 = 0 → fa7 = 0) → (hui6 : i ≤ 700) → (hLMk : fa6 = 0 → ∀ j, j < i → LMB bs mn tg on tw fd na ty j) → lv_has ls 2 [(1, .int (nI i)), (0, .ref h0)] → va_P g.1 classes [(h0, .inr (10, mob q rf n mm mb fa6 fp6 av ev wi mn tp tc sc nf fd me mp xn mt wh tq ag an ig)), ((q 2), aI g 600 bs), ((q 14), aI g 620 tg), ((q 15), aI g 620 tl), ((q 16), aI g 620 on), ((q 17), aI g 620 tw), ((q 22), aI g 320 fc), ((q 23), aI g 320 fq), ((q 27), aI g 160 fl), ((q 28), aI g 160 pl), ((q 29), aI g 160 na), ((q 30), aI g 160 ty), ((q 31), aI g 160 ca)] H → va_D A [(h0, .inr (10, mob q rf n mm mb fa6 fp6 av ev wi mn tp tc sc nf fd me mp xn mt wh tq ag an ig)), ((q 2), aI g 600 bs), ((q 14), aI g 620 tg), ((q 15), aI g 620 tl), ((q 16), aI g 620 on), ((q 17), aI g 620 tw), ((q 22), aI g 320 fc), ((q 23), aI g 320 fq), ((q 27), aI g 160 fl), ((q 28), aI g 160 pl), ((q 29), aI g 160 na), ((q 30), aI g 160 ty), ((q 31), aI g 160 ca)] → va_S A s.heap H locs → W p l e ({ frames := 7, cells := 0, slots := 0, locals := 164 }) s m [.ref h0].toArray below meth c H locs 0 0 (MQ below (tw_Qv g (fun (u : Int32 × Int32) => (u.1 = 0 → fa = 0) ∧ (u.1 = 0 → LCA mn tg on tw) ∧ (u.1 = 0 → ∀ j, 0 < j → j < mn → MC1 bs tg on tw j) ∧ (u.1 = 0 → TGv mn tg 7 tc) ∧ (u.1 = 0 → TGv mn tg 7 sc) ∧ (u.1 = 0 → ∀ j, j < nf → TGv mn tg 7 (fc j)) ∧ (u.1 = 0 → ∀ j, j < me → LMB bs mn tg on tw fd na ty j)) (fun u : Int32 × Int32 => [(h0, .inr (10, mob q rf n mm mb u.1 u.2 av ev wi mn tp tc sc nf fd me mp xn mt wh tq ag an ig)), ((q 2), aI g 600 bs), ((q 14), aI g 620 tg), ((q 15), aI g 620 tl), ((q 16), aI g 620 on), ((q 17), aI g 620 tw), ((q 22), aI g 320 fc), ((q 23), aI g 320 fq), ((q 27), aI g 160 fl), ((q 28), aI g 160 pl), ((q 29), aI g 160 na), ((q 30), aI g 160 ty), ((q 31), aI g 160 ca)]) A) [.ref h0].toArray s 0 0 A) (F0 m 178 ls []) := by
                            intro kq
                            induction kq using Nat.strongRecOn with
                            | _ kq ih178 =>
                              intro i fa6 fp6 ls H locs hk178 hc6 hui6 hLMk hl hP hD hS
                              refine lv_iload_n hx hb d_Mod_link_178 rfl (lv_at hl 0 rfl) ?_
                              refine lv_aload_n hx hb d_Mod_link_179 rfl (lv_at hl 1 rfl) ?_
                              refine va_get (D := g.1) (ci := 10) (v := .int (nI me)) (C := R_Mod) (T := F_Mod) (N := 61) hx hb hts in_Mod hown hK hP 0 rfl rfl 25 (by decide) (hts _ wd_1275) (fun _ h9 => h9) rfl d_Mod_link_180 ?_
                              refine lv_icmp_ge (tgt := 204) hx hb d_Mod_link_183 (by decide) (fun h183 => ?_) (fun h183 => ?_)
                              · have h183 := tn_le h183 (by omega) (by omega)
                                exact tw_vret E hS (fa6, fp6) (⟨(fun h => absurd h (fun h => (fun h => hp125_0 (hc7 h)) (hc6 h))), (fun h => absurd h (fun h => (fun h => hp125_0 (hc7 h)) (hc6 h))), (fun h => absurd h (fun h => (fun h => hp125_0 (hc7 h)) (hc6 h))), (fun h => absurd h (fun h => (fun h => hp125_0 (hc7 h)) (hc6 h))), (fun h => absurd h (fun h => (fun h => hp125_0 (hc7 h)) (hc6 h))), (fun h => absurd h (fun h => (fun h => hp125_0 (hc7 h)) (hc6 h))), (fun h => absurd h (fun h => (fun h => hp125_0 (hc7 h)) (hc6 h)))⟩) hP hD d_Mod_link_204
                              · have h183 := tn_nle h183 (by omega) (by omega)
                                refine lv_aload_n hx hb d_Mod_link_186 rfl (lv_at hl 1 rfl) ?_
                                refine va_get (D := g.1) (ci := 10) (v := .int fa6) (C := R_Mod) (T := F_Mod) (N := 61) hx hb hts in_Mod hown hK hP 0 rfl rfl 8 (by decide) (hts _ wd_1258) (fun _ h9 => h9) rfl d_Mod_link_187 ?_
                                refine lv_if_ne (tgt := 204) hx hb d_Mod_link_190 (by decide) (fun h190 => ?_) (fun h190 => ?_)
                                · exact tw_vret E hS (fa6, fp6) (⟨(fun h => absurd h h190), (fun h => absurd h h190), (fun h => absurd h h190), (fun h => absurd h h190), (fun h => absurd h h190), (fun h => absurd h h190), (fun h => absurd h h190)⟩) hP hD d_Mod_link_204
                                · exact absurd h190 (fun h => (fun h => hp125_0 (hc7 h)) (hc6 h))
                          exact loop178 _ 0 fa7 fp7 ls _ _ rfl (fun h => h) (by omega) (fun _ j h2 => absurd h2 (Nat.not_lt_zero j)) (hl) hP hD hS
                        · have h133 := tn_nle h133 (by omega) (by omega)
                          refine lv_aload_n hx hb d_Mod_link_136 rfl (lv_at hl 1 rfl) ?_
                          refine va_get (D := g.1) (ci := 10) (v := .int fa7) (C := R_Mod) (T := F_Mod) (N := 61) hx hb hts in_Mod hown hK hP 0 rfl rfl 8 (by decide) (hts _ wd_1258) (fun _ h9 => h9) rfl d_Mod_link_137 ?_
                          refine lv_if_ne (tgt := 176) hx hb d_Mod_link_140 (by decide) (fun h140 => ?_) (fun h140 => ?_)
                          · refine lv_iconst (v := 0) hx hb d_Mod_link_176 (by decide) ?_
                            refine lv_istore_n hx hb d_Mod_link_177 rfl hl (by decide) rfl (fun ls hl => ?_)
                            have hl : lv_has ls 2 [(1, .int 0), (0, .ref h0)] := hl
                            have loop178 : ∀ (kq : Nat) (i : Nat) (fa6 : Int32) (fp6 : Int32) (ls : Array Slot) (H : Heap) (locs : List Loc) , me - i = kq → (hc6 : fa6 = 0 → fa7 = 0) → (hui6 : i ≤ 700) → (hLMk : fa6 = 0 → ∀ j, j < i → LMB bs mn tg on tw fd na ty j) → lv_has ls 2 [(1, .int (nI i)), (0, .ref h0)] → va_P g.1 classes [(h0, .inr (10, mob q rf n mm mb fa6 fp6 av ev wi mn tp tc sc nf fd me mp xn mt wh tq ag an ig)), ((q 2), aI g 600 bs), ((q 14), aI g 620 tg), ((q 15), aI g 620 tl), ((q 16), aI g 620 on), ((q 17), aI g 620 tw), ((q 22), aI g 320 fc), ((q 23), aI g 320 fq), ((q 27), aI g 160 fl), ((q 28), aI g 160 pl), ((q 29), aI g 160 na), ((q 30), aI g 160 ty), ((q 31), aI g 160 ca)] H → va_D A [(h0, .inr (10, mob q rf n mm mb fa6 fp6 av ev wi mn tp tc sc nf fd me mp xn mt wh tq ag an ig)), ((q 2), aI g 600 bs), ((q 14), aI g 620 tg), ((q 15), aI g 620 tl), ((q 16), aI g 620 on), ((q 17), aI g 620 tw), ((q 22), aI g 320 fc), ((q 23), aI g 320 fq), ((q 27), aI g 160 fl), ((q 28), aI g 160 pl), ((q 29), aI g 160 na), ((q 30), aI g 160 ty), ((q 31), aI g 160 ca)] → va_S A s.heap H locs → W p l e ({ frames := 7, cells := 0, slots := 0, locals := 164 }) s m [.ref h0].toArray below meth c H locs 0 0 (MQ below (tw_Qv g (fun (u : Int32 × Int32) => (u.1 = 0 → fa = 0) ∧ (u.1 = 0 → LCA mn tg on tw) ∧ (u.1 = 0 → ∀ j, 0 < j → j < mn → MC1 bs tg on tw j) ∧ (u.1 = 0 → TGv mn tg 7 tc) ∧ (u.1 = 0 → TGv mn tg 7 sc) ∧ (u.1 = 0 → ∀ j, j < nf → TGv mn tg 7 (fc j)) ∧ (u.1 = 0 → ∀ j, j < me → LMB bs mn tg on tw fd na ty j)) (fun u : Int32 × Int32 => [(h0, .inr (10, mob q rf n mm mb u.1 u.2 av ev wi mn tp tc sc nf fd me mp xn mt wh tq ag an ig)), ((q 2), aI g 600 bs), ((q 14), aI g 620 tg), ((q 15), aI g 620 tl), ((q 16), aI g 620 on), ((q 17), aI g 620 tw), ((q 22), aI g 320 fc), ((q 23), aI g 320 fq), ((q 27), aI g 160 fl), ((q 28), aI g 160 pl), ((q 29), aI g 160 na), ((q 30), aI g 160 ty), ((q 31), aI g 160 ca)]) A) [.ref h0].toArray s 0 0 A) (F0 m 178 ls []) := by
                              intro kq
                              induction kq using Nat.strongRecOn with
                              | _ kq ih178 =>
                                intro i fa6 fp6 ls H locs hk178 hc6 hui6 hLMk hl hP hD hS
                                refine lv_iload_n hx hb d_Mod_link_178 rfl (lv_at hl 0 rfl) ?_
                                refine lv_aload_n hx hb d_Mod_link_179 rfl (lv_at hl 1 rfl) ?_
                                refine va_get (D := g.1) (ci := 10) (v := .int (nI me)) (C := R_Mod) (T := F_Mod) (N := 61) hx hb hts in_Mod hown hK hP 0 rfl rfl 25 (by decide) (hts _ wd_1275) (fun _ h9 => h9) rfl d_Mod_link_180 ?_
                                refine lv_icmp_ge (tgt := 204) hx hb d_Mod_link_183 (by decide) (fun h183 => ?_) (fun h183 => ?_)
                                · have h183 := tn_le h183 (by omega) (by omega)
                                  exact tw_vret E hS (fa6, fp6) (⟨(fun h => absurd h (fun h => h140 (hc6 h))), (fun h => absurd h (fun h => h140 (hc6 h))), (fun h => absurd h (fun h => h140 (hc6 h))), (fun h => absurd h (fun h => h140 (hc6 h))), (fun h => absurd h (fun h => h140 (hc6 h))), (fun h => absurd h (fun h => h140 (hc6 h))), (fun h => absurd h (fun h => h140 (hc6 h)))⟩) hP hD d_Mod_link_204
                                · have h183 := tn_nle h183 (by omega) (by omega)
                                  refine lv_aload_n hx hb d_Mod_link_186 rfl (lv_at hl 1 rfl) ?_
                                  refine va_get (D := g.1) (ci := 10) (v := .int fa6) (C := R_Mod) (T := F_Mod) (N := 61) hx hb hts in_Mod hown hK hP 0 rfl rfl 8 (by decide) (hts _ wd_1258) (fun _ h9 => h9) rfl d_Mod_link_187 ?_
                                  refine lv_if_ne (tgt := 204) hx hb d_Mod_link_190 (by decide) (fun h190 => ?_) (fun h190 => ?_)
                                  · exact tw_vret E hS (fa6, fp6) (⟨(fun h => absurd h h190), (fun h => absurd h h190), (fun h => absurd h h190), (fun h => absurd h h190), (fun h => absurd h h190), (fun h => absurd h h190), (fun h => absurd h h190)⟩) hP hD d_Mod_link_204
                                  · exact absurd h190 (fun h => h140 (hc6 h))
                            exact loop178 _ 0 fa7 fp7 ls _ _ rfl (fun h => h) (by omega) (fun _ j h2 => absurd h2 (Nat.not_lt_zero j)) (hl) hP hD hS
                          · exact absurd h140 (fun h => hp125_0 (hc7 h))
                    exact loop128 _ 0 u125.1 u125.2 ls _ _ rfl (fun h => h) (by omega) (fun _ j h2 => absurd h2 (Nat.not_lt_zero j)) (hl) hP hD hS
                · refine lv_aload_n hx hb d_Mod_link_91 rfl (lv_at hl 1 rfl) ?_
                  refine lv_bipush (v := 6) hx hb d_Mod_link_92 (by decide) ?_
                  refine lv_aload_n hx hb d_Mod_link_94 rfl (lv_at hl 1 rfl) ?_
                  refine va_get (D := g.1) (ci := 10) (v := .int tp) (C := R_Mod) (T := F_Mod) (N := 61) hx hb hts in_Mod hown hK hP 0 rfl rfl 18 (by decide) (hts _ wd_1268) (fun _ h9 => h9) rfl d_Mod_link_95 ?_
                  refine tw_wv (wr := [((q 2), aI g 600 bs), ((q 14), aI g 620 tg), ((q 15), aI g 620 tl), ((q 16), aI g 620 on), ((q 17), aI g 620 tw), ((q 22), aI g 320 fc), ((q 23), aI g 320 fq), ((q 27), aI g 160 fl), ((q 28), aI g 160 pl), ((q 29), aI g 160 na), ((q 30), aI g 160 ty), ((q 31), aI g 160 ca)]) (tw_runV (ws := [(h0, .inr (10, mob q rf n mm mb fa8 fp8 av ev wi mn tp tc sc nf fd me mp xn mt wh tq ag an ig)), ((q 2), aI g 600 bs), ((q 14), aI g 620 tg), ((q 15), aI g 620 tl), ((q 16), aI g 620 on), ((q 17), aI g 620 tw), ((q 22), aI g 320 fc), ((q 23), aI g 320 fq), ((q 27), aI g 160 fl), ((q 28), aI g 160 pl), ((q 29), aI g 160 na), ((q 30), aI g 160 ty), ((q 31), aI g 160 ca)]) (wc := [(h0, .inr (10, mob q rf n mm mb fa8 fp8 av ev wi mn tp tc sc nf fd me mp xn mt wh tq ag an ig))]) (As := [.int 6, .int tp]) (rest := []) E hB hK hZ (g_Mod_fail l g H.size h0 q rf n mm mb av ev wi mn tp tc sc nf fd me mp xn mt wh tq ag an ig fa8 fp8 6 tp (by decide)) mc_Mod_fail mi_Mod_fail me_Mod_fail wd_1478 hP hD hS hA [0] rfl (by decide) 0 rfl rfl rfl rfl rfl (by decide) rfl hl.1 rfl (Nat.le_of_ble_eq_true rfl) (by decide) d_Mod_link_98) hP hD hS hA [0] [1, 2, 3, 4, 5, 6, 7, 8, 9, 10, 11, 12] rfl rfl (by decide) (by decide) (fun u127 H locs hr126 hP hD hS => ?_)
                  try dsimp only at hr126
                  have hP : va_P g.1 classes [((q 2), aI g 600 bs), ((q 14), aI g 620 tg), ((q 15), aI g 620 tl), ((q 16), aI g 620 on), ((q 17), aI g 620 tw), ((q 22), aI g 320 fc), ((q 23), aI g 320 fq), ((q 27), aI g 160 fl), ((q 28), aI g 160 pl), ((q 29), aI g 160 na), ((q 30), aI g 160 ty), ((q 31), aI g 160 ca), (h0, .inr (10, mob q rf n mm mb u127.1 u127.2 av ev wi mn tp tc sc nf fd me mp xn mt wh tq ag an ig))] H := hP
                  have hD : va_D A [((q 2), aI g 600 bs), ((q 14), aI g 620 tg), ((q 15), aI g 620 tl), ((q 16), aI g 620 on), ((q 17), aI g 620 tw), ((q 22), aI g 320 fc), ((q 23), aI g 320 fq), ((q 27), aI g 160 fl), ((q 28), aI g 160 pl), ((q 29), aI g 160 na), ((q 30), aI g 160 ty), ((q 31), aI g 160 ca), (h0, .inr (10, mob q rf n mm mb u127.1 u127.2 av ev wi mn tp tc sc nf fd me mp xn mt wh tq ag an ig))] := hD
                  have hP : va_P g.1 classes [(h0, .inr (10, mob q rf n mm mb u127.1 u127.2 av ev wi mn tp tc sc nf fd me mp xn mt wh tq ag an ig)), ((q 2), aI g 600 bs), ((q 14), aI g 620 tg), ((q 15), aI g 620 tl), ((q 16), aI g 620 on), ((q 17), aI g 620 tw), ((q 22), aI g 320 fc), ((q 23), aI g 320 fq), ((q 27), aI g 160 fl), ((q 28), aI g 160 pl), ((q 29), aI g 160 na), ((q 30), aI g 160 ty), ((q 31), aI g 160 ca)] H := hP.sub [12, 0, 1, 2, 3, 4, 5, 6, 7, 8, 9, 10, 11] rfl
                  have hD : va_D A [(h0, .inr (10, mob q rf n mm mb u127.1 u127.2 av ev wi mn tp tc sc nf fd me mp xn mt wh tq ag an ig)), ((q 2), aI g 600 bs), ((q 14), aI g 620 tg), ((q 15), aI g 620 tl), ((q 16), aI g 620 on), ((q 17), aI g 620 tw), ((q 22), aI g 320 fc), ((q 23), aI g 320 fq), ((q 27), aI g 160 fl), ((q 28), aI g 160 pl), ((q 29), aI g 160 na), ((q 30), aI g 160 ty), ((q 31), aI g 160 ca)] := hD.sub [12, 0, 1, 2, 3, 4, 5, 6, 7, 8, 9, 10, 11] (by decide) rfl
                  have hp127_0 := hr126
                  refine lv_aload_n hx hb d_Mod_link_101 rfl (lv_at hl 1 rfl) ?_
                  refine lv_aload_n hx hb d_Mod_link_102 rfl (lv_at hl 1 rfl) ?_
                  refine va_get (D := g.1) (ci := 10) (v := .int sc) (C := R_Mod) (T := F_Mod) (N := 61) hx hb hts in_Mod hown hK hP 0 rfl rfl 20 (by decide) (hts _ wd_1270) (fun _ h9 => h9) rfl d_Mod_link_103 ?_
                  refine lv_bipush (v := 7) hx hb d_Mod_link_106 (by decide) ?_
                  refine tw_si (tw_runV (ws := [(h0, .inr (10, mob q rf n mm mb u127.1 u127.2 av ev wi mn tp tc sc nf fd me mp xn mt wh tq ag an ig)), ((q 2), aI g 600 bs), ((q 14), aI g 620 tg), ((q 15), aI g 620 tl), ((q 16), aI g 620 on), ((q 17), aI g 620 tw), ((q 22), aI g 320 fc), ((q 23), aI g 320 fq), ((q 27), aI g 160 fl), ((q 28), aI g 160 pl), ((q 29), aI g 160 na), ((q 30), aI g 160 ty), ((q 31), aI g 160 ca)]) (wc := [(h0, .inr (10, mob q rf n mm mb u127.1 u127.2 av ev wi mn tp tc sc nf fd me mp xn mt wh tq ag an ig)), ((q 14), aI g 620 tg)]) (As := [.int sc, .int 7]) (rest := []) E hB hK hZ (g_Mod_isTagI l g H.size h0 q rf n mm mb u127.1 u127.2 av ev wi mn tp tc sc nf fd me mp xn mt wh tq ag an ig tg sc 7 (by omega)) mc_Mod_isTag mi_Mod_isTag me_Mod_isTag wd_1508 hP hD hS hA [0, 2] rfl (by decide) 0 rfl rfl rfl rfl rfl (by decide) rfl hl.1 rfl (Nat.le_of_ble_eq_true rfl) (by decide) d_Mod_link_108) (fun r128 hr128 => ?_)
                  have hB128 := hr128
                  refine lv_if_ne (tgt := 126) hx hb d_Mod_link_111 (by decide) (fun h111 => ?_) (fun h111 => ?_)
                  · have hT111 := hB128.2 (hB128.1.resolve_left h111)
                    refine lv_iconst (v := 0) hx hb d_Mod_link_126 (by decide) ?_
                    refine lv_istore_n hx hb d_Mod_link_127 rfl hl (by decide) rfl (fun ls hl => ?_)
                    have hl : lv_has ls 2 [(1, .int 0), (0, .ref h0)] := hl
                    have loop128 : ∀ (kq : Nat) (i : Nat) (fa7 : Int32) (fp7 : Int32) (ls : Array Slot) (H : Heap) (locs : List Loc) , nf - i = kq → (hc7 : fa7 = 0 → u127.1 = 0) → (hui7 : i ≤ 700) → (hFCk : fa7 = 0 → ∀ j, j < i → TGv mn tg 7 (fc j)) → lv_has ls 2 [(1, .int (nI i)), (0, .ref h0)] → va_P g.1 classes [(h0, .inr (10, mob q rf n mm mb fa7 fp7 av ev wi mn tp tc sc nf fd me mp xn mt wh tq ag an ig)), ((q 2), aI g 600 bs), ((q 14), aI g 620 tg), ((q 15), aI g 620 tl), ((q 16), aI g 620 on), ((q 17), aI g 620 tw), ((q 22), aI g 320 fc), ((q 23), aI g 320 fq), ((q 27), aI g 160 fl), ((q 28), aI g 160 pl), ((q 29), aI g 160 na), ((q 30), aI g 160 ty), ((q 31), aI g 160 ca)] H → va_D A [(h0, .inr (10, mob q rf n mm mb fa7 fp7 av ev wi mn tp tc sc nf fd me mp xn mt wh tq ag an ig)), ((q 2), aI g 600 bs), ((q 14), aI g 620 tg), ((q 15), aI g 620 tl), ((q 16), aI g 620 on), ((q 17), aI g 620 tw), ((q 22), aI g 320 fc), ((q 23), aI g 320 fq), ((q 27), aI g 160 fl), ((q 28), aI g 160 pl), ((q 29), aI g 160 na), ((q 30), aI g 160 ty), ((q 31), aI g 160 ca)] → va_S A s.heap H locs → W p l e ({ frames := 7, cells := 0, slots := 0, locals := 164 }) s m [.ref h0].toArray below meth c H locs 0 0 (MQ below (tw_Qv g (fun (u : Int32 × Int32) => (u.1 = 0 → fa = 0) ∧ (u.1 = 0 → LCA mn tg on tw) ∧ (u.1 = 0 → ∀ j, 0 < j → j < mn → MC1 bs tg on tw j) ∧ (u.1 = 0 → TGv mn tg 7 tc) ∧ (u.1 = 0 → TGv mn tg 7 sc) ∧ (u.1 = 0 → ∀ j, j < nf → TGv mn tg 7 (fc j)) ∧ (u.1 = 0 → ∀ j, j < me → LMB bs mn tg on tw fd na ty j)) (fun u : Int32 × Int32 => [(h0, .inr (10, mob q rf n mm mb u.1 u.2 av ev wi mn tp tc sc nf fd me mp xn mt wh tq ag an ig)), ((q 2), aI g 600 bs), ((q 14), aI g 620 tg), ((q 15), aI g 620 tl), ((q 16), aI g 620 on), ((q 17), aI g 620 tw), ((q 22), aI g 320 fc), ((q 23), aI g 320 fq), ((q 27), aI g 160 fl), ((q 28), aI g 160 pl), ((q 29), aI g 160 na), ((q 30), aI g 160 ty), ((q 31), aI g 160 ca)]) A) [.ref h0].toArray s 0 0 A) (F0 m 128 ls []) := by
                      intro kq
                      induction kq using Nat.strongRecOn with
                      | _ kq ih128 =>
                        intro i fa7 fp7 ls H locs hk128 hc7 hui7 hFCk hl hP hD hS
                        refine lv_iload_n hx hb d_Mod_link_128 rfl (lv_at hl 0 rfl) ?_
                        refine lv_aload_n hx hb d_Mod_link_129 rfl (lv_at hl 1 rfl) ?_
                        refine va_get (D := g.1) (ci := 10) (v := .int (nI nf)) (C := R_Mod) (T := F_Mod) (N := 61) hx hb hts in_Mod hown hK hP 0 rfl rfl 21 (by decide) (hts _ wd_1271) (fun _ h9 => h9) rfl d_Mod_link_130 ?_
                        refine lv_icmp_ge (tgt := 176) hx hb d_Mod_link_133 (by decide) (fun h133 => ?_) (fun h133 => ?_)
                        · have h133 := tn_le h133 (by omega) (by omega)
                          refine lv_iconst (v := 0) hx hb d_Mod_link_176 (by decide) ?_
                          refine lv_istore_n hx hb d_Mod_link_177 rfl hl (by decide) rfl (fun ls hl => ?_)
                          have hl : lv_has ls 2 [(1, .int 0), (0, .ref h0)] := hl
                          have loop178 : ∀ (kq : Nat) (i : Nat) (fa6 : Int32) (fp6 : Int32) (ls : Array Slot) (H : Heap) (locs : List Loc) , me - i = kq → (hc6 : fa6 = 0 → fa7 = 0) → (hui6 : i ≤ 700) → (hLMk : fa6 = 0 → ∀ j, j < i → LMB bs mn tg on tw fd na ty j) → lv_has ls 2 [(1, .int (nI i)), (0, .ref h0)] → va_P g.1 classes [(h0, .inr (10, mob q rf n mm mb fa6 fp6 av ev wi mn tp tc sc nf fd me mp xn mt wh tq ag an ig)), ((q 2), aI g 600 bs), ((q 14), aI g 620 tg), ((q 15), aI g 620 tl), ((q 16), aI g 620 on), ((q 17), aI g 620 tw), ((q 22), aI g 320 fc), ((q 23), aI g 320 fq), ((q 27), aI g 160 fl), ((q 28), aI g 160 pl), ((q 29), aI g 160 na), ((q 30), aI g 160 ty), ((q 31), aI g 160 ca)] H → va_D A [(h0, .inr (10, mob q rf n mm mb fa6 fp6 av ev wi mn tp tc sc nf fd me mp xn mt wh tq ag an ig)), ((q 2), aI g 600 bs), ((q 14), aI g 620 tg), ((q 15), aI g 620 tl), ((q 16), aI g 620 on), ((q 17), aI g 620 tw), ((q 22), aI g 320 fc), ((q 23), aI g 320 fq), ((q 27), aI g 160 fl), ((q 28), aI g 160 pl), ((q 29), aI g 160 na), ((q 30), aI g 160 ty), ((q 31), aI g 160 ca)] → va_S A s.heap H locs → W p l e ({ frames := 7, cells := 0, slots := 0, locals := 164 }) s m [.ref h0].toArray below meth c H locs 0 0 (MQ below (tw_Qv g (fun (u : Int32 × Int32) => (u.1 = 0 → fa = 0) ∧ (u.1 = 0 → LCA mn tg on tw) ∧ (u.1 = 0 → ∀ j, 0 < j → j < mn → MC1 bs tg on tw j) ∧ (u.1 = 0 → TGv mn tg 7 tc) ∧ (u.1 = 0 → TGv mn tg 7 sc) ∧ (u.1 = 0 → ∀ j, j < nf → TGv mn tg 7 (fc j)) ∧ (u.1 = 0 → ∀ j, j < me → LMB bs mn tg on tw fd na ty j)) (fun u : Int32 × Int32 => [(h0, .inr (10, mob q rf n mm mb u.1 u.2 av ev wi mn tp tc sc nf fd me mp xn mt wh tq ag an ig)), ((q 2), aI g 600 bs), ((q 14), aI g 620 tg), ((q 15), aI g 620 tl), ((q 16), aI g 620 on), ((q 17), aI g 620 tw), ((q 22), aI g 320 fc), ((q 23), aI g 320 fq), ((q 27), aI g 160 fl), ((q 28), aI g 160 pl), ((q 29), aI g 160 na), ((q 30), aI g 160 ty), ((q 31), aI g 160 ca)]) A) [.ref h0].toArray s 0 0 A) (F0 m 178 ls []) := by
                            intro kq
                            induction kq using Nat.strongRecOn with
                            | _ kq ih178 =>
                              intro i fa6 fp6 ls H locs hk178 hc6 hui6 hLMk hl hP hD hS
                              refine lv_iload_n hx hb d_Mod_link_178 rfl (lv_at hl 0 rfl) ?_
                              refine lv_aload_n hx hb d_Mod_link_179 rfl (lv_at hl 1 rfl) ?_
                              refine va_get (D := g.1) (ci := 10) (v := .int (nI me)) (C := R_Mod) (T := F_Mod) (N := 61) hx hb hts in_Mod hown hK hP 0 rfl rfl 25 (by decide) (hts _ wd_1275) (fun _ h9 => h9) rfl d_Mod_link_180 ?_
                              refine lv_icmp_ge (tgt := 204) hx hb d_Mod_link_183 (by decide) (fun h183 => ?_) (fun h183 => ?_)
                              · have h183 := tn_le h183 (by omega) (by omega)
                                exact tw_vret E hS (fa6, fp6) (⟨(fun h => absurd h (fun h => (fun h => hp127_0 (hc7 h)) (hc6 h))), (fun h => absurd h (fun h => (fun h => hp127_0 (hc7 h)) (hc6 h))), (fun h => absurd h (fun h => (fun h => hp127_0 (hc7 h)) (hc6 h))), (fun h => absurd h (fun h => (fun h => hp127_0 (hc7 h)) (hc6 h))), (fun h => absurd h (fun h => (fun h => hp127_0 (hc7 h)) (hc6 h))), (fun h => absurd h (fun h => (fun h => hp127_0 (hc7 h)) (hc6 h))), (fun h => absurd h (fun h => (fun h => hp127_0 (hc7 h)) (hc6 h)))⟩) hP hD d_Mod_link_204
                              · have h183 := tn_nle h183 (by omega) (by omega)
                                refine lv_aload_n hx hb d_Mod_link_186 rfl (lv_at hl 1 rfl) ?_
                                refine va_get (D := g.1) (ci := 10) (v := .int fa6) (C := R_Mod) (T := F_Mod) (N := 61) hx hb hts in_Mod hown hK hP 0 rfl rfl 8 (by decide) (hts _ wd_1258) (fun _ h9 => h9) rfl d_Mod_link_187 ?_
                                refine lv_if_ne (tgt := 204) hx hb d_Mod_link_190 (by decide) (fun h190 => ?_) (fun h190 => ?_)
                                · exact tw_vret E hS (fa6, fp6) (⟨(fun h => absurd h h190), (fun h => absurd h h190), (fun h => absurd h h190), (fun h => absurd h h190), (fun h => absurd h h190), (fun h => absurd h h190), (fun h => absurd h h190)⟩) hP hD d_Mod_link_204
                                · exact absurd h190 (fun h => (fun h => hp127_0 (hc7 h)) (hc6 h))
                          exact loop178 _ 0 fa7 fp7 ls _ _ rfl (fun h => h) (by omega) (fun _ j h2 => absurd h2 (Nat.not_lt_zero j)) (hl) hP hD hS
                        · have h133 := tn_nle h133 (by omega) (by omega)
                          refine lv_aload_n hx hb d_Mod_link_136 rfl (lv_at hl 1 rfl) ?_
                          refine va_get (D := g.1) (ci := 10) (v := .int fa7) (C := R_Mod) (T := F_Mod) (N := 61) hx hb hts in_Mod hown hK hP 0 rfl rfl 8 (by decide) (hts _ wd_1258) (fun _ h9 => h9) rfl d_Mod_link_137 ?_
                          refine lv_if_ne (tgt := 176) hx hb d_Mod_link_140 (by decide) (fun h140 => ?_) (fun h140 => ?_)
                          · refine lv_iconst (v := 0) hx hb d_Mod_link_176 (by decide) ?_
                            refine lv_istore_n hx hb d_Mod_link_177 rfl hl (by decide) rfl (fun ls hl => ?_)
                            have hl : lv_has ls 2 [(1, .int 0), (0, .ref h0)] := hl
                            have loop178 : ∀ (kq : Nat) (i : Nat) (fa6 : Int32) (fp6 : Int32) (ls : Array Slot) (H : Heap) (locs : List Loc) , me - i = kq → (hc6 : fa6 = 0 → fa7 = 0) → (hui6 : i ≤ 700) → (hLMk : fa6 = 0 → ∀ j, j < i → LMB bs mn tg on tw fd na ty j) → lv_has ls 2 [(1, .int (nI i)), (0, .ref h0)] → va_P g.1 classes [(h0, .inr (10, mob q rf n mm mb fa6 fp6 av ev wi mn tp tc sc nf fd me mp xn mt wh tq ag an ig)), ((q 2), aI g 600 bs), ((q 14), aI g 620 tg), ((q 15), aI g 620 tl), ((q 16), aI g 620 on), ((q 17), aI g 620 tw), ((q 22), aI g 320 fc), ((q 23), aI g 320 fq), ((q 27), aI g 160 fl), ((q 28), aI g 160 pl), ((q 29), aI g 160 na), ((q 30), aI g 160 ty), ((q 31), aI g 160 ca)] H → va_D A [(h0, .inr (10, mob q rf n mm mb fa6 fp6 av ev wi mn tp tc sc nf fd me mp xn mt wh tq ag an ig)), ((q 2), aI g 600 bs), ((q 14), aI g 620 tg), ((q 15), aI g 620 tl), ((q 16), aI g 620 on), ((q 17), aI g 620 tw), ((q 22), aI g 320 fc), ((q 23), aI g 320 fq), ((q 27), aI g 160 fl), ((q 28), aI g 160 pl), ((q 29), aI g 160 na), ((q 30), aI g 160 ty), ((q 31), aI g 160 ca)] → va_S A s.heap H locs → W p l e ({ frames := 7, cells := 0, slots := 0, locals := 164 }) s m [.ref h0].toArray below meth c H locs 0 0 (MQ below (tw_Qv g (fun (u : Int32 × Int32) => (u.1 = 0 → fa = 0) ∧ (u.1 = 0 → LCA mn tg on tw) ∧ (u.1 = 0 → ∀ j, 0 < j → j < mn → MC1 bs tg on tw j) ∧ (u.1 = 0 → TGv mn tg 7 tc) ∧ (u.1 = 0 → TGv mn tg 7 sc) ∧ (u.1 = 0 → ∀ j, j < nf → TGv mn tg 7 (fc j)) ∧ (u.1 = 0 → ∀ j, j < me → LMB bs mn tg on tw fd na ty j)) (fun u : Int32 × Int32 => [(h0, .inr (10, mob q rf n mm mb u.1 u.2 av ev wi mn tp tc sc nf fd me mp xn mt wh tq ag an ig)), ((q 2), aI g 600 bs), ((q 14), aI g 620 tg), ((q 15), aI g 620 tl), ((q 16), aI g 620 on), ((q 17), aI g 620 tw), ((q 22), aI g 320 fc), ((q 23), aI g 320 fq), ((q 27), aI g 160 fl), ((q 28), aI g 160 pl), ((q 29), aI g 160 na), ((q 30), aI g 160 ty), ((q 31), aI g 160 ca)]) A) [.ref h0].toArray s 0 0 A) (F0 m 178 ls []) := by
                              intro kq
                              induction kq using Nat.strongRecOn with
                              | _ kq ih178 =>
                                intro i fa6 fp6 ls H locs hk178 hc6 hui6 hLMk hl hP hD hS
                                refine lv_iload_n hx hb d_Mod_link_178 rfl (lv_at hl 0 rfl) ?_
                                refine lv_aload_n hx hb d_Mod_link_179 rfl (lv_at hl 1 rfl) ?_
                                refine va_get (D := g.1) (ci := 10) (v := .int (nI me)) (C := R_Mod) (T := F_Mod) (N := 61) hx hb hts in_Mod hown hK hP 0 rfl rfl 25 (by decide) (hts _ wd_1275) (fun _ h9 => h9) rfl d_Mod_link_180 ?_
                                refine lv_icmp_ge (tgt := 204) hx hb d_Mod_link_183 (by decide) (fun h183 => ?_) (fun h183 => ?_)
                                · have h183 := tn_le h183 (by omega) (by omega)
                                  exact tw_vret E hS (fa6, fp6) (⟨(fun h => absurd h (fun h => h140 (hc6 h))), (fun h => absurd h (fun h => h140 (hc6 h))), (fun h => absurd h (fun h => h140 (hc6 h))), (fun h => absurd h (fun h => h140 (hc6 h))), (fun h => absurd h (fun h => h140 (hc6 h))), (fun h => absurd h (fun h => h140 (hc6 h))), (fun h => absurd h (fun h => h140 (hc6 h)))⟩) hP hD d_Mod_link_204
                                · have h183 := tn_nle h183 (by omega) (by omega)
                                  refine lv_aload_n hx hb d_Mod_link_186 rfl (lv_at hl 1 rfl) ?_
                                  refine va_get (D := g.1) (ci := 10) (v := .int fa6) (C := R_Mod) (T := F_Mod) (N := 61) hx hb hts in_Mod hown hK hP 0 rfl rfl 8 (by decide) (hts _ wd_1258) (fun _ h9 => h9) rfl d_Mod_link_187 ?_
                                  refine lv_if_ne (tgt := 204) hx hb d_Mod_link_190 (by decide) (fun h190 => ?_) (fun h190 => ?_)
                                  · exact tw_vret E hS (fa6, fp6) (⟨(fun h => absurd h h190), (fun h => absurd h h190), (fun h => absurd h h190), (fun h => absurd h h190), (fun h => absurd h h190), (fun h => absurd h h190), (fun h => absurd h h190)⟩) hP hD d_Mod_link_204
                                  · exact absurd h190 (fun h => h140 (hc6 h))
                            exact loop178 _ 0 fa7 fp7 ls _ _ rfl (fun h => h) (by omega) (fun _ j h2 => absurd h2 (Nat.not_lt_zero j)) (hl) hP hD hS
                          · exact absurd h140 (fun h => hp127_0 (hc7 h))
                    exact loop128 _ 0 u127.1 u127.2 ls _ _ rfl (fun h => h) (by omega) (fun _ j h2 => absurd h2 (Nat.not_lt_zero j)) (hl) hP hD hS
                  · refine lv_aload_n hx hb d_Mod_link_114 rfl (lv_at hl 1 rfl) ?_
                    refine lv_bipush (v := 6) hx hb d_Mod_link_115 (by decide) ?_
                    refine lv_aload_n hx hb d_Mod_link_117 rfl (lv_at hl 1 rfl) ?_
                    refine va_get (D := g.1) (ci := 10) (v := .int tp) (C := R_Mod) (T := F_Mod) (N := 61) hx hb hts in_Mod hown hK hP 0 rfl rfl 18 (by decide) (hts _ wd_1268) (fun _ h9 => h9) rfl d_Mod_link_118 ?_
                    refine lv_iconst (v := 2) hx hb d_Mod_link_121 (by decide) ?_
                    refine lv_iadd hx hb d_Mod_link_122 ?_
                    obtain ⟨x129, ex129⟩ : ∃ z : Int32, tp + 2 = z := ⟨_, rfl⟩
                    refine tw_ri (e2 := x129) ex129 ?_
                    refine tw_wv (wr := [((q 2), aI g 600 bs), ((q 14), aI g 620 tg), ((q 15), aI g 620 tl), ((q 16), aI g 620 on), ((q 17), aI g 620 tw), ((q 22), aI g 320 fc), ((q 23), aI g 320 fq), ((q 27), aI g 160 fl), ((q 28), aI g 160 pl), ((q 29), aI g 160 na), ((q 30), aI g 160 ty), ((q 31), aI g 160 ca)]) (tw_runV (ws := [(h0, .inr (10, mob q rf n mm mb u127.1 u127.2 av ev wi mn tp tc sc nf fd me mp xn mt wh tq ag an ig)), ((q 2), aI g 600 bs), ((q 14), aI g 620 tg), ((q 15), aI g 620 tl), ((q 16), aI g 620 on), ((q 17), aI g 620 tw), ((q 22), aI g 320 fc), ((q 23), aI g 320 fq), ((q 27), aI g 160 fl), ((q 28), aI g 160 pl), ((q 29), aI g 160 na), ((q 30), aI g 160 ty), ((q 31), aI g 160 ca)]) (wc := [(h0, .inr (10, mob q rf n mm mb u127.1 u127.2 av ev wi mn tp tc sc nf fd me mp xn mt wh tq ag an ig))]) (As := [.int 6, .int x129]) (rest := []) E hB hK hZ (g_Mod_fail l g H.size h0 q rf n mm mb av ev wi mn tp tc sc nf fd me mp xn mt wh tq ag an ig u127.1 u127.2 6 x129 (by decide)) mc_Mod_fail mi_Mod_fail me_Mod_fail wd_1478 hP hD hS hA [0] rfl (by decide) 0 rfl rfl rfl rfl rfl (by decide) rfl hl.1 rfl (Nat.le_of_ble_eq_true rfl) (by decide) d_Mod_link_123) hP hD hS hA [0] [1, 2, 3, 4, 5, 6, 7, 8, 9, 10, 11, 12] rfl rfl (by decide) (by decide) (fun u131 H locs hr130 hP hD hS => ?_)
                    try dsimp only at hr130
                    have hP : va_P g.1 classes [((q 2), aI g 600 bs), ((q 14), aI g 620 tg), ((q 15), aI g 620 tl), ((q 16), aI g 620 on), ((q 17), aI g 620 tw), ((q 22), aI g 320 fc), ((q 23), aI g 320 fq), ((q 27), aI g 160 fl), ((q 28), aI g 160 pl), ((q 29), aI g 160 na), ((q 30), aI g 160 ty), ((q 31), aI g 160 ca), (h0, .inr (10, mob q rf n mm mb u131.1 u131.2 av ev wi mn tp tc sc nf fd me mp xn mt wh tq ag an ig))] H := hP
                    have hD : va_D A [((q 2), aI g 600 bs), ((q 14), aI g 620 tg), ((q 15), aI g 620 tl), ((q 16), aI g 620 on), ((q 17), aI g 620 tw), ((q 22), aI g 320 fc), ((q 23), aI g 320 fq), ((q 27), aI g 160 fl), ((q 28), aI g 160 pl), ((q 29), aI g 160 na), ((q 30), aI g 160 ty), ((q 31), aI g 160 ca), (h0, .inr (10, mob q rf n mm mb u131.1 u131.2 av ev wi mn tp tc sc nf fd me mp xn mt wh tq ag an ig))] := hD
                    have hP : va_P g.1 classes [(h0, .inr (10, mob q rf n mm mb u131.1 u131.2 av ev wi mn tp tc sc nf fd me mp xn mt wh tq ag an ig)), ((q 2), aI g 600 bs), ((q 14), aI g 620 tg), ((q 15), aI g 620 tl), ((q 16), aI g 620 on), ((q 17), aI g 620 tw), ((q 22), aI g 320 fc), ((q 23), aI g 320 fq), ((q 27), aI g 160 fl), ((q 28), aI g 160 pl), ((q 29), aI g 160 na), ((q 30), aI g 160 ty), ((q 31), aI g 160 ca)] H := hP.sub [12, 0, 1, 2, 3, 4, 5, 6, 7, 8, 9, 10, 11] rfl
                    have hD : va_D A [(h0, .inr (10, mob q rf n mm mb u131.1 u131.2 av ev wi mn tp tc sc nf fd me mp xn mt wh tq ag an ig)), ((q 2), aI g 600 bs), ((q 14), aI g 620 tg), ((q 15), aI g 620 tl), ((q 16), aI g 620 on), ((q 17), aI g 620 tw), ((q 22), aI g 320 fc), ((q 23), aI g 320 fq), ((q 27), aI g 160 fl), ((q 28), aI g 160 pl), ((q 29), aI g 160 na), ((q 30), aI g 160 ty), ((q 31), aI g 160 ca)] := hD.sub [12, 0, 1, 2, 3, 4, 5, 6, 7, 8, 9, 10, 11] (by decide) rfl
                    have hp131_0 := hr130
                    refine lv_iconst (v := 0) hx hb d_Mod_link_126 (by decide) ?_
                    refine lv_istore_n hx hb d_Mod_link_127 rfl hl (by decide) rfl (fun ls hl => ?_)
                    have hl : lv_has ls 2 [(1, .int 0), (0, .ref h0)] := hl
                    have loop128 : ∀ (kq : Nat) (i : Nat) (fa7 : Int32) (fp7 : Int32) (ls : Array Slot) (H : Heap) (locs : List Loc) , nf - i = kq → (hc7 : fa7 = 0 → u131.1 = 0) → (hui7 : i ≤ 700) → (hFCk : fa7 = 0 → ∀ j, j < i → TGv mn tg 7 (fc j)) → lv_has ls 2 [(1, .int (nI i)), (0, .ref h0)] → va_P g.1 classes [(h0, .inr (10, mob q rf n mm mb fa7 fp7 av ev wi mn tp tc sc nf fd me mp xn mt wh tq ag an ig)), ((q 2), aI g 600 bs), ((q 14), aI g 620 tg), ((q 15), aI g 620 tl), ((q 16), aI g 620 on), ((q 17), aI g 620 tw), ((q 22), aI g 320 fc), ((q 23), aI g 320 fq), ((q 27), aI g 160 fl), ((q 28), aI g 160 pl), ((q 29), aI g 160 na), ((q 30), aI g 160 ty), ((q 31), aI g 160 ca)] H → va_D A [(h0, .inr (10, mob q rf n mm mb fa7 fp7 av ev wi mn tp tc sc nf fd me mp xn mt wh tq ag an ig)), ((q 2), aI g 600 bs), ((q 14), aI g 620 tg), ((q 15), aI g 620 tl), ((q 16), aI g 620 on), ((q 17), aI g 620 tw), ((q 22), aI g 320 fc), ((q 23), aI g 320 fq), ((q 27), aI g 160 fl), ((q 28), aI g 160 pl), ((q 29), aI g 160 na), ((q 30), aI g 160 ty), ((q 31), aI g 160 ca)] → va_S A s.heap H locs → W p l e ({ frames := 7, cells := 0, slots := 0, locals := 164 }) s m [.ref h0].toArray below meth c H locs 0 0 (MQ below (tw_Qv g (fun (u : Int32 × Int32) => (u.1 = 0 → fa = 0) ∧ (u.1 = 0 → LCA mn tg on tw) ∧ (u.1 = 0 → ∀ j, 0 < j → j < mn → MC1 bs tg on tw j) ∧ (u.1 = 0 → TGv mn tg 7 tc) ∧ (u.1 = 0 → TGv mn tg 7 sc) ∧ (u.1 = 0 → ∀ j, j < nf → TGv mn tg 7 (fc j)) ∧ (u.1 = 0 → ∀ j, j < me → LMB bs mn tg on tw fd na ty j)) (fun u : Int32 × Int32 => [(h0, .inr (10, mob q rf n mm mb u.1 u.2 av ev wi mn tp tc sc nf fd me mp xn mt wh tq ag an ig)), ((q 2), aI g 600 bs), ((q 14), aI g 620 tg), ((q 15), aI g 620 tl), ((q 16), aI g 620 on), ((q 17), aI g 620 tw), ((q 22), aI g 320 fc), ((q 23), aI g 320 fq), ((q 27), aI g 160 fl), ((q 28), aI g 160 pl), ((q 29), aI g 160 na), ((q 30), aI g 160 ty), ((q 31), aI g 160 ca)]) A) [.ref h0].toArray s 0 0 A) (F0 m 128 ls []) := by
                      intro kq
                      induction kq using Nat.strongRecOn with
                      | _ kq ih128 =>
                        intro i fa7 fp7 ls H locs hk128 hc7 hui7 hFCk hl hP hD hS
                        refine lv_iload_n hx hb d_Mod_link_128 rfl (lv_at hl 0 rfl) ?_
                        refine lv_aload_n hx hb d_Mod_link_129 rfl (lv_at hl 1 rfl) ?_
                        refine va_get (D := g.1) (ci := 10) (v := .int (nI nf)) (C := R_Mod) (T := F_Mod) (N := 61) hx hb hts in_Mod hown hK hP 0 rfl rfl 21 (by decide) (hts _ wd_1271) (fun _ h9 => h9) rfl d_Mod_link_130 ?_
                        refine lv_icmp_ge (tgt := 176) hx hb d_Mod_link_133 (by decide) (fun h133 => ?_) (fun h133 => ?_)
                        · have h133 := tn_le h133 (by omega) (by omega)
                          refine lv_iconst (v := 0) hx hb d_Mod_link_176 (by decide) ?_
                          refine lv_istore_n hx hb d_Mod_link_177 rfl hl (by decide) rfl (fun ls hl => ?_)
                          have hl : lv_has ls 2 [(1, .int 0), (0, .ref h0)] := hl
                          have loop178 : ∀ (kq : Nat) (i : Nat) (fa6 : Int32) (fp6 : Int32) (ls : Array Slot) (H : Heap) (locs : List Loc) , me - i = kq → (hc6 : fa6 = 0 → fa7 = 0) → (hui6 : i ≤ 700) → (hLMk : fa6 = 0 → ∀ j, j < i → LMB bs mn tg on tw fd na ty j) → lv_has ls 2 [(1, .int (nI i)), (0, .ref h0)] → va_P g.1 classes [(h0, .inr (10, mob q rf n mm mb fa6 fp6 av ev wi mn tp tc sc nf fd me mp xn mt wh tq ag an ig)), ((q 2), aI g 600 bs), ((q 14), aI g 620 tg), ((q 15), aI g 620 tl), ((q 16), aI g 620 on), ((q 17), aI g 620 tw), ((q 22), aI g 320 fc), ((q 23), aI g 320 fq), ((q 27), aI g 160 fl), ((q 28), aI g 160 pl), ((q 29), aI g 160 na), ((q 30), aI g 160 ty), ((q 31), aI g 160 ca)] H → va_D A [(h0, .inr (10, mob q rf n mm mb fa6 fp6 av ev wi mn tp tc sc nf fd me mp xn mt wh tq ag an ig)), ((q 2), aI g 600 bs), ((q 14), aI g 620 tg), ((q 15), aI g 620 tl), ((q 16), aI g 620 on), ((q 17), aI g 620 tw), ((q 22), aI g 320 fc), ((q 23), aI g 320 fq), ((q 27), aI g 160 fl), ((q 28), aI g 160 pl), ((q 29), aI g 160 na), ((q 30), aI g 160 ty), ((q 31), aI g 160 ca)] → va_S A s.heap H locs → W p l e ({ frames := 7, cells := 0, slots := 0, locals := 164 }) s m [.ref h0].toArray below meth c H locs 0 0 (MQ below (tw_Qv g (fun (u : Int32 × Int32) => (u.1 = 0 → fa = 0) ∧ (u.1 = 0 → LCA mn tg on tw) ∧ (u.1 = 0 → ∀ j, 0 < j → j < mn → MC1 bs tg on tw j) ∧ (u.1 = 0 → TGv mn tg 7 tc) ∧ (u.1 = 0 → TGv mn tg 7 sc) ∧ (u.1 = 0 → ∀ j, j < nf → TGv mn tg 7 (fc j)) ∧ (u.1 = 0 → ∀ j, j < me → LMB bs mn tg on tw fd na ty j)) (fun u : Int32 × Int32 => [(h0, .inr (10, mob q rf n mm mb u.1 u.2 av ev wi mn tp tc sc nf fd me mp xn mt wh tq ag an ig)), ((q 2), aI g 600 bs), ((q 14), aI g 620 tg), ((q 15), aI g 620 tl), ((q 16), aI g 620 on), ((q 17), aI g 620 tw), ((q 22), aI g 320 fc), ((q 23), aI g 320 fq), ((q 27), aI g 160 fl), ((q 28), aI g 160 pl), ((q 29), aI g 160 na), ((q 30), aI g 160 ty), ((q 31), aI g 160 ca)]) A) [.ref h0].toArray s 0 0 A) (F0 m 178 ls []) := by
                            intro kq
                            induction kq using Nat.strongRecOn with
                            | _ kq ih178 =>
                              intro i fa6 fp6 ls H locs hk178 hc6 hui6 hLMk hl hP hD hS
                              refine lv_iload_n hx hb d_Mod_link_178 rfl (lv_at hl 0 rfl) ?_
                              refine lv_aload_n hx hb d_Mod_link_179 rfl (lv_at hl 1 rfl) ?_
                              refine va_get (D := g.1) (ci := 10) (v := .int (nI me)) (C := R_Mod) (T := F_Mod) (N := 61) hx hb hts in_Mod hown hK hP 0 rfl rfl 25 (by decide) (hts _ wd_1275) (fun _ h9 => h9) rfl d_Mod_link_180 ?_
                              refine lv_icmp_ge (tgt := 204) hx hb d_Mod_link_183 (by decide) (fun h183 => ?_) (fun h183 => ?_)
                              · have h183 := tn_le h183 (by omega) (by omega)
                                exact tw_vret E hS (fa6, fp6) (⟨(fun h => absurd h (fun h => (fun h => hp131_0 (hc7 h)) (hc6 h))), (fun h => absurd h (fun h => (fun h => hp131_0 (hc7 h)) (hc6 h))), (fun h => absurd h (fun h => (fun h => hp131_0 (hc7 h)) (hc6 h))), (fun h => absurd h (fun h => (fun h => hp131_0 (hc7 h)) (hc6 h))), (fun h => absurd h (fun h => (fun h => hp131_0 (hc7 h)) (hc6 h))), (fun h => absurd h (fun h => (fun h => hp131_0 (hc7 h)) (hc6 h))), (fun h => absurd h (fun h => (fun h => hp131_0 (hc7 h)) (hc6 h)))⟩) hP hD d_Mod_link_204
                              · have h183 := tn_nle h183 (by omega) (by omega)
                                refine lv_aload_n hx hb d_Mod_link_186 rfl (lv_at hl 1 rfl) ?_
                                refine va_get (D := g.1) (ci := 10) (v := .int fa6) (C := R_Mod) (T := F_Mod) (N := 61) hx hb hts in_Mod hown hK hP 0 rfl rfl 8 (by decide) (hts _ wd_1258) (fun _ h9 => h9) rfl d_Mod_link_187 ?_
                                refine lv_if_ne (tgt := 204) hx hb d_Mod_link_190 (by decide) (fun h190 => ?_) (fun h190 => ?_)
                                · exact tw_vret E hS (fa6, fp6) (⟨(fun h => absurd h h190), (fun h => absurd h h190), (fun h => absurd h h190), (fun h => absurd h h190), (fun h => absurd h h190), (fun h => absurd h h190), (fun h => absurd h h190)⟩) hP hD d_Mod_link_204
                                · exact absurd h190 (fun h => (fun h => hp131_0 (hc7 h)) (hc6 h))
                          exact loop178 _ 0 fa7 fp7 ls _ _ rfl (fun h => h) (by omega) (fun _ j h2 => absurd h2 (Nat.not_lt_zero j)) (hl) hP hD hS
                        · have h133 := tn_nle h133 (by omega) (by omega)
                          refine lv_aload_n hx hb d_Mod_link_136 rfl (lv_at hl 1 rfl) ?_
                          refine va_get (D := g.1) (ci := 10) (v := .int fa7) (C := R_Mod) (T := F_Mod) (N := 61) hx hb hts in_Mod hown hK hP 0 rfl rfl 8 (by decide) (hts _ wd_1258) (fun _ h9 => h9) rfl d_Mod_link_137 ?_
                          refine lv_if_ne (tgt := 176) hx hb d_Mod_link_140 (by decide) (fun h140 => ?_) (fun h140 => ?_)
                          · refine lv_iconst (v := 0) hx hb d_Mod_link_176 (by decide) ?_
                            refine lv_istore_n hx hb d_Mod_link_177 rfl hl (by decide) rfl (fun ls hl => ?_)
                            have hl : lv_has ls 2 [(1, .int 0), (0, .ref h0)] := hl
                            have loop178 : ∀ (kq : Nat) (i : Nat) (fa6 : Int32) (fp6 : Int32) (ls : Array Slot) (H : Heap) (locs : List Loc) , me - i = kq → (hc6 : fa6 = 0 → fa7 = 0) → (hui6 : i ≤ 700) → (hLMk : fa6 = 0 → ∀ j, j < i → LMB bs mn tg on tw fd na ty j) → lv_has ls 2 [(1, .int (nI i)), (0, .ref h0)] → va_P g.1 classes [(h0, .inr (10, mob q rf n mm mb fa6 fp6 av ev wi mn tp tc sc nf fd me mp xn mt wh tq ag an ig)), ((q 2), aI g 600 bs), ((q 14), aI g 620 tg), ((q 15), aI g 620 tl), ((q 16), aI g 620 on), ((q 17), aI g 620 tw), ((q 22), aI g 320 fc), ((q 23), aI g 320 fq), ((q 27), aI g 160 fl), ((q 28), aI g 160 pl), ((q 29), aI g 160 na), ((q 30), aI g 160 ty), ((q 31), aI g 160 ca)] H → va_D A [(h0, .inr (10, mob q rf n mm mb fa6 fp6 av ev wi mn tp tc sc nf fd me mp xn mt wh tq ag an ig)), ((q 2), aI g 600 bs), ((q 14), aI g 620 tg), ((q 15), aI g 620 tl), ((q 16), aI g 620 on), ((q 17), aI g 620 tw), ((q 22), aI g 320 fc), ((q 23), aI g 320 fq), ((q 27), aI g 160 fl), ((q 28), aI g 160 pl), ((q 29), aI g 160 na), ((q 30), aI g 160 ty), ((q 31), aI g 160 ca)] → va_S A s.heap H locs → W p l e ({ frames := 7, cells := 0, slots := 0, locals := 164 }) s m [.ref h0].toArray below meth c H locs 0 0 (MQ below (tw_Qv g (fun (u : Int32 × Int32) => (u.1 = 0 → fa = 0) ∧ (u.1 = 0 → LCA mn tg on tw) ∧ (u.1 = 0 → ∀ j, 0 < j → j < mn → MC1 bs tg on tw j) ∧ (u.1 = 0 → TGv mn tg 7 tc) ∧ (u.1 = 0 → TGv mn tg 7 sc) ∧ (u.1 = 0 → ∀ j, j < nf → TGv mn tg 7 (fc j)) ∧ (u.1 = 0 → ∀ j, j < me → LMB bs mn tg on tw fd na ty j)) (fun u : Int32 × Int32 => [(h0, .inr (10, mob q rf n mm mb u.1 u.2 av ev wi mn tp tc sc nf fd me mp xn mt wh tq ag an ig)), ((q 2), aI g 600 bs), ((q 14), aI g 620 tg), ((q 15), aI g 620 tl), ((q 16), aI g 620 on), ((q 17), aI g 620 tw), ((q 22), aI g 320 fc), ((q 23), aI g 320 fq), ((q 27), aI g 160 fl), ((q 28), aI g 160 pl), ((q 29), aI g 160 na), ((q 30), aI g 160 ty), ((q 31), aI g 160 ca)]) A) [.ref h0].toArray s 0 0 A) (F0 m 178 ls []) := by
                              intro kq
                              induction kq using Nat.strongRecOn with
                              | _ kq ih178 =>
                                intro i fa6 fp6 ls H locs hk178 hc6 hui6 hLMk hl hP hD hS
                                refine lv_iload_n hx hb d_Mod_link_178 rfl (lv_at hl 0 rfl) ?_
                                refine lv_aload_n hx hb d_Mod_link_179 rfl (lv_at hl 1 rfl) ?_
                                refine va_get (D := g.1) (ci := 10) (v := .int (nI me)) (C := R_Mod) (T := F_Mod) (N := 61) hx hb hts in_Mod hown hK hP 0 rfl rfl 25 (by decide) (hts _ wd_1275) (fun _ h9 => h9) rfl d_Mod_link_180 ?_
                                refine lv_icmp_ge (tgt := 204) hx hb d_Mod_link_183 (by decide) (fun h183 => ?_) (fun h183 => ?_)
                                · have h183 := tn_le h183 (by omega) (by omega)
                                  exact tw_vret E hS (fa6, fp6) (⟨(fun h => absurd h (fun h => h140 (hc6 h))), (fun h => absurd h (fun h => h140 (hc6 h))), (fun h => absurd h (fun h => h140 (hc6 h))), (fun h => absurd h (fun h => h140 (hc6 h))), (fun h => absurd h (fun h => h140 (hc6 h))), (fun h => absurd h (fun h => h140 (hc6 h))), (fun h => absurd h (fun h => h140 (hc6 h)))⟩) hP hD d_Mod_link_204
                                · have h183 := tn_nle h183 (by omega) (by omega)
                                  refine lv_aload_n hx hb d_Mod_link_186 rfl (lv_at hl 1 rfl) ?_
                                  refine va_get (D := g.1) (ci := 10) (v := .int fa6) (C := R_Mod) (T := F_Mod) (N := 61) hx hb hts in_Mod hown hK hP 0 rfl rfl 8 (by decide) (hts _ wd_1258) (fun _ h9 => h9) rfl d_Mod_link_187 ?_
                                  refine lv_if_ne (tgt := 204) hx hb d_Mod_link_190 (by decide) (fun h190 => ?_) (fun h190 => ?_)
                                  · exact tw_vret E hS (fa6, fp6) (⟨(fun h => absurd h h190), (fun h => absurd h h190), (fun h => absurd h h190), (fun h => absurd h h190), (fun h => absurd h h190), (fun h => absurd h h190), (fun h => absurd h h190)⟩) hP hD d_Mod_link_204
                                  · exact absurd h190 (fun h => h140 (hc6 h))
                            exact loop178 _ 0 fa7 fp7 ls _ _ rfl (fun h => h) (by omega) (fun _ j h2 => absurd h2 (Nat.not_lt_zero j)) (hl) hP hD hS
                          · exact absurd h140 (fun h => hp131_0 (hc7 h))
                    exact loop128 _ 0 u131.1 u131.2 ls _ _ rfl (fun h => h) (by omega) (fun _ j h2 => absurd h2 (Nat.not_lt_zero j)) (hl) hP hD hS
              · have h35 := tn_nle h35 (by omega) (by omega)
                refine lv_aload_n hx hb d_Mod_link_38 rfl (lv_at hl 1 rfl) ?_
                refine va_get (D := g.1) (ci := 10) (v := .int fa8) (C := R_Mod) (T := F_Mod) (N := 61) hx hb hts in_Mod hown hK hP 0 rfl rfl 8 (by decide) (hts _ wd_1258) (fun _ h9 => h9) rfl d_Mod_link_39 ?_
                refine lv_if_ne (tgt := 78) hx hb d_Mod_link_42 (by decide) (fun h42 => ?_) (fun h42 => ?_)
                · refine lv_aload_n hx hb d_Mod_link_78 rfl (lv_at hl 1 rfl) ?_
                  refine lv_aload_n hx hb d_Mod_link_79 rfl (lv_at hl 1 rfl) ?_
                  refine va_get (D := g.1) (ci := 10) (v := .int tc) (C := R_Mod) (T := F_Mod) (N := 61) hx hb hts in_Mod hown hK hP 0 rfl rfl 19 (by decide) (hts _ wd_1269) (fun _ h9 => h9) rfl d_Mod_link_80 ?_
                  refine lv_bipush (v := 7) hx hb d_Mod_link_83 (by decide) ?_
                  refine tw_si (tw_runV (ws := [(h0, .inr (10, mob q rf n mm mb fa8 fp8 av ev wi mn tp tc sc nf fd me mp xn mt wh tq ag an ig)), ((q 2), aI g 600 bs), ((q 14), aI g 620 tg), ((q 15), aI g 620 tl), ((q 16), aI g 620 on), ((q 17), aI g 620 tw), ((q 22), aI g 320 fc), ((q 23), aI g 320 fq), ((q 27), aI g 160 fl), ((q 28), aI g 160 pl), ((q 29), aI g 160 na), ((q 30), aI g 160 ty), ((q 31), aI g 160 ca)]) (wc := [(h0, .inr (10, mob q rf n mm mb fa8 fp8 av ev wi mn tp tc sc nf fd me mp xn mt wh tq ag an ig)), ((q 14), aI g 620 tg)]) (As := [.int tc, .int 7]) (rest := []) E hB hK hZ (g_Mod_isTagI l g H.size h0 q rf n mm mb fa8 fp8 av ev wi mn tp tc sc nf fd me mp xn mt wh tq ag an ig tg tc 7 (by omega)) mc_Mod_isTag mi_Mod_isTag me_Mod_isTag wd_1508 hP hD hS hA [0, 2] rfl (by decide) 0 rfl rfl rfl rfl rfl (by decide) rfl hl.1 rfl (Nat.le_of_ble_eq_true rfl) (by decide) d_Mod_link_85) (fun r132 hr132 => ?_)
                  have hB132 := hr132
                  refine lv_if_ne (tgt := 101) hx hb d_Mod_link_88 (by decide) (fun h88 => ?_) (fun h88 => ?_)
                  · have hT88 := hB132.2 (hB132.1.resolve_left h88)
                    refine lv_aload_n hx hb d_Mod_link_101 rfl (lv_at hl 1 rfl) ?_
                    refine lv_aload_n hx hb d_Mod_link_102 rfl (lv_at hl 1 rfl) ?_
                    refine va_get (D := g.1) (ci := 10) (v := .int sc) (C := R_Mod) (T := F_Mod) (N := 61) hx hb hts in_Mod hown hK hP 0 rfl rfl 20 (by decide) (hts _ wd_1270) (fun _ h9 => h9) rfl d_Mod_link_103 ?_
                    refine lv_bipush (v := 7) hx hb d_Mod_link_106 (by decide) ?_
                    refine tw_si (tw_runV (ws := [(h0, .inr (10, mob q rf n mm mb fa8 fp8 av ev wi mn tp tc sc nf fd me mp xn mt wh tq ag an ig)), ((q 2), aI g 600 bs), ((q 14), aI g 620 tg), ((q 15), aI g 620 tl), ((q 16), aI g 620 on), ((q 17), aI g 620 tw), ((q 22), aI g 320 fc), ((q 23), aI g 320 fq), ((q 27), aI g 160 fl), ((q 28), aI g 160 pl), ((q 29), aI g 160 na), ((q 30), aI g 160 ty), ((q 31), aI g 160 ca)]) (wc := [(h0, .inr (10, mob q rf n mm mb fa8 fp8 av ev wi mn tp tc sc nf fd me mp xn mt wh tq ag an ig)), ((q 14), aI g 620 tg)]) (As := [.int sc, .int 7]) (rest := []) E hB hK hZ (g_Mod_isTagI l g H.size h0 q rf n mm mb fa8 fp8 av ev wi mn tp tc sc nf fd me mp xn mt wh tq ag an ig tg sc 7 (by omega)) mc_Mod_isTag mi_Mod_isTag me_Mod_isTag wd_1508 hP hD hS hA [0, 2] rfl (by decide) 0 rfl rfl rfl rfl rfl (by decide) rfl hl.1 rfl (Nat.le_of_ble_eq_true rfl) (by decide) d_Mod_link_108) (fun r133 hr133 => ?_)
                    have hB133 := hr133
                    refine lv_if_ne (tgt := 126) hx hb d_Mod_link_111 (by decide) (fun h111 => ?_) (fun h111 => ?_)
                    · have hT111 := hB133.2 (hB133.1.resolve_left h111)
                      refine lv_iconst (v := 0) hx hb d_Mod_link_126 (by decide) ?_
                      refine lv_istore_n hx hb d_Mod_link_127 rfl hl (by decide) rfl (fun ls hl => ?_)
                      have hl : lv_has ls 2 [(1, .int 0), (0, .ref h0)] := hl
                      have loop128 : ∀ (kq : Nat) (i : Nat) (fa7 : Int32) (fp7 : Int32) (ls : Array Slot) (H : Heap) (locs : List Loc) , nf - i = kq → (hc7 : fa7 = 0 → fa8 = 0) → (hui7 : i ≤ 700) → (hFCk : fa7 = 0 → ∀ j, j < i → TGv mn tg 7 (fc j)) → lv_has ls 2 [(1, .int (nI i)), (0, .ref h0)] → va_P g.1 classes [(h0, .inr (10, mob q rf n mm mb fa7 fp7 av ev wi mn tp tc sc nf fd me mp xn mt wh tq ag an ig)), ((q 2), aI g 600 bs), ((q 14), aI g 620 tg), ((q 15), aI g 620 tl), ((q 16), aI g 620 on), ((q 17), aI g 620 tw), ((q 22), aI g 320 fc), ((q 23), aI g 320 fq), ((q 27), aI g 160 fl), ((q 28), aI g 160 pl), ((q 29), aI g 160 na), ((q 30), aI g 160 ty), ((q 31), aI g 160 ca)] H → va_D A [(h0, .inr (10, mob q rf n mm mb fa7 fp7 av ev wi mn tp tc sc nf fd me mp xn mt wh tq ag an ig)), ((q 2), aI g 600 bs), ((q 14), aI g 620 tg), ((q 15), aI g 620 tl), ((q 16), aI g 620 on), ((q 17), aI g 620 tw), ((q 22), aI g 320 fc), ((q 23), aI g 320 fq), ((q 27), aI g 160 fl), ((q 28), aI g 160 pl), ((q 29), aI g 160 na), ((q 30), aI g 160 ty), ((q 31), aI g 160 ca)] → va_S A s.heap H locs → W p l e ({ frames := 7, cells := 0, slots := 0, locals := 164 }) s m [.ref h0].toArray below meth c H locs 0 0 (MQ below (tw_Qv g (fun (u : Int32 × Int32) => (u.1 = 0 → fa = 0) ∧ (u.1 = 0 → LCA mn tg on tw) ∧ (u.1 = 0 → ∀ j, 0 < j → j < mn → MC1 bs tg on tw j) ∧ (u.1 = 0 → TGv mn tg 7 tc) ∧ (u.1 = 0 → TGv mn tg 7 sc) ∧ (u.1 = 0 → ∀ j, j < nf → TGv mn tg 7 (fc j)) ∧ (u.1 = 0 → ∀ j, j < me → LMB bs mn tg on tw fd na ty j)) (fun u : Int32 × Int32 => [(h0, .inr (10, mob q rf n mm mb u.1 u.2 av ev wi mn tp tc sc nf fd me mp xn mt wh tq ag an ig)), ((q 2), aI g 600 bs), ((q 14), aI g 620 tg), ((q 15), aI g 620 tl), ((q 16), aI g 620 on), ((q 17), aI g 620 tw), ((q 22), aI g 320 fc), ((q 23), aI g 320 fq), ((q 27), aI g 160 fl), ((q 28), aI g 160 pl), ((q 29), aI g 160 na), ((q 30), aI g 160 ty), ((q 31), aI g 160 ca)]) A) [.ref h0].toArray s 0 0 A) (F0 m 128 ls []) := by
                        intro kq
                        induction kq using Nat.strongRecOn with
                        | _ kq ih128 =>
                          intro i fa7 fp7 ls H locs hk128 hc7 hui7 hFCk hl hP hD hS
                          refine lv_iload_n hx hb d_Mod_link_128 rfl (lv_at hl 0 rfl) ?_
                          refine lv_aload_n hx hb d_Mod_link_129 rfl (lv_at hl 1 rfl) ?_
                          refine va_get (D := g.1) (ci := 10) (v := .int (nI nf)) (C := R_Mod) (T := F_Mod) (N := 61) hx hb hts in_Mod hown hK hP 0 rfl rfl 21 (by decide) (hts _ wd_1271) (fun _ h9 => h9) rfl d_Mod_link_130 ?_
                          refine lv_icmp_ge (tgt := 176) hx hb d_Mod_link_133 (by decide) (fun h133 => ?_) (fun h133 => ?_)
                          · have h133 := tn_le h133 (by omega) (by omega)
                            refine lv_iconst (v := 0) hx hb d_Mod_link_176 (by decide) ?_
                            refine lv_istore_n hx hb d_Mod_link_177 rfl hl (by decide) rfl (fun ls hl => ?_)
                            have hl : lv_has ls 2 [(1, .int 0), (0, .ref h0)] := hl
                            have loop178 : ∀ (kq : Nat) (i : Nat) (fa6 : Int32) (fp6 : Int32) (ls : Array Slot) (H : Heap) (locs : List Loc) , me - i = kq → (hc6 : fa6 = 0 → fa7 = 0) → (hui6 : i ≤ 700) → (hLMk : fa6 = 0 → ∀ j, j < i → LMB bs mn tg on tw fd na ty j) → lv_has ls 2 [(1, .int (nI i)), (0, .ref h0)] → va_P g.1 classes [(h0, .inr (10, mob q rf n mm mb fa6 fp6 av ev wi mn tp tc sc nf fd me mp xn mt wh tq ag an ig)), ((q 2), aI g 600 bs), ((q 14), aI g 620 tg), ((q 15), aI g 620 tl), ((q 16), aI g 620 on), ((q 17), aI g 620 tw), ((q 22), aI g 320 fc), ((q 23), aI g 320 fq), ((q 27), aI g 160 fl), ((q 28), aI g 160 pl), ((q 29), aI g 160 na), ((q 30), aI g 160 ty), ((q 31), aI g 160 ca)] H → va_D A [(h0, .inr (10, mob q rf n mm mb fa6 fp6 av ev wi mn tp tc sc nf fd me mp xn mt wh tq ag an ig)), ((q 2), aI g 600 bs), ((q 14), aI g 620 tg), ((q 15), aI g 620 tl), ((q 16), aI g 620 on), ((q 17), aI g 620 tw), ((q 22), aI g 320 fc), ((q 23), aI g 320 fq), ((q 27), aI g 160 fl), ((q 28), aI g 160 pl), ((q 29), aI g 160 na), ((q 30), aI g 160 ty), ((q 31), aI g 160 ca)] → va_S A s.heap H locs → W p l e ({ frames := 7, cells := 0, slots := 0, locals := 164 }) s m [.ref h0].toArray below meth c H locs 0 0 (MQ below (tw_Qv g (fun (u : Int32 × Int32) => (u.1 = 0 → fa = 0) ∧ (u.1 = 0 → LCA mn tg on tw) ∧ (u.1 = 0 → ∀ j, 0 < j → j < mn → MC1 bs tg on tw j) ∧ (u.1 = 0 → TGv mn tg 7 tc) ∧ (u.1 = 0 → TGv mn tg 7 sc) ∧ (u.1 = 0 → ∀ j, j < nf → TGv mn tg 7 (fc j)) ∧ (u.1 = 0 → ∀ j, j < me → LMB bs mn tg on tw fd na ty j)) (fun u : Int32 × Int32 => [(h0, .inr (10, mob q rf n mm mb u.1 u.2 av ev wi mn tp tc sc nf fd me mp xn mt wh tq ag an ig)), ((q 2), aI g 600 bs), ((q 14), aI g 620 tg), ((q 15), aI g 620 tl), ((q 16), aI g 620 on), ((q 17), aI g 620 tw), ((q 22), aI g 320 fc), ((q 23), aI g 320 fq), ((q 27), aI g 160 fl), ((q 28), aI g 160 pl), ((q 29), aI g 160 na), ((q 30), aI g 160 ty), ((q 31), aI g 160 ca)]) A) [.ref h0].toArray s 0 0 A) (F0 m 178 ls []) := by
                              intro kq
                              induction kq using Nat.strongRecOn with
                              | _ kq ih178 =>
                                intro i fa6 fp6 ls H locs hk178 hc6 hui6 hLMk hl hP hD hS
                                refine lv_iload_n hx hb d_Mod_link_178 rfl (lv_at hl 0 rfl) ?_
                                refine lv_aload_n hx hb d_Mod_link_179 rfl (lv_at hl 1 rfl) ?_
                                refine va_get (D := g.1) (ci := 10) (v := .int (nI me)) (C := R_Mod) (T := F_Mod) (N := 61) hx hb hts in_Mod hown hK hP 0 rfl rfl 25 (by decide) (hts _ wd_1275) (fun _ h9 => h9) rfl d_Mod_link_180 ?_
                                refine lv_icmp_ge (tgt := 204) hx hb d_Mod_link_183 (by decide) (fun h183 => ?_) (fun h183 => ?_)
                                · have h183 := tn_le h183 (by omega) (by omega)
                                  exact tw_vret E hS (fa6, fp6) (⟨(fun h => absurd h (fun h => (fun h => h42 (hc7 h)) (hc6 h))), (fun h => absurd h (fun h => (fun h => h42 (hc7 h)) (hc6 h))), (fun h => absurd h (fun h => (fun h => h42 (hc7 h)) (hc6 h))), (fun h => absurd h (fun h => (fun h => h42 (hc7 h)) (hc6 h))), (fun h => absurd h (fun h => (fun h => h42 (hc7 h)) (hc6 h))), (fun h => absurd h (fun h => (fun h => h42 (hc7 h)) (hc6 h))), (fun h => absurd h (fun h => (fun h => h42 (hc7 h)) (hc6 h)))⟩) hP hD d_Mod_link_204
                                · have h183 := tn_nle h183 (by omega) (by omega)
                                  refine lv_aload_n hx hb d_Mod_link_186 rfl (lv_at hl 1 rfl) ?_
                                  refine va_get (D := g.1) (ci := 10) (v := .int fa6) (C := R_Mod) (T := F_Mod) (N := 61) hx hb hts in_Mod hown hK hP 0 rfl rfl 8 (by decide) (hts _ wd_1258) (fun _ h9 => h9) rfl d_Mod_link_187 ?_
                                  refine lv_if_ne (tgt := 204) hx hb d_Mod_link_190 (by decide) (fun h190 => ?_) (fun h190 => ?_)
                                  · exact tw_vret E hS (fa6, fp6) (⟨(fun h => absurd h h190), (fun h => absurd h h190), (fun h => absurd h h190), (fun h => absurd h h190), (fun h => absurd h h190), (fun h => absurd h h190), (fun h => absurd h h190)⟩) hP hD d_Mod_link_204
                                  · exact absurd h190 (fun h => (fun h => h42 (hc7 h)) (hc6 h))
                            exact loop178 _ 0 fa7 fp7 ls _ _ rfl (fun h => h) (by omega) (fun _ j h2 => absurd h2 (Nat.not_lt_zero j)) (hl) hP hD hS
                          · have h133 := tn_nle h133 (by omega) (by omega)
                            refine lv_aload_n hx hb d_Mod_link_136 rfl (lv_at hl 1 rfl) ?_
                            refine va_get (D := g.1) (ci := 10) (v := .int fa7) (C := R_Mod) (T := F_Mod) (N := 61) hx hb hts in_Mod hown hK hP 0 rfl rfl 8 (by decide) (hts _ wd_1258) (fun _ h9 => h9) rfl d_Mod_link_137 ?_
                            refine lv_if_ne (tgt := 176) hx hb d_Mod_link_140 (by decide) (fun h140 => ?_) (fun h140 => ?_)
                            · refine lv_iconst (v := 0) hx hb d_Mod_link_176 (by decide) ?_
                              refine lv_istore_n hx hb d_Mod_link_177 rfl hl (by decide) rfl (fun ls hl => ?_)
                              have hl : lv_has ls 2 [(1, .int 0), (0, .ref h0)] := hl
                              have loop178 : ∀ (kq : Nat) (i : Nat) (fa6 : Int32) (fp6 : Int32) (ls : Array Slot) (H : Heap) (locs : List Loc) , me - i = kq → (hc6 : fa6 = 0 → fa7 = 0) → (hui6 : i ≤ 700) → (hLMk : fa6 = 0 → ∀ j, j < i → LMB bs mn tg on tw fd na ty j) → lv_has ls 2 [(1, .int (nI i)), (0, .ref h0)] → va_P g.1 classes [(h0, .inr (10, mob q rf n mm mb fa6 fp6 av ev wi mn tp tc sc nf fd me mp xn mt wh tq ag an ig)), ((q 2), aI g 600 bs), ((q 14), aI g 620 tg), ((q 15), aI g 620 tl), ((q 16), aI g 620 on), ((q 17), aI g 620 tw), ((q 22), aI g 320 fc), ((q 23), aI g 320 fq), ((q 27), aI g 160 fl), ((q 28), aI g 160 pl), ((q 29), aI g 160 na), ((q 30), aI g 160 ty), ((q 31), aI g 160 ca)] H → va_D A [(h0, .inr (10, mob q rf n mm mb fa6 fp6 av ev wi mn tp tc sc nf fd me mp xn mt wh tq ag an ig)), ((q 2), aI g 600 bs), ((q 14), aI g 620 tg), ((q 15), aI g 620 tl), ((q 16), aI g 620 on), ((q 17), aI g 620 tw), ((q 22), aI g 320 fc), ((q 23), aI g 320 fq), ((q 27), aI g 160 fl), ((q 28), aI g 160 pl), ((q 29), aI g 160 na), ((q 30), aI g 160 ty), ((q 31), aI g 160 ca)] → va_S A s.heap H locs → W p l e ({ frames := 7, cells := 0, slots := 0, locals := 164 }) s m [.ref h0].toArray below meth c H locs 0 0 (MQ below (tw_Qv g (fun (u : Int32 × Int32) => (u.1 = 0 → fa = 0) ∧ (u.1 = 0 → LCA mn tg on tw) ∧ (u.1 = 0 → ∀ j, 0 < j → j < mn → MC1 bs tg on tw j) ∧ (u.1 = 0 → TGv mn tg 7 tc) ∧ (u.1 = 0 → TGv mn tg 7 sc) ∧ (u.1 = 0 → ∀ j, j < nf → TGv mn tg 7 (fc j)) ∧ (u.1 = 0 → ∀ j, j < me → LMB bs mn tg on tw fd na ty j)) (fun u : Int32 × Int32 => [(h0, .inr (10, mob q rf n mm mb u.1 u.2 av ev wi mn tp tc sc nf fd me mp xn mt wh tq ag an ig)), ((q 2), aI g 600 bs), ((q 14), aI g 620 tg), ((q 15), aI g 620 tl), ((q 16), aI g 620 on), ((q 17), aI g 620 tw), ((q 22), aI g 320 fc), ((q 23), aI g 320 fq), ((q 27), aI g 160 fl), ((q 28), aI g 160 pl), ((q 29), aI g 160 na), ((q 30), aI g 160 ty), ((q 31), aI g 160 ca)]) A) [.ref h0].toArray s 0 0 A) (F0 m 178 ls []) := by
                                intro kq
                                induction kq using Nat.strongRecOn with
                                | _ kq ih178 =>
                                  intro i fa6 fp6 ls H locs hk178 hc6 hui6 hLMk hl hP hD hS
                                  refine lv_iload_n hx hb d_Mod_link_178 rfl (lv_at hl 0 rfl) ?_
                                  refine lv_aload_n hx hb d_Mod_link_179 rfl (lv_at hl 1 rfl) ?_
                                  refine va_get (D := g.1) (ci := 10) (v := .int (nI me)) (C := R_Mod) (T := F_Mod) (N := 61) hx hb hts in_Mod hown hK hP 0 rfl rfl 25 (by decide) (hts _ wd_1275) (fun _ h9 => h9) rfl d_Mod_link_180 ?_
                                  refine lv_icmp_ge (tgt := 204) hx hb d_Mod_link_183 (by decide) (fun h183 => ?_) (fun h183 => ?_)
                                  · have h183 := tn_le h183 (by omega) (by omega)
                                    exact tw_vret E hS (fa6, fp6) (⟨(fun h => absurd h (fun h => h140 (hc6 h))), (fun h => absurd h (fun h => h140 (hc6 h))), (fun h => absurd h (fun h => h140 (hc6 h))), (fun h => absurd h (fun h => h140 (hc6 h))), (fun h => absurd h (fun h => h140 (hc6 h))), (fun h => absurd h (fun h => h140 (hc6 h))), (fun h => absurd h (fun h => h140 (hc6 h)))⟩) hP hD d_Mod_link_204
                                  · have h183 := tn_nle h183 (by omega) (by omega)
                                    refine lv_aload_n hx hb d_Mod_link_186 rfl (lv_at hl 1 rfl) ?_
                                    refine va_get (D := g.1) (ci := 10) (v := .int fa6) (C := R_Mod) (T := F_Mod) (N := 61) hx hb hts in_Mod hown hK hP 0 rfl rfl 8 (by decide) (hts _ wd_1258) (fun _ h9 => h9) rfl d_Mod_link_187 ?_
                                    refine lv_if_ne (tgt := 204) hx hb d_Mod_link_190 (by decide) (fun h190 => ?_) (fun h190 => ?_)
                                    · exact tw_vret E hS (fa6, fp6) (⟨(fun h => absurd h h190), (fun h => absurd h h190), (fun h => absurd h h190), (fun h => absurd h h190), (fun h => absurd h h190), (fun h => absurd h h190), (fun h => absurd h h190)⟩) hP hD d_Mod_link_204
                                    · exact absurd h190 (fun h => h140 (hc6 h))
                              exact loop178 _ 0 fa7 fp7 ls _ _ rfl (fun h => h) (by omega) (fun _ j h2 => absurd h2 (Nat.not_lt_zero j)) (hl) hP hD hS
                            · exact absurd h140 (fun h => h42 (hc7 h))
                      exact loop128 _ 0 fa8 fp8 ls _ _ rfl (fun h => h) (by omega) (fun _ j h2 => absurd h2 (Nat.not_lt_zero j)) (hl) hP hD hS
                    · refine lv_aload_n hx hb d_Mod_link_114 rfl (lv_at hl 1 rfl) ?_
                      refine lv_bipush (v := 6) hx hb d_Mod_link_115 (by decide) ?_
                      refine lv_aload_n hx hb d_Mod_link_117 rfl (lv_at hl 1 rfl) ?_
                      refine va_get (D := g.1) (ci := 10) (v := .int tp) (C := R_Mod) (T := F_Mod) (N := 61) hx hb hts in_Mod hown hK hP 0 rfl rfl 18 (by decide) (hts _ wd_1268) (fun _ h9 => h9) rfl d_Mod_link_118 ?_
                      refine lv_iconst (v := 2) hx hb d_Mod_link_121 (by decide) ?_
                      refine lv_iadd hx hb d_Mod_link_122 ?_
                      obtain ⟨x134, ex134⟩ : ∃ z : Int32, tp + 2 = z := ⟨_, rfl⟩
                      refine tw_ri (e2 := x134) ex134 ?_
                      refine tw_wv (wr := [((q 2), aI g 600 bs), ((q 14), aI g 620 tg), ((q 15), aI g 620 tl), ((q 16), aI g 620 on), ((q 17), aI g 620 tw), ((q 22), aI g 320 fc), ((q 23), aI g 320 fq), ((q 27), aI g 160 fl), ((q 28), aI g 160 pl), ((q 29), aI g 160 na), ((q 30), aI g 160 ty), ((q 31), aI g 160 ca)]) (tw_runV (ws := [(h0, .inr (10, mob q rf n mm mb fa8 fp8 av ev wi mn tp tc sc nf fd me mp xn mt wh tq ag an ig)), ((q 2), aI g 600 bs), ((q 14), aI g 620 tg), ((q 15), aI g 620 tl), ((q 16), aI g 620 on), ((q 17), aI g 620 tw), ((q 22), aI g 320 fc), ((q 23), aI g 320 fq), ((q 27), aI g 160 fl), ((q 28), aI g 160 pl), ((q 29), aI g 160 na), ((q 30), aI g 160 ty), ((q 31), aI g 160 ca)]) (wc := [(h0, .inr (10, mob q rf n mm mb fa8 fp8 av ev wi mn tp tc sc nf fd me mp xn mt wh tq ag an ig))]) (As := [.int 6, .int x134]) (rest := []) E hB hK hZ (g_Mod_fail l g H.size h0 q rf n mm mb av ev wi mn tp tc sc nf fd me mp xn mt wh tq ag an ig fa8 fp8 6 x134 (by decide)) mc_Mod_fail mi_Mod_fail me_Mod_fail wd_1478 hP hD hS hA [0] rfl (by decide) 0 rfl rfl rfl rfl rfl (by decide) rfl hl.1 rfl (Nat.le_of_ble_eq_true rfl) (by decide) d_Mod_link_123) hP hD hS hA [0] [1, 2, 3, 4, 5, 6, 7, 8, 9, 10, 11, 12] rfl rfl (by decide) (by decide) (fun u136 H locs hr135 hP hD hS => ?_)
                      try dsimp only at hr135
                      have hP : va_P g.1 classes [((q 2), aI g 600 bs), ((q 14), aI g 620 tg), ((q 15), aI g 620 tl), ((q 16), aI g 620 on), ((q 17), aI g 620 tw), ((q 22), aI g 320 fc), ((q 23), aI g 320 fq), ((q 27), aI g 160 fl), ((q 28), aI g 160 pl), ((q 29), aI g 160 na), ((q 30), aI g 160 ty), ((q 31), aI g 160 ca), (h0, .inr (10, mob q rf n mm mb u136.1 u136.2 av ev wi mn tp tc sc nf fd me mp xn mt wh tq ag an ig))] H := hP
                      have hD : va_D A [((q 2), aI g 600 bs), ((q 14), aI g 620 tg), ((q 15), aI g 620 tl), ((q 16), aI g 620 on), ((q 17), aI g 620 tw), ((q 22), aI g 320 fc), ((q 23), aI g 320 fq), ((q 27), aI g 160 fl), ((q 28), aI g 160 pl), ((q 29), aI g 160 na), ((q 30), aI g 160 ty), ((q 31), aI g 160 ca), (h0, .inr (10, mob q rf n mm mb u136.1 u136.2 av ev wi mn tp tc sc nf fd me mp xn mt wh tq ag an ig))] := hD
                      have hP : va_P g.1 classes [(h0, .inr (10, mob q rf n mm mb u136.1 u136.2 av ev wi mn tp tc sc nf fd me mp xn mt wh tq ag an ig)), ((q 2), aI g 600 bs), ((q 14), aI g 620 tg), ((q 15), aI g 620 tl), ((q 16), aI g 620 on), ((q 17), aI g 620 tw), ((q 22), aI g 320 fc), ((q 23), aI g 320 fq), ((q 27), aI g 160 fl), ((q 28), aI g 160 pl), ((q 29), aI g 160 na), ((q 30), aI g 160 ty), ((q 31), aI g 160 ca)] H := hP.sub [12, 0, 1, 2, 3, 4, 5, 6, 7, 8, 9, 10, 11] rfl
                      have hD : va_D A [(h0, .inr (10, mob q rf n mm mb u136.1 u136.2 av ev wi mn tp tc sc nf fd me mp xn mt wh tq ag an ig)), ((q 2), aI g 600 bs), ((q 14), aI g 620 tg), ((q 15), aI g 620 tl), ((q 16), aI g 620 on), ((q 17), aI g 620 tw), ((q 22), aI g 320 fc), ((q 23), aI g 320 fq), ((q 27), aI g 160 fl), ((q 28), aI g 160 pl), ((q 29), aI g 160 na), ((q 30), aI g 160 ty), ((q 31), aI g 160 ca)] := hD.sub [12, 0, 1, 2, 3, 4, 5, 6, 7, 8, 9, 10, 11] (by decide) rfl
                      have hp136_0 := hr135
                      refine lv_iconst (v := 0) hx hb d_Mod_link_126 (by decide) ?_
                      refine lv_istore_n hx hb d_Mod_link_127 rfl hl (by decide) rfl (fun ls hl => ?_)
                      have hl : lv_has ls 2 [(1, .int 0), (0, .ref h0)] := hl
                      have loop128 : ∀ (kq : Nat) (i : Nat) (fa7 : Int32) (fp7 : Int32) (ls : Array Slot) (H : Heap) (locs : List Loc) , nf - i = kq → (hc7 : fa7 = 0 → u136.1 = 0) → (hui7 : i ≤ 700) → (hFCk : fa7 = 0 → ∀ j, j < i → TGv mn tg 7 (fc j)) → lv_has ls 2 [(1, .int (nI i)), (0, .ref h0)] → va_P g.1 classes [(h0, .inr (10, mob q rf n mm mb fa7 fp7 av ev wi mn tp tc sc nf fd me mp xn mt wh tq ag an ig)), ((q 2), aI g 600 bs), ((q 14), aI g 620 tg), ((q 15), aI g 620 tl), ((q 16), aI g 620 on), ((q 17), aI g 620 tw), ((q 22), aI g 320 fc), ((q 23), aI g 320 fq), ((q 27), aI g 160 fl), ((q 28), aI g 160 pl), ((q 29), aI g 160 na), ((q 30), aI g 160 ty), ((q 31), aI g 160 ca)] H → va_D A [(h0, .inr (10, mob q rf n mm mb fa7 fp7 av ev wi mn tp tc sc nf fd me mp xn mt wh tq ag an ig)), ((q 2), aI g 600 bs), ((q 14), aI g 620 tg), ((q 15), aI g 620 tl), ((q 16), aI g 620 on), ((q 17), aI g 620 tw), ((q 22), aI g 320 fc), ((q 23), aI g 320 fq), ((q 27), aI g 160 fl), ((q 28), aI g 160 pl), ((q 29), aI g 160 na), ((q 30), aI g 160 ty), ((q 31), aI g 160 ca)] → va_S A s.heap H locs → W p l e ({ frames := 7, cells := 0, slots := 0, locals := 164 }) s m [.ref h0].toArray below meth c H locs 0 0 (MQ below (tw_Qv g (fun (u : Int32 × Int32) => (u.1 = 0 → fa = 0) ∧ (u.1 = 0 → LCA mn tg on tw) ∧ (u.1 = 0 → ∀ j, 0 < j → j < mn → MC1 bs tg on tw j) ∧ (u.1 = 0 → TGv mn tg 7 tc) ∧ (u.1 = 0 → TGv mn tg 7 sc) ∧ (u.1 = 0 → ∀ j, j < nf → TGv mn tg 7 (fc j)) ∧ (u.1 = 0 → ∀ j, j < me → LMB bs mn tg on tw fd na ty j)) (fun u : Int32 × Int32 => [(h0, .inr (10, mob q rf n mm mb u.1 u.2 av ev wi mn tp tc sc nf fd me mp xn mt wh tq ag an ig)), ((q 2), aI g 600 bs), ((q 14), aI g 620 tg), ((q 15), aI g 620 tl), ((q 16), aI g 620 on), ((q 17), aI g 620 tw), ((q 22), aI g 320 fc), ((q 23), aI g 320 fq), ((q 27), aI g 160 fl), ((q 28), aI g 160 pl), ((q 29), aI g 160 na), ((q 30), aI g 160 ty), ((q 31), aI g 160 ca)]) A) [.ref h0].toArray s 0 0 A) (F0 m 128 ls []) := by
                        intro kq
                        induction kq using Nat.strongRecOn with
                        | _ kq ih128 =>
                          intro i fa7 fp7 ls H locs hk128 hc7 hui7 hFCk hl hP hD hS
                          refine lv_iload_n hx hb d_Mod_link_128 rfl (lv_at hl 0 rfl) ?_
                          refine lv_aload_n hx hb d_Mod_link_129 rfl (lv_at hl 1 rfl) ?_
                          refine va_get (D := g.1) (ci := 10) (v := .int (nI nf)) (C := R_Mod) (T := F_Mod) (N := 61) hx hb hts in_Mod hown hK hP 0 rfl rfl 21 (by decide) (hts _ wd_1271) (fun _ h9 => h9) rfl d_Mod_link_130 ?_
                          refine lv_icmp_ge (tgt := 176) hx hb d_Mod_link_133 (by decide) (fun h133 => ?_) (fun h133 => ?_)
                          · have h133 := tn_le h133 (by omega) (by omega)
                            refine lv_iconst (v := 0) hx hb d_Mod_link_176 (by decide) ?_
                            refine lv_istore_n hx hb d_Mod_link_177 rfl hl (by decide) rfl (fun ls hl => ?_)
                            have hl : lv_has ls 2 [(1, .int 0), (0, .ref h0)] := hl
                            have loop178 : ∀ (kq : Nat) (i : Nat) (fa6 : Int32) (fp6 : Int32) (ls : Array Slot) (H : Heap) (locs : List Loc) , me - i = kq → (hc6 : fa6 = 0 → fa7 = 0) → (hui6 : i ≤ 700) → (hLMk : fa6 = 0 → ∀ j, j < i → LMB bs mn tg on tw fd na ty j) → lv_has ls 2 [(1, .int (nI i)), (0, .ref h0)] → va_P g.1 classes [(h0, .inr (10, mob q rf n mm mb fa6 fp6 av ev wi mn tp tc sc nf fd me mp xn mt wh tq ag an ig)), ((q 2), aI g 600 bs), ((q 14), aI g 620 tg), ((q 15), aI g 620 tl), ((q 16), aI g 620 on), ((q 17), aI g 620 tw), ((q 22), aI g 320 fc), ((q 23), aI g 320 fq), ((q 27), aI g 160 fl), ((q 28), aI g 160 pl), ((q 29), aI g 160 na), ((q 30), aI g 160 ty), ((q 31), aI g 160 ca)] H → va_D A [(h0, .inr (10, mob q rf n mm mb fa6 fp6 av ev wi mn tp tc sc nf fd me mp xn mt wh tq ag an ig)), ((q 2), aI g 600 bs), ((q 14), aI g 620 tg), ((q 15), aI g 620 tl), ((q 16), aI g 620 on), ((q 17), aI g 620 tw), ((q 22), aI g 320 fc), ((q 23), aI g 320 fq), ((q 27), aI g 160 fl), ((q 28), aI g 160 pl), ((q 29), aI g 160 na), ((q 30), aI g 160 ty), ((q 31), aI g 160 ca)] → va_S A s.heap H locs → W p l e ({ frames := 7, cells := 0, slots := 0, locals := 164 }) s m [.ref h0].toArray below meth c H locs 0 0 (MQ below (tw_Qv g (fun (u : Int32 × Int32) => (u.1 = 0 → fa = 0) ∧ (u.1 = 0 → LCA mn tg on tw) ∧ (u.1 = 0 → ∀ j, 0 < j → j < mn → MC1 bs tg on tw j) ∧ (u.1 = 0 → TGv mn tg 7 tc) ∧ (u.1 = 0 → TGv mn tg 7 sc) ∧ (u.1 = 0 → ∀ j, j < nf → TGv mn tg 7 (fc j)) ∧ (u.1 = 0 → ∀ j, j < me → LMB bs mn tg on tw fd na ty j)) (fun u : Int32 × Int32 => [(h0, .inr (10, mob q rf n mm mb u.1 u.2 av ev wi mn tp tc sc nf fd me mp xn mt wh tq ag an ig)), ((q 2), aI g 600 bs), ((q 14), aI g 620 tg), ((q 15), aI g 620 tl), ((q 16), aI g 620 on), ((q 17), aI g 620 tw), ((q 22), aI g 320 fc), ((q 23), aI g 320 fq), ((q 27), aI g 160 fl), ((q 28), aI g 160 pl), ((q 29), aI g 160 na), ((q 30), aI g 160 ty), ((q 31), aI g 160 ca)]) A) [.ref h0].toArray s 0 0 A) (F0 m 178 ls []) := by
                              intro kq
                              induction kq using Nat.strongRecOn with
                              | _ kq ih178 =>
                                intro i fa6 fp6 ls H locs hk178 hc6 hui6 hLMk hl hP hD hS
                                refine lv_iload_n hx hb d_Mod_link_178 rfl (lv_at hl 0 rfl) ?_
                                refine lv_aload_n hx hb d_Mod_link_179 rfl (lv_at hl 1 rfl) ?_
                                refine va_get (D := g.1) (ci := 10) (v := .int (nI me)) (C := R_Mod) (T := F_Mod) (N := 61) hx hb hts in_Mod hown hK hP 0 rfl rfl 25 (by decide) (hts _ wd_1275) (fun _ h9 => h9) rfl d_Mod_link_180 ?_
                                refine lv_icmp_ge (tgt := 204) hx hb d_Mod_link_183 (by decide) (fun h183 => ?_) (fun h183 => ?_)
                                · have h183 := tn_le h183 (by omega) (by omega)
                                  exact tw_vret E hS (fa6, fp6) (⟨(fun h => absurd h (fun h => (fun h => hp136_0 (hc7 h)) (hc6 h))), (fun h => absurd h (fun h => (fun h => hp136_0 (hc7 h)) (hc6 h))), (fun h => absurd h (fun h => (fun h => hp136_0 (hc7 h)) (hc6 h))), (fun h => absurd h (fun h => (fun h => hp136_0 (hc7 h)) (hc6 h))), (fun h => absurd h (fun h => (fun h => hp136_0 (hc7 h)) (hc6 h))), (fun h => absurd h (fun h => (fun h => hp136_0 (hc7 h)) (hc6 h))), (fun h => absurd h (fun h => (fun h => hp136_0 (hc7 h)) (hc6 h)))⟩) hP hD d_Mod_link_204
                                · have h183 := tn_nle h183 (by omega) (by omega)
                                  refine lv_aload_n hx hb d_Mod_link_186 rfl (lv_at hl 1 rfl) ?_
                                  refine va_get (D := g.1) (ci := 10) (v := .int fa6) (C := R_Mod) (T := F_Mod) (N := 61) hx hb hts in_Mod hown hK hP 0 rfl rfl 8 (by decide) (hts _ wd_1258) (fun _ h9 => h9) rfl d_Mod_link_187 ?_
                                  refine lv_if_ne (tgt := 204) hx hb d_Mod_link_190 (by decide) (fun h190 => ?_) (fun h190 => ?_)
                                  · exact tw_vret E hS (fa6, fp6) (⟨(fun h => absurd h h190), (fun h => absurd h h190), (fun h => absurd h h190), (fun h => absurd h h190), (fun h => absurd h h190), (fun h => absurd h h190), (fun h => absurd h h190)⟩) hP hD d_Mod_link_204
                                  · exact absurd h190 (fun h => (fun h => hp136_0 (hc7 h)) (hc6 h))
                            exact loop178 _ 0 fa7 fp7 ls _ _ rfl (fun h => h) (by omega) (fun _ j h2 => absurd h2 (Nat.not_lt_zero j)) (hl) hP hD hS
                          · have h133 := tn_nle h133 (by omega) (by omega)
                            refine lv_aload_n hx hb d_Mod_link_136 rfl (lv_at hl 1 rfl) ?_
                            refine va_get (D := g.1) (ci := 10) (v := .int fa7) (C := R_Mod) (T := F_Mod) (N := 61) hx hb hts in_Mod hown hK hP 0 rfl rfl 8 (by decide) (hts _ wd_1258) (fun _ h9 => h9) rfl d_Mod_link_137 ?_
                            refine lv_if_ne (tgt := 176) hx hb d_Mod_link_140 (by decide) (fun h140 => ?_) (fun h140 => ?_)
                            · refine lv_iconst (v := 0) hx hb d_Mod_link_176 (by decide) ?_
                              refine lv_istore_n hx hb d_Mod_link_177 rfl hl (by decide) rfl (fun ls hl => ?_)
                              have hl : lv_has ls 2 [(1, .int 0), (0, .ref h0)] := hl
                              have loop178 : ∀ (kq : Nat) (i : Nat) (fa6 : Int32) (fp6 : Int32) (ls : Array Slot) (H : Heap) (locs : List Loc) , me - i = kq → (hc6 : fa6 = 0 → fa7 = 0) → (hui6 : i ≤ 700) → (hLMk : fa6 = 0 → ∀ j, j < i → LMB bs mn tg on tw fd na ty j) → lv_has ls 2 [(1, .int (nI i)), (0, .ref h0)] → va_P g.1 classes [(h0, .inr (10, mob q rf n mm mb fa6 fp6 av ev wi mn tp tc sc nf fd me mp xn mt wh tq ag an ig)), ((q 2), aI g 600 bs), ((q 14), aI g 620 tg), ((q 15), aI g 620 tl), ((q 16), aI g 620 on), ((q 17), aI g 620 tw), ((q 22), aI g 320 fc), ((q 23), aI g 320 fq), ((q 27), aI g 160 fl), ((q 28), aI g 160 pl), ((q 29), aI g 160 na), ((q 30), aI g 160 ty), ((q 31), aI g 160 ca)] H → va_D A [(h0, .inr (10, mob q rf n mm mb fa6 fp6 av ev wi mn tp tc sc nf fd me mp xn mt wh tq ag an ig)), ((q 2), aI g 600 bs), ((q 14), aI g 620 tg), ((q 15), aI g 620 tl), ((q 16), aI g 620 on), ((q 17), aI g 620 tw), ((q 22), aI g 320 fc), ((q 23), aI g 320 fq), ((q 27), aI g 160 fl), ((q 28), aI g 160 pl), ((q 29), aI g 160 na), ((q 30), aI g 160 ty), ((q 31), aI g 160 ca)] → va_S A s.heap H locs → W p l e ({ frames := 7, cells := 0, slots := 0, locals := 164 }) s m [.ref h0].toArray below meth c H locs 0 0 (MQ below (tw_Qv g (fun (u : Int32 × Int32) => (u.1 = 0 → fa = 0) ∧ (u.1 = 0 → LCA mn tg on tw) ∧ (u.1 = 0 → ∀ j, 0 < j → j < mn → MC1 bs tg on tw j) ∧ (u.1 = 0 → TGv mn tg 7 tc) ∧ (u.1 = 0 → TGv mn tg 7 sc) ∧ (u.1 = 0 → ∀ j, j < nf → TGv mn tg 7 (fc j)) ∧ (u.1 = 0 → ∀ j, j < me → LMB bs mn tg on tw fd na ty j)) (fun u : Int32 × Int32 => [(h0, .inr (10, mob q rf n mm mb u.1 u.2 av ev wi mn tp tc sc nf fd me mp xn mt wh tq ag an ig)), ((q 2), aI g 600 bs), ((q 14), aI g 620 tg), ((q 15), aI g 620 tl), ((q 16), aI g 620 on), ((q 17), aI g 620 tw), ((q 22), aI g 320 fc), ((q 23), aI g 320 fq), ((q 27), aI g 160 fl), ((q 28), aI g 160 pl), ((q 29), aI g 160 na), ((q 30), aI g 160 ty), ((q 31), aI g 160 ca)]) A) [.ref h0].toArray s 0 0 A) (F0 m 178 ls []) := by
                                intro kq
                                induction kq using Nat.strongRecOn with
                                | _ kq ih178 =>
                                  intro i fa6 fp6 ls H locs hk178 hc6 hui6 hLMk hl hP hD hS
                                  refine lv_iload_n hx hb d_Mod_link_178 rfl (lv_at hl 0 rfl) ?_
                                  refine lv_aload_n hx hb d_Mod_link_179 rfl (lv_at hl 1 rfl) ?_
                                  refine va_get (D := g.1) (ci := 10) (v := .int (nI me)) (C := R_Mod) (T := F_Mod) (N := 61) hx hb hts in_Mod hown hK hP 0 rfl rfl 25 (by decide) (hts _ wd_1275) (fun _ h9 => h9) rfl d_Mod_link_180 ?_
                                  refine lv_icmp_ge (tgt := 204) hx hb d_Mod_link_183 (by decide) (fun h183 => ?_) (fun h183 => ?_)
                                  · have h183 := tn_le h183 (by omega) (by omega)
                                    exact tw_vret E hS (fa6, fp6) (⟨(fun h => absurd h (fun h => h140 (hc6 h))), (fun h => absurd h (fun h => h140 (hc6 h))), (fun h => absurd h (fun h => h140 (hc6 h))), (fun h => absurd h (fun h => h140 (hc6 h))), (fun h => absurd h (fun h => h140 (hc6 h))), (fun h => absurd h (fun h => h140 (hc6 h))), (fun h => absurd h (fun h => h140 (hc6 h)))⟩) hP hD d_Mod_link_204
                                  · have h183 := tn_nle h183 (by omega) (by omega)
                                    refine lv_aload_n hx hb d_Mod_link_186 rfl (lv_at hl 1 rfl) ?_
                                    refine va_get (D := g.1) (ci := 10) (v := .int fa6) (C := R_Mod) (T := F_Mod) (N := 61) hx hb hts in_Mod hown hK hP 0 rfl rfl 8 (by decide) (hts _ wd_1258) (fun _ h9 => h9) rfl d_Mod_link_187 ?_
                                    refine lv_if_ne (tgt := 204) hx hb d_Mod_link_190 (by decide) (fun h190 => ?_) (fun h190 => ?_)
                                    · exact tw_vret E hS (fa6, fp6) (⟨(fun h => absurd h h190), (fun h => absurd h h190), (fun h => absurd h h190), (fun h => absurd h h190), (fun h => absurd h h190), (fun h => absurd h h190), (fun h => absurd h h190)⟩) hP hD d_Mod_link_204
                                    · exact absurd h190 (fun h => h140 (hc6 h))
                              exact loop178 _ 0 fa7 fp7 ls _ _ rfl (fun h => h) (by omega) (fun _ j h2 => absurd h2 (Nat.not_lt_zero j)) (hl) hP hD hS
                            · exact absurd h140 (fun h => hp136_0 (hc7 h))
                      exact loop128 _ 0 u136.1 u136.2 ls _ _ rfl (fun h => h) (by omega) (fun _ j h2 => absurd h2 (Nat.not_lt_zero j)) (hl) hP hD hS
                  · refine lv_aload_n hx hb d_Mod_link_91 rfl (lv_at hl 1 rfl) ?_
                    refine lv_bipush (v := 6) hx hb d_Mod_link_92 (by decide) ?_
                    refine lv_aload_n hx hb d_Mod_link_94 rfl (lv_at hl 1 rfl) ?_
                    refine va_get (D := g.1) (ci := 10) (v := .int tp) (C := R_Mod) (T := F_Mod) (N := 61) hx hb hts in_Mod hown hK hP 0 rfl rfl 18 (by decide) (hts _ wd_1268) (fun _ h9 => h9) rfl d_Mod_link_95 ?_
                    refine tw_wv (wr := [((q 2), aI g 600 bs), ((q 14), aI g 620 tg), ((q 15), aI g 620 tl), ((q 16), aI g 620 on), ((q 17), aI g 620 tw), ((q 22), aI g 320 fc), ((q 23), aI g 320 fq), ((q 27), aI g 160 fl), ((q 28), aI g 160 pl), ((q 29), aI g 160 na), ((q 30), aI g 160 ty), ((q 31), aI g 160 ca)]) (tw_runV (ws := [(h0, .inr (10, mob q rf n mm mb fa8 fp8 av ev wi mn tp tc sc nf fd me mp xn mt wh tq ag an ig)), ((q 2), aI g 600 bs), ((q 14), aI g 620 tg), ((q 15), aI g 620 tl), ((q 16), aI g 620 on), ((q 17), aI g 620 tw), ((q 22), aI g 320 fc), ((q 23), aI g 320 fq), ((q 27), aI g 160 fl), ((q 28), aI g 160 pl), ((q 29), aI g 160 na), ((q 30), aI g 160 ty), ((q 31), aI g 160 ca)]) (wc := [(h0, .inr (10, mob q rf n mm mb fa8 fp8 av ev wi mn tp tc sc nf fd me mp xn mt wh tq ag an ig))]) (As := [.int 6, .int tp]) (rest := []) E hB hK hZ (g_Mod_fail l g H.size h0 q rf n mm mb av ev wi mn tp tc sc nf fd me mp xn mt wh tq ag an ig fa8 fp8 6 tp (by decide)) mc_Mod_fail mi_Mod_fail me_Mod_fail wd_1478 hP hD hS hA [0] rfl (by decide) 0 rfl rfl rfl rfl rfl (by decide) rfl hl.1 rfl (Nat.le_of_ble_eq_true rfl) (by decide) d_Mod_link_98) hP hD hS hA [0] [1, 2, 3, 4, 5, 6, 7, 8, 9, 10, 11, 12] rfl rfl (by decide) (by decide) (fun u138 H locs hr137 hP hD hS => ?_)
                    try dsimp only at hr137
                    have hP : va_P g.1 classes [((q 2), aI g 600 bs), ((q 14), aI g 620 tg), ((q 15), aI g 620 tl), ((q 16), aI g 620 on), ((q 17), aI g 620 tw), ((q 22), aI g 320 fc), ((q 23), aI g 320 fq), ((q 27), aI g 160 fl), ((q 28), aI g 160 pl), ((q 29), aI g 160 na), ((q 30), aI g 160 ty), ((q 31), aI g 160 ca), (h0, .inr (10, mob q rf n mm mb u138.1 u138.2 av ev wi mn tp tc sc nf fd me mp xn mt wh tq ag an ig))] H := hP
                    have hD : va_D A [((q 2), aI g 600 bs), ((q 14), aI g 620 tg), ((q 15), aI g 620 tl), ((q 16), aI g 620 on), ((q 17), aI g 620 tw), ((q 22), aI g 320 fc), ((q 23), aI g 320 fq), ((q 27), aI g 160 fl), ((q 28), aI g 160 pl), ((q 29), aI g 160 na), ((q 30), aI g 160 ty), ((q 31), aI g 160 ca), (h0, .inr (10, mob q rf n mm mb u138.1 u138.2 av ev wi mn tp tc sc nf fd me mp xn mt wh tq ag an ig))] := hD
                    have hP : va_P g.1 classes [(h0, .inr (10, mob q rf n mm mb u138.1 u138.2 av ev wi mn tp tc sc nf fd me mp xn mt wh tq ag an ig)), ((q 2), aI g 600 bs), ((q 14), aI g 620 tg), ((q 15), aI g 620 tl), ((q 16), aI g 620 on), ((q 17), aI g 620 tw), ((q 22), aI g 320 fc), ((q 23), aI g 320 fq), ((q 27), aI g 160 fl), ((q 28), aI g 160 pl), ((q 29), aI g 160 na), ((q 30), aI g 160 ty), ((q 31), aI g 160 ca)] H := hP.sub [12, 0, 1, 2, 3, 4, 5, 6, 7, 8, 9, 10, 11] rfl
                    have hD : va_D A [(h0, .inr (10, mob q rf n mm mb u138.1 u138.2 av ev wi mn tp tc sc nf fd me mp xn mt wh tq ag an ig)), ((q 2), aI g 600 bs), ((q 14), aI g 620 tg), ((q 15), aI g 620 tl), ((q 16), aI g 620 on), ((q 17), aI g 620 tw), ((q 22), aI g 320 fc), ((q 23), aI g 320 fq), ((q 27), aI g 160 fl), ((q 28), aI g 160 pl), ((q 29), aI g 160 na), ((q 30), aI g 160 ty), ((q 31), aI g 160 ca)] := hD.sub [12, 0, 1, 2, 3, 4, 5, 6, 7, 8, 9, 10, 11] (by decide) rfl
                    have hp138_0 := hr137
                    refine lv_aload_n hx hb d_Mod_link_101 rfl (lv_at hl 1 rfl) ?_
                    refine lv_aload_n hx hb d_Mod_link_102 rfl (lv_at hl 1 rfl) ?_
                    refine va_get (D := g.1) (ci := 10) (v := .int sc) (C := R_Mod) (T := F_Mod) (N := 61) hx hb hts in_Mod hown hK hP 0 rfl rfl 20 (by decide) (hts _ wd_1270) (fun _ h9 => h9) rfl d_Mod_link_103 ?_
                    refine lv_bipush (v := 7) hx hb d_Mod_link_106 (by decide) ?_
                    refine tw_si (tw_runV (ws := [(h0, .inr (10, mob q rf n mm mb u138.1 u138.2 av ev wi mn tp tc sc nf fd me mp xn mt wh tq ag an ig)), ((q 2), aI g 600 bs), ((q 14), aI g 620 tg), ((q 15), aI g 620 tl), ((q 16), aI g 620 on), ((q 17), aI g 620 tw), ((q 22), aI g 320 fc), ((q 23), aI g 320 fq), ((q 27), aI g 160 fl), ((q 28), aI g 160 pl), ((q 29), aI g 160 na), ((q 30), aI g 160 ty), ((q 31), aI g 160 ca)]) (wc := [(h0, .inr (10, mob q rf n mm mb u138.1 u138.2 av ev wi mn tp tc sc nf fd me mp xn mt wh tq ag an ig)), ((q 14), aI g 620 tg)]) (As := [.int sc, .int 7]) (rest := []) E hB hK hZ (g_Mod_isTagI l g H.size h0 q rf n mm mb u138.1 u138.2 av ev wi mn tp tc sc nf fd me mp xn mt wh tq ag an ig tg sc 7 (by omega)) mc_Mod_isTag mi_Mod_isTag me_Mod_isTag wd_1508 hP hD hS hA [0, 2] rfl (by decide) 0 rfl rfl rfl rfl rfl (by decide) rfl hl.1 rfl (Nat.le_of_ble_eq_true rfl) (by decide) d_Mod_link_108) (fun r139 hr139 => ?_)
                    have hB139 := hr139
                    refine lv_if_ne (tgt := 126) hx hb d_Mod_link_111 (by decide) (fun h111 => ?_) (fun h111 => ?_)
                    · have hT111 := hB139.2 (hB139.1.resolve_left h111)
                      refine lv_iconst (v := 0) hx hb d_Mod_link_126 (by decide) ?_
                      refine lv_istore_n hx hb d_Mod_link_127 rfl hl (by decide) rfl (fun ls hl => ?_)
                      have hl : lv_has ls 2 [(1, .int 0), (0, .ref h0)] := hl
                      have loop128 : ∀ (kq : Nat) (i : Nat) (fa7 : Int32) (fp7 : Int32) (ls : Array Slot) (H : Heap) (locs : List Loc) , nf - i = kq → (hc7 : fa7 = 0 → u138.1 = 0) → (hui7 : i ≤ 700) → (hFCk : fa7 = 0 → ∀ j, j < i → TGv mn tg 7 (fc j)) → lv_has ls 2 [(1, .int (nI i)), (0, .ref h0)] → va_P g.1 classes [(h0, .inr (10, mob q rf n mm mb fa7 fp7 av ev wi mn tp tc sc nf fd me mp xn mt wh tq ag an ig)), ((q 2), aI g 600 bs), ((q 14), aI g 620 tg), ((q 15), aI g 620 tl), ((q 16), aI g 620 on), ((q 17), aI g 620 tw), ((q 22), aI g 320 fc), ((q 23), aI g 320 fq), ((q 27), aI g 160 fl), ((q 28), aI g 160 pl), ((q 29), aI g 160 na), ((q 30), aI g 160 ty), ((q 31), aI g 160 ca)] H → va_D A [(h0, .inr (10, mob q rf n mm mb fa7 fp7 av ev wi mn tp tc sc nf fd me mp xn mt wh tq ag an ig)), ((q 2), aI g 600 bs), ((q 14), aI g 620 tg), ((q 15), aI g 620 tl), ((q 16), aI g 620 on), ((q 17), aI g 620 tw), ((q 22), aI g 320 fc), ((q 23), aI g 320 fq), ((q 27), aI g 160 fl), ((q 28), aI g 160 pl), ((q 29), aI g 160 na), ((q 30), aI g 160 ty), ((q 31), aI g 160 ca)] → va_S A s.heap H locs → W p l e ({ frames := 7, cells := 0, slots := 0, locals := 164 }) s m [.ref h0].toArray below meth c H locs 0 0 (MQ below (tw_Qv g (fun (u : Int32 × Int32) => (u.1 = 0 → fa = 0) ∧ (u.1 = 0 → LCA mn tg on tw) ∧ (u.1 = 0 → ∀ j, 0 < j → j < mn → MC1 bs tg on tw j) ∧ (u.1 = 0 → TGv mn tg 7 tc) ∧ (u.1 = 0 → TGv mn tg 7 sc) ∧ (u.1 = 0 → ∀ j, j < nf → TGv mn tg 7 (fc j)) ∧ (u.1 = 0 → ∀ j, j < me → LMB bs mn tg on tw fd na ty j)) (fun u : Int32 × Int32 => [(h0, .inr (10, mob q rf n mm mb u.1 u.2 av ev wi mn tp tc sc nf fd me mp xn mt wh tq ag an ig)), ((q 2), aI g 600 bs), ((q 14), aI g 620 tg), ((q 15), aI g 620 tl), ((q 16), aI g 620 on), ((q 17), aI g 620 tw), ((q 22), aI g 320 fc), ((q 23), aI g 320 fq), ((q 27), aI g 160 fl), ((q 28), aI g 160 pl), ((q 29), aI g 160 na), ((q 30), aI g 160 ty), ((q 31), aI g 160 ca)]) A) [.ref h0].toArray s 0 0 A) (F0 m 128 ls []) := by
                        intro kq
                        induction kq using Nat.strongRecOn with
                        | _ kq ih128 =>
                          intro i fa7 fp7 ls H locs hk128 hc7 hui7 hFCk hl hP hD hS
                          refine lv_iload_n hx hb d_Mod_link_128 rfl (lv_at hl 0 rfl) ?_
                          refine lv_aload_n hx hb d_Mod_link_129 rfl (lv_at hl 1 rfl) ?_
                          refine va_get (D := g.1) (ci := 10) (v := .int (nI nf)) (C := R_Mod) (T := F_Mod) (N := 61) hx hb hts in_Mod hown hK hP 0 rfl rfl 21 (by decide) (hts _ wd_1271) (fun _ h9 => h9) rfl d_Mod_link_130 ?_
                          refine lv_icmp_ge (tgt := 176) hx hb d_Mod_link_133 (by decide) (fun h133 => ?_) (fun h133 => ?_)
                          · have h133 := tn_le h133 (by omega) (by omega)
                            refine lv_iconst (v := 0) hx hb d_Mod_link_176 (by decide) ?_
                            refine lv_istore_n hx hb d_Mod_link_177 rfl hl (by decide) rfl (fun ls hl => ?_)
                            have hl : lv_has ls 2 [(1, .int 0), (0, .ref h0)] := hl
                            have loop178 : ∀ (kq : Nat) (i : Nat) (fa6 : Int32) (fp6 : Int32) (ls : Array Slot) (H : Heap) (locs : List Loc) , me - i = kq → (hc6 : fa6 = 0 → fa7 = 0) → (hui6 : i ≤ 700) → (hLMk : fa6 = 0 → ∀ j, j < i → LMB bs mn tg on tw fd na ty j) → lv_has ls 2 [(1, .int (nI i)), (0, .ref h0)] → va_P g.1 classes [(h0, .inr (10, mob q rf n mm mb fa6 fp6 av ev wi mn tp tc sc nf fd me mp xn mt wh tq ag an ig)), ((q 2), aI g 600 bs), ((q 14), aI g 620 tg), ((q 15), aI g 620 tl), ((q 16), aI g 620 on), ((q 17), aI g 620 tw), ((q 22), aI g 320 fc), ((q 23), aI g 320 fq), ((q 27), aI g 160 fl), ((q 28), aI g 160 pl), ((q 29), aI g 160 na), ((q 30), aI g 160 ty), ((q 31), aI g 160 ca)] H → va_D A [(h0, .inr (10, mob q rf n mm mb fa6 fp6 av ev wi mn tp tc sc nf fd me mp xn mt wh tq ag an ig)), ((q 2), aI g 600 bs), ((q 14), aI g 620 tg), ((q 15), aI g 620 tl), ((q 16), aI g 620 on), ((q 17), aI g 620 tw), ((q 22), aI g 320 fc), ((q 23), aI g 320 fq), ((q 27), aI g 160 fl), ((q 28), aI g 160 pl), ((q 29), aI g 160 na), ((q 30), aI g 160 ty), ((q 31), aI g 160 ca)] → va_S A s.heap H locs → W p l e ({ frames := 7, cells := 0, slots := 0, locals := 164 }) s m [.ref h0].toArray below meth c H locs 0 0 (MQ below (tw_Qv g (fun (u : Int32 × Int32) => (u.1 = 0 → fa = 0) ∧ (u.1 = 0 → LCA mn tg on tw) ∧ (u.1 = 0 → ∀ j, 0 < j → j < mn → MC1 bs tg on tw j) ∧ (u.1 = 0 → TGv mn tg 7 tc) ∧ (u.1 = 0 → TGv mn tg 7 sc) ∧ (u.1 = 0 → ∀ j, j < nf → TGv mn tg 7 (fc j)) ∧ (u.1 = 0 → ∀ j, j < me → LMB bs mn tg on tw fd na ty j)) (fun u : Int32 × Int32 => [(h0, .inr (10, mob q rf n mm mb u.1 u.2 av ev wi mn tp tc sc nf fd me mp xn mt wh tq ag an ig)), ((q 2), aI g 600 bs), ((q 14), aI g 620 tg), ((q 15), aI g 620 tl), ((q 16), aI g 620 on), ((q 17), aI g 620 tw), ((q 22), aI g 320 fc), ((q 23), aI g 320 fq), ((q 27), aI g 160 fl), ((q 28), aI g 160 pl), ((q 29), aI g 160 na), ((q 30), aI g 160 ty), ((q 31), aI g 160 ca)]) A) [.ref h0].toArray s 0 0 A) (F0 m 178 ls []) := by
                              intro kq
                              induction kq using Nat.strongRecOn with
                              | _ kq ih178 =>
                                intro i fa6 fp6 ls H locs hk178 hc6 hui6 hLMk hl hP hD hS
                                refine lv_iload_n hx hb d_Mod_link_178 rfl (lv_at hl 0 rfl) ?_
                                refine lv_aload_n hx hb d_Mod_link_179 rfl (lv_at hl 1 rfl) ?_
                                refine va_get (D := g.1) (ci := 10) (v := .int (nI me)) (C := R_Mod) (T := F_Mod) (N := 61) hx hb hts in_Mod hown hK hP 0 rfl rfl 25 (by decide) (hts _ wd_1275) (fun _ h9 => h9) rfl d_Mod_link_180 ?_
                                refine lv_icmp_ge (tgt := 204) hx hb d_Mod_link_183 (by decide) (fun h183 => ?_) (fun h183 => ?_)
                                · have h183 := tn_le h183 (by omega) (by omega)
                                  exact tw_vret E hS (fa6, fp6) (⟨(fun h => absurd h (fun h => (fun h => hp138_0 (hc7 h)) (hc6 h))), (fun h => absurd h (fun h => (fun h => hp138_0 (hc7 h)) (hc6 h))), (fun h => absurd h (fun h => (fun h => hp138_0 (hc7 h)) (hc6 h))), (fun h => absurd h (fun h => (fun h => hp138_0 (hc7 h)) (hc6 h))), (fun h => absurd h (fun h => (fun h => hp138_0 (hc7 h)) (hc6 h))), (fun h => absurd h (fun h => (fun h => hp138_0 (hc7 h)) (hc6 h))), (fun h => absurd h (fun h => (fun h => hp138_0 (hc7 h)) (hc6 h)))⟩) hP hD d_Mod_link_204
                                · have h183 := tn_nle h183 (by omega) (by omega)
                                  refine lv_aload_n hx hb d_Mod_link_186 rfl (lv_at hl 1 rfl) ?_
                                  refine va_get (D := g.1) (ci := 10) (v := .int fa6) (C := R_Mod) (T := F_Mod) (N := 61) hx hb hts in_Mod hown hK hP 0 rfl rfl 8 (by decide) (hts _ wd_1258) (fun _ h9 => h9) rfl d_Mod_link_187 ?_
                                  refine lv_if_ne (tgt := 204) hx hb d_Mod_link_190 (by decide) (fun h190 => ?_) (fun h190 => ?_)
                                  · exact tw_vret E hS (fa6, fp6) (⟨(fun h => absurd h h190), (fun h => absurd h h190), (fun h => absurd h h190), (fun h => absurd h h190), (fun h => absurd h h190), (fun h => absurd h h190), (fun h => absurd h h190)⟩) hP hD d_Mod_link_204
                                  · exact absurd h190 (fun h => (fun h => hp138_0 (hc7 h)) (hc6 h))
                            exact loop178 _ 0 fa7 fp7 ls _ _ rfl (fun h => h) (by omega) (fun _ j h2 => absurd h2 (Nat.not_lt_zero j)) (hl) hP hD hS
                          · have h133 := tn_nle h133 (by omega) (by omega)
                            refine lv_aload_n hx hb d_Mod_link_136 rfl (lv_at hl 1 rfl) ?_
                            refine va_get (D := g.1) (ci := 10) (v := .int fa7) (C := R_Mod) (T := F_Mod) (N := 61) hx hb hts in_Mod hown hK hP 0 rfl rfl 8 (by decide) (hts _ wd_1258) (fun _ h9 => h9) rfl d_Mod_link_137 ?_
                            refine lv_if_ne (tgt := 176) hx hb d_Mod_link_140 (by decide) (fun h140 => ?_) (fun h140 => ?_)
                            · refine lv_iconst (v := 0) hx hb d_Mod_link_176 (by decide) ?_
                              refine lv_istore_n hx hb d_Mod_link_177 rfl hl (by decide) rfl (fun ls hl => ?_)
                              have hl : lv_has ls 2 [(1, .int 0), (0, .ref h0)] := hl
                              have loop178 : ∀ (kq : Nat) (i : Nat) (fa6 : Int32) (fp6 : Int32) (ls : Array Slot) (H : Heap) (locs : List Loc) , me - i = kq → (hc6 : fa6 = 0 → fa7 = 0) → (hui6 : i ≤ 700) → (hLMk : fa6 = 0 → ∀ j, j < i → LMB bs mn tg on tw fd na ty j) → lv_has ls 2 [(1, .int (nI i)), (0, .ref h0)] → va_P g.1 classes [(h0, .inr (10, mob q rf n mm mb fa6 fp6 av ev wi mn tp tc sc nf fd me mp xn mt wh tq ag an ig)), ((q 2), aI g 600 bs), ((q 14), aI g 620 tg), ((q 15), aI g 620 tl), ((q 16), aI g 620 on), ((q 17), aI g 620 tw), ((q 22), aI g 320 fc), ((q 23), aI g 320 fq), ((q 27), aI g 160 fl), ((q 28), aI g 160 pl), ((q 29), aI g 160 na), ((q 30), aI g 160 ty), ((q 31), aI g 160 ca)] H → va_D A [(h0, .inr (10, mob q rf n mm mb fa6 fp6 av ev wi mn tp tc sc nf fd me mp xn mt wh tq ag an ig)), ((q 2), aI g 600 bs), ((q 14), aI g 620 tg), ((q 15), aI g 620 tl), ((q 16), aI g 620 on), ((q 17), aI g 620 tw), ((q 22), aI g 320 fc), ((q 23), aI g 320 fq), ((q 27), aI g 160 fl), ((q 28), aI g 160 pl), ((q 29), aI g 160 na), ((q 30), aI g 160 ty), ((q 31), aI g 160 ca)] → va_S A s.heap H locs → W p l e ({ frames := 7, cells := 0, slots := 0, locals := 164 }) s m [.ref h0].toArray below meth c H locs 0 0 (MQ below (tw_Qv g (fun (u : Int32 × Int32) => (u.1 = 0 → fa = 0) ∧ (u.1 = 0 → LCA mn tg on tw) ∧ (u.1 = 0 → ∀ j, 0 < j → j < mn → MC1 bs tg on tw j) ∧ (u.1 = 0 → TGv mn tg 7 tc) ∧ (u.1 = 0 → TGv mn tg 7 sc) ∧ (u.1 = 0 → ∀ j, j < nf → TGv mn tg 7 (fc j)) ∧ (u.1 = 0 → ∀ j, j < me → LMB bs mn tg on tw fd na ty j)) (fun u : Int32 × Int32 => [(h0, .inr (10, mob q rf n mm mb u.1 u.2 av ev wi mn tp tc sc nf fd me mp xn mt wh tq ag an ig)), ((q 2), aI g 600 bs), ((q 14), aI g 620 tg), ((q 15), aI g 620 tl), ((q 16), aI g 620 on), ((q 17), aI g 620 tw), ((q 22), aI g 320 fc), ((q 23), aI g 320 fq), ((q 27), aI g 160 fl), ((q 28), aI g 160 pl), ((q 29), aI g 160 na), ((q 30), aI g 160 ty), ((q 31), aI g 160 ca)]) A) [.ref h0].toArray s 0 0 A) (F0 m 178 ls []) := by
                                intro kq
                                induction kq using Nat.strongRecOn with
                                | _ kq ih178 =>
                                  intro i fa6 fp6 ls H locs hk178 hc6 hui6 hLMk hl hP hD hS
                                  refine lv_iload_n hx hb d_Mod_link_178 rfl (lv_at hl 0 rfl) ?_
                                  refine lv_aload_n hx hb d_Mod_link_179 rfl (lv_at hl 1 rfl) ?_
                                  refine va_get (D := g.1) (ci := 10) (v := .int (nI me)) (C := R_Mod) (T := F_Mod) (N := 61) hx hb hts in_Mod hown hK hP 0 rfl rfl 25 (by decide) (hts _ wd_1275) (fun _ h9 => h9) rfl d_Mod_link_180 ?_
                                  refine lv_icmp_ge (tgt := 204) hx hb d_Mod_link_183 (by decide) (fun h183 => ?_) (fun h183 => ?_)
                                  · have h183 := tn_le h183 (by omega) (by omega)
                                    exact tw_vret E hS (fa6, fp6) (⟨(fun h => absurd h (fun h => h140 (hc6 h))), (fun h => absurd h (fun h => h140 (hc6 h))), (fun h => absurd h (fun h => h140 (hc6 h))), (fun h => absurd h (fun h => h140 (hc6 h))), (fun h => absurd h (fun h => h140 (hc6 h))), (fun h => absurd h (fun h => h140 (hc6 h))), (fun h => absurd h (fun h => h140 (hc6 h)))⟩) hP hD d_Mod_link_204
                                  · have h183 := tn_nle h183 (by omega) (by omega)
                                    refine lv_aload_n hx hb d_Mod_link_186 rfl (lv_at hl 1 rfl) ?_
                                    refine va_get (D := g.1) (ci := 10) (v := .int fa6) (C := R_Mod) (T := F_Mod) (N := 61) hx hb hts in_Mod hown hK hP 0 rfl rfl 8 (by decide) (hts _ wd_1258) (fun _ h9 => h9) rfl d_Mod_link_187 ?_
                                    refine lv_if_ne (tgt := 204) hx hb d_Mod_link_190 (by decide) (fun h190 => ?_) (fun h190 => ?_)
                                    · exact tw_vret E hS (fa6, fp6) (⟨(fun h => absurd h h190), (fun h => absurd h h190), (fun h => absurd h h190), (fun h => absurd h h190), (fun h => absurd h h190), (fun h => absurd h h190), (fun h => absurd h h190)⟩) hP hD d_Mod_link_204
                                    · exact absurd h190 (fun h => h140 (hc6 h))
                              exact loop178 _ 0 fa7 fp7 ls _ _ rfl (fun h => h) (by omega) (fun _ j h2 => absurd h2 (Nat.not_lt_zero j)) (hl) hP hD hS
                            · exact absurd h140 (fun h => hp138_0 (hc7 h))
                      exact loop128 _ 0 u138.1 u138.2 ls _ _ rfl (fun h => h) (by omega) (fun _ j h2 => absurd h2 (Nat.not_lt_zero j)) (hl) hP hD hS
                    · refine lv_aload_n hx hb d_Mod_link_114 rfl (lv_at hl 1 rfl) ?_
                      refine lv_bipush (v := 6) hx hb d_Mod_link_115 (by decide) ?_
                      refine lv_aload_n hx hb d_Mod_link_117 rfl (lv_at hl 1 rfl) ?_
                      refine va_get (D := g.1) (ci := 10) (v := .int tp) (C := R_Mod) (T := F_Mod) (N := 61) hx hb hts in_Mod hown hK hP 0 rfl rfl 18 (by decide) (hts _ wd_1268) (fun _ h9 => h9) rfl d_Mod_link_118 ?_
                      refine lv_iconst (v := 2) hx hb d_Mod_link_121 (by decide) ?_
                      refine lv_iadd hx hb d_Mod_link_122 ?_
                      obtain ⟨x140, ex140⟩ : ∃ z : Int32, tp + 2 = z := ⟨_, rfl⟩
                      refine tw_ri (e2 := x140) ex140 ?_
                      refine tw_wv (wr := [((q 2), aI g 600 bs), ((q 14), aI g 620 tg), ((q 15), aI g 620 tl), ((q 16), aI g 620 on), ((q 17), aI g 620 tw), ((q 22), aI g 320 fc), ((q 23), aI g 320 fq), ((q 27), aI g 160 fl), ((q 28), aI g 160 pl), ((q 29), aI g 160 na), ((q 30), aI g 160 ty), ((q 31), aI g 160 ca)]) (tw_runV (ws := [(h0, .inr (10, mob q rf n mm mb u138.1 u138.2 av ev wi mn tp tc sc nf fd me mp xn mt wh tq ag an ig)), ((q 2), aI g 600 bs), ((q 14), aI g 620 tg), ((q 15), aI g 620 tl), ((q 16), aI g 620 on), ((q 17), aI g 620 tw), ((q 22), aI g 320 fc), ((q 23), aI g 320 fq), ((q 27), aI g 160 fl), ((q 28), aI g 160 pl), ((q 29), aI g 160 na), ((q 30), aI g 160 ty), ((q 31), aI g 160 ca)]) (wc := [(h0, .inr (10, mob q rf n mm mb u138.1 u138.2 av ev wi mn tp tc sc nf fd me mp xn mt wh tq ag an ig))]) (As := [.int 6, .int x140]) (rest := []) E hB hK hZ (g_Mod_fail l g H.size h0 q rf n mm mb av ev wi mn tp tc sc nf fd me mp xn mt wh tq ag an ig u138.1 u138.2 6 x140 (by decide)) mc_Mod_fail mi_Mod_fail me_Mod_fail wd_1478 hP hD hS hA [0] rfl (by decide) 0 rfl rfl rfl rfl rfl (by decide) rfl hl.1 rfl (Nat.le_of_ble_eq_true rfl) (by decide) d_Mod_link_123) hP hD hS hA [0] [1, 2, 3, 4, 5, 6, 7, 8, 9, 10, 11, 12] rfl rfl (by decide) (by decide) (fun u142 H locs hr141 hP hD hS => ?_)
                      try dsimp only at hr141
                      have hP : va_P g.1 classes [((q 2), aI g 600 bs), ((q 14), aI g 620 tg), ((q 15), aI g 620 tl), ((q 16), aI g 620 on), ((q 17), aI g 620 tw), ((q 22), aI g 320 fc), ((q 23), aI g 320 fq), ((q 27), aI g 160 fl), ((q 28), aI g 160 pl), ((q 29), aI g 160 na), ((q 30), aI g 160 ty), ((q 31), aI g 160 ca), (h0, .inr (10, mob q rf n mm mb u142.1 u142.2 av ev wi mn tp tc sc nf fd me mp xn mt wh tq ag an ig))] H := hP
                      have hD : va_D A [((q 2), aI g 600 bs), ((q 14), aI g 620 tg), ((q 15), aI g 620 tl), ((q 16), aI g 620 on), ((q 17), aI g 620 tw), ((q 22), aI g 320 fc), ((q 23), aI g 320 fq), ((q 27), aI g 160 fl), ((q 28), aI g 160 pl), ((q 29), aI g 160 na), ((q 30), aI g 160 ty), ((q 31), aI g 160 ca), (h0, .inr (10, mob q rf n mm mb u142.1 u142.2 av ev wi mn tp tc sc nf fd me mp xn mt wh tq ag an ig))] := hD
                      have hP : va_P g.1 classes [(h0, .inr (10, mob q rf n mm mb u142.1 u142.2 av ev wi mn tp tc sc nf fd me mp xn mt wh tq ag an ig)), ((q 2), aI g 600 bs), ((q 14), aI g 620 tg), ((q 15), aI g 620 tl), ((q 16), aI g 620 on), ((q 17), aI g 620 tw), ((q 22), aI g 320 fc), ((q 23), aI g 320 fq), ((q 27), aI g 160 fl), ((q 28), aI g 160 pl), ((q 29), aI g 160 na), ((q 30), aI g 160 ty), ((q 31), aI g 160 ca)] H := hP.sub [12, 0, 1, 2, 3, 4, 5, 6, 7, 8, 9, 10, 11] rfl
                      have hD : va_D A [(h0, .inr (10, mob q rf n mm mb u142.1 u142.2 av ev wi mn tp tc sc nf fd me mp xn mt wh tq ag an ig)), ((q 2), aI g 600 bs), ((q 14), aI g 620 tg), ((q 15), aI g 620 tl), ((q 16), aI g 620 on), ((q 17), aI g 620 tw), ((q 22), aI g 320 fc), ((q 23), aI g 320 fq), ((q 27), aI g 160 fl), ((q 28), aI g 160 pl), ((q 29), aI g 160 na), ((q 30), aI g 160 ty), ((q 31), aI g 160 ca)] := hD.sub [12, 0, 1, 2, 3, 4, 5, 6, 7, 8, 9, 10, 11] (by decide) rfl
                      have hp142_0 := hr141
                      refine lv_iconst (v := 0) hx hb d_Mod_link_126 (by decide) ?_
                      refine lv_istore_n hx hb d_Mod_link_127 rfl hl (by decide) rfl (fun ls hl => ?_)
                      have hl : lv_has ls 2 [(1, .int 0), (0, .ref h0)] := hl
                      have loop128 : ∀ (kq : Nat) (i : Nat) (fa7 : Int32) (fp7 : Int32) (ls : Array Slot) (H : Heap) (locs : List Loc) , nf - i = kq → (hc7 : fa7 = 0 → u142.1 = 0) → (hui7 : i ≤ 700) → (hFCk : fa7 = 0 → ∀ j, j < i → TGv mn tg 7 (fc j)) → lv_has ls 2 [(1, .int (nI i)), (0, .ref h0)] → va_P g.1 classes [(h0, .inr (10, mob q rf n mm mb fa7 fp7 av ev wi mn tp tc sc nf fd me mp xn mt wh tq ag an ig)), ((q 2), aI g 600 bs), ((q 14), aI g 620 tg), ((q 15), aI g 620 tl), ((q 16), aI g 620 on), ((q 17), aI g 620 tw), ((q 22), aI g 320 fc), ((q 23), aI g 320 fq), ((q 27), aI g 160 fl), ((q 28), aI g 160 pl), ((q 29), aI g 160 na), ((q 30), aI g 160 ty), ((q 31), aI g 160 ca)] H → va_D A [(h0, .inr (10, mob q rf n mm mb fa7 fp7 av ev wi mn tp tc sc nf fd me mp xn mt wh tq ag an ig)), ((q 2), aI g 600 bs), ((q 14), aI g 620 tg), ((q 15), aI g 620 tl), ((q 16), aI g 620 on), ((q 17), aI g 620 tw), ((q 22), aI g 320 fc), ((q 23), aI g 320 fq), ((q 27), aI g 160 fl), ((q 28), aI g 160 pl), ((q 29), aI g 160 na), ((q 30), aI g 160 ty), ((q 31), aI g 160 ca)] → va_S A s.heap H locs → W p l e ({ frames := 7, cells := 0, slots := 0, locals := 164 }) s m [.ref h0].toArray below meth c H locs 0 0 (MQ below (tw_Qv g (fun (u : Int32 × Int32) => (u.1 = 0 → fa = 0) ∧ (u.1 = 0 → LCA mn tg on tw) ∧ (u.1 = 0 → ∀ j, 0 < j → j < mn → MC1 bs tg on tw j) ∧ (u.1 = 0 → TGv mn tg 7 tc) ∧ (u.1 = 0 → TGv mn tg 7 sc) ∧ (u.1 = 0 → ∀ j, j < nf → TGv mn tg 7 (fc j)) ∧ (u.1 = 0 → ∀ j, j < me → LMB bs mn tg on tw fd na ty j)) (fun u : Int32 × Int32 => [(h0, .inr (10, mob q rf n mm mb u.1 u.2 av ev wi mn tp tc sc nf fd me mp xn mt wh tq ag an ig)), ((q 2), aI g 600 bs), ((q 14), aI g 620 tg), ((q 15), aI g 620 tl), ((q 16), aI g 620 on), ((q 17), aI g 620 tw), ((q 22), aI g 320 fc), ((q 23), aI g 320 fq), ((q 27), aI g 160 fl), ((q 28), aI g 160 pl), ((q 29), aI g 160 na), ((q 30), aI g 160 ty), ((q 31), aI g 160 ca)]) A) [.ref h0].toArray s 0 0 A) (F0 m 128 ls []) := by
                        intro kq
                        induction kq using Nat.strongRecOn with
                        | _ kq ih128 =>
                          intro i fa7 fp7 ls H locs hk128 hc7 hui7 hFCk hl hP hD hS
                          refine lv_iload_n hx hb d_Mod_link_128 rfl (lv_at hl 0 rfl) ?_
                          refine lv_aload_n hx hb d_Mod_link_129 rfl (lv_at hl 1 rfl) ?_
                          refine va_get (D := g.1) (ci := 10) (v := .int (nI nf)) (C := R_Mod) (T := F_Mod) (N := 61) hx hb hts in_Mod hown hK hP 0 rfl rfl 21 (by decide) (hts _ wd_1271) (fun _ h9 => h9) rfl d_Mod_link_130 ?_
                          refine lv_icmp_ge (tgt := 176) hx hb d_Mod_link_133 (by decide) (fun h133 => ?_) (fun h133 => ?_)
                          · have h133 := tn_le h133 (by omega) (by omega)
                            refine lv_iconst (v := 0) hx hb d_Mod_link_176 (by decide) ?_
                            refine lv_istore_n hx hb d_Mod_link_177 rfl hl (by decide) rfl (fun ls hl => ?_)
                            have hl : lv_has ls 2 [(1, .int 0), (0, .ref h0)] := hl
                            have loop178 : ∀ (kq : Nat) (i : Nat) (fa6 : Int32) (fp6 : Int32) (ls : Array Slot) (H : Heap) (locs : List Loc) , me - i = kq → (hc6 : fa6 = 0 → fa7 = 0) → (hui6 : i ≤ 700) → (hLMk : fa6 = 0 → ∀ j, j < i → LMB bs mn tg on tw fd na ty j) → lv_has ls 2 [(1, .int (nI i)), (0, .ref h0)] → va_P g.1 classes [(h0, .inr (10, mob q rf n mm mb fa6 fp6 av ev wi mn tp tc sc nf fd me mp xn mt wh tq ag an ig)), ((q 2), aI g 600 bs), ((q 14), aI g 620 tg), ((q 15), aI g 620 tl), ((q 16), aI g 620 on), ((q 17), aI g 620 tw), ((q 22), aI g 320 fc), ((q 23), aI g 320 fq), ((q 27), aI g 160 fl), ((q 28), aI g 160 pl), ((q 29), aI g 160 na), ((q 30), aI g 160 ty), ((q 31), aI g 160 ca)] H → va_D A [(h0, .inr (10, mob q rf n mm mb fa6 fp6 av ev wi mn tp tc sc nf fd me mp xn mt wh tq ag an ig)), ((q 2), aI g 600 bs), ((q 14), aI g 620 tg), ((q 15), aI g 620 tl), ((q 16), aI g 620 on), ((q 17), aI g 620 tw), ((q 22), aI g 320 fc), ((q 23), aI g 320 fq), ((q 27), aI g 160 fl), ((q 28), aI g 160 pl), ((q 29), aI g 160 na), ((q 30), aI g 160 ty), ((q 31), aI g 160 ca)] → va_S A s.heap H locs → W p l e ({ frames := 7, cells := 0, slots := 0, locals := 164 }) s m [.ref h0].toArray below meth c H locs 0 0 (MQ below (tw_Qv g (fun (u : Int32 × Int32) => (u.1 = 0 → fa = 0) ∧ (u.1 = 0 → LCA mn tg on tw) ∧ (u.1 = 0 → ∀ j, 0 < j → j < mn → MC1 bs tg on tw j) ∧ (u.1 = 0 → TGv mn tg 7 tc) ∧ (u.1 = 0 → TGv mn tg 7 sc) ∧ (u.1 = 0 → ∀ j, j < nf → TGv mn tg 7 (fc j)) ∧ (u.1 = 0 → ∀ j, j < me → LMB bs mn tg on tw fd na ty j)) (fun u : Int32 × Int32 => [(h0, .inr (10, mob q rf n mm mb u.1 u.2 av ev wi mn tp tc sc nf fd me mp xn mt wh tq ag an ig)), ((q 2), aI g 600 bs), ((q 14), aI g 620 tg), ((q 15), aI g 620 tl), ((q 16), aI g 620 on), ((q 17), aI g 620 tw), ((q 22), aI g 320 fc), ((q 23), aI g 320 fq), ((q 27), aI g 160 fl), ((q 28), aI g 160 pl), ((q 29), aI g 160 na), ((q 30), aI g 160 ty), ((q 31), aI g 160 ca)]) A) [.ref h0].toArray s 0 0 A) (F0 m 178 ls []) := by
                              intro kq
                              induction kq using Nat.strongRecOn with
                              | _ kq ih178 =>
                                intro i fa6 fp6 ls H locs hk178 hc6 hui6 hLMk hl hP hD hS
                                refine lv_iload_n hx hb d_Mod_link_178 rfl (lv_at hl 0 rfl) ?_
                                refine lv_aload_n hx hb d_Mod_link_179 rfl (lv_at hl 1 rfl) ?_
                                refine va_get (D := g.1) (ci := 10) (v := .int (nI me)) (C := R_Mod) (T := F_Mod) (N := 61) hx hb hts in_Mod hown hK hP 0 rfl rfl 25 (by decide) (hts _ wd_1275) (fun _ h9 => h9) rfl d_Mod_link_180 ?_
                                refine lv_icmp_ge (tgt := 204) hx hb d_Mod_link_183 (by decide) (fun h183 => ?_) (fun h183 => ?_)
                                · have h183 := tn_le h183 (by omega) (by omega)
                                  exact tw_vret E hS (fa6, fp6) (⟨(fun h => absurd h (fun h => (fun h => hp142_0 (hc7 h)) (hc6 h))), (fun h => absurd h (fun h => (fun h => hp142_0 (hc7 h)) (hc6 h))), (fun h => absurd h (fun h => (fun h => hp142_0 (hc7 h)) (hc6 h))), (fun h => absurd h (fun h => (fun h => hp142_0 (hc7 h)) (hc6 h))), (fun h => absurd h (fun h => (fun h => hp142_0 (hc7 h)) (hc6 h))), (fun h => absurd h (fun h => (fun h => hp142_0 (hc7 h)) (hc6 h))), (fun h => absurd h (fun h => (fun h => hp142_0 (hc7 h)) (hc6 h)))⟩) hP hD d_Mod_link_204
                                · have h183 := tn_nle h183 (by omega) (by omega)
                                  refine lv_aload_n hx hb d_Mod_link_186 rfl (lv_at hl 1 rfl) ?_
                                  refine va_get (D := g.1) (ci := 10) (v := .int fa6) (C := R_Mod) (T := F_Mod) (N := 61) hx hb hts in_Mod hown hK hP 0 rfl rfl 8 (by decide) (hts _ wd_1258) (fun _ h9 => h9) rfl d_Mod_link_187 ?_
                                  refine lv_if_ne (tgt := 204) hx hb d_Mod_link_190 (by decide) (fun h190 => ?_) (fun h190 => ?_)
                                  · exact tw_vret E hS (fa6, fp6) (⟨(fun h => absurd h h190), (fun h => absurd h h190), (fun h => absurd h h190), (fun h => absurd h h190), (fun h => absurd h h190), (fun h => absurd h h190), (fun h => absurd h h190)⟩) hP hD d_Mod_link_204
                                  · exact absurd h190 (fun h => (fun h => hp142_0 (hc7 h)) (hc6 h))
                            exact loop178 _ 0 fa7 fp7 ls _ _ rfl (fun h => h) (by omega) (fun _ j h2 => absurd h2 (Nat.not_lt_zero j)) (hl) hP hD hS
                          · have h133 := tn_nle h133 (by omega) (by omega)
                            refine lv_aload_n hx hb d_Mod_link_136 rfl (lv_at hl 1 rfl) ?_
                            refine va_get (D := g.1) (ci := 10) (v := .int fa7) (C := R_Mod) (T := F_Mod) (N := 61) hx hb hts in_Mod hown hK hP 0 rfl rfl 8 (by decide) (hts _ wd_1258) (fun _ h9 => h9) rfl d_Mod_link_137 ?_
                            refine lv_if_ne (tgt := 176) hx hb d_Mod_link_140 (by decide) (fun h140 => ?_) (fun h140 => ?_)
                            · refine lv_iconst (v := 0) hx hb d_Mod_link_176 (by decide) ?_
                              refine lv_istore_n hx hb d_Mod_link_177 rfl hl (by decide) rfl (fun ls hl => ?_)
                              have hl : lv_has ls 2 [(1, .int 0), (0, .ref h0)] := hl
                              have loop178 : ∀ (kq : Nat) (i : Nat) (fa6 : Int32) (fp6 : Int32) (ls : Array Slot) (H : Heap) (locs : List Loc) , me - i = kq → (hc6 : fa6 = 0 → fa7 = 0) → (hui6 : i ≤ 700) → (hLMk : fa6 = 0 → ∀ j, j < i → LMB bs mn tg on tw fd na ty j) → lv_has ls 2 [(1, .int (nI i)), (0, .ref h0)] → va_P g.1 classes [(h0, .inr (10, mob q rf n mm mb fa6 fp6 av ev wi mn tp tc sc nf fd me mp xn mt wh tq ag an ig)), ((q 2), aI g 600 bs), ((q 14), aI g 620 tg), ((q 15), aI g 620 tl), ((q 16), aI g 620 on), ((q 17), aI g 620 tw), ((q 22), aI g 320 fc), ((q 23), aI g 320 fq), ((q 27), aI g 160 fl), ((q 28), aI g 160 pl), ((q 29), aI g 160 na), ((q 30), aI g 160 ty), ((q 31), aI g 160 ca)] H → va_D A [(h0, .inr (10, mob q rf n mm mb fa6 fp6 av ev wi mn tp tc sc nf fd me mp xn mt wh tq ag an ig)), ((q 2), aI g 600 bs), ((q 14), aI g 620 tg), ((q 15), aI g 620 tl), ((q 16), aI g 620 on), ((q 17), aI g 620 tw), ((q 22), aI g 320 fc), ((q 23), aI g 320 fq), ((q 27), aI g 160 fl), ((q 28), aI g 160 pl), ((q 29), aI g 160 na), ((q 30), aI g 160 ty), ((q 31), aI g 160 ca)] → va_S A s.heap H locs → W p l e ({ frames := 7, cells := 0, slots := 0, locals := 164 }) s m [.ref h0].toArray below meth c H locs 0 0 (MQ below (tw_Qv g (fun (u : Int32 × Int32) => (u.1 = 0 → fa = 0) ∧ (u.1 = 0 → LCA mn tg on tw) ∧ (u.1 = 0 → ∀ j, 0 < j → j < mn → MC1 bs tg on tw j) ∧ (u.1 = 0 → TGv mn tg 7 tc) ∧ (u.1 = 0 → TGv mn tg 7 sc) ∧ (u.1 = 0 → ∀ j, j < nf → TGv mn tg 7 (fc j)) ∧ (u.1 = 0 → ∀ j, j < me → LMB bs mn tg on tw fd na ty j)) (fun u : Int32 × Int32 => [(h0, .inr (10, mob q rf n mm mb u.1 u.2 av ev wi mn tp tc sc nf fd me mp xn mt wh tq ag an ig)), ((q 2), aI g 600 bs), ((q 14), aI g 620 tg), ((q 15), aI g 620 tl), ((q 16), aI g 620 on), ((q 17), aI g 620 tw), ((q 22), aI g 320 fc), ((q 23), aI g 320 fq), ((q 27), aI g 160 fl), ((q 28), aI g 160 pl), ((q 29), aI g 160 na), ((q 30), aI g 160 ty), ((q 31), aI g 160 ca)]) A) [.ref h0].toArray s 0 0 A) (F0 m 178 ls []) := by
                                intro kq
                                induction kq using Nat.strongRecOn with
                                | _ kq ih178 =>
                                  intro i fa6 fp6 ls H locs hk178 hc6 hui6 hLMk hl hP hD hS
                                  refine lv_iload_n hx hb d_Mod_link_178 rfl (lv_at hl 0 rfl) ?_
                                  refine lv_aload_n hx hb d_Mod_link_179 rfl (lv_at hl 1 rfl) ?_
                                  refine va_get (D := g.1) (ci := 10) (v := .int (nI me)) (C := R_Mod) (T := F_Mod) (N := 61) hx hb hts in_Mod hown hK hP 0 rfl rfl 25 (by decide) (hts _ wd_1275) (fun _ h9 => h9) rfl d_Mod_link_180 ?_
                                  refine lv_icmp_ge (tgt := 204) hx hb d_Mod_link_183 (by decide) (fun h183 => ?_) (fun h183 => ?_)
                                  · have h183 := tn_le h183 (by omega) (by omega)
                                    exact tw_vret E hS (fa6, fp6) (⟨(fun h => absurd h (fun h => h140 (hc6 h))), (fun h => absurd h (fun h => h140 (hc6 h))), (fun h => absurd h (fun h => h140 (hc6 h))), (fun h => absurd h (fun h => h140 (hc6 h))), (fun h => absurd h (fun h => h140 (hc6 h))), (fun h => absurd h (fun h => h140 (hc6 h))), (fun h => absurd h (fun h => h140 (hc6 h)))⟩) hP hD d_Mod_link_204
                                  · have h183 := tn_nle h183 (by omega) (by omega)
                                    refine lv_aload_n hx hb d_Mod_link_186 rfl (lv_at hl 1 rfl) ?_
                                    refine va_get (D := g.1) (ci := 10) (v := .int fa6) (C := R_Mod) (T := F_Mod) (N := 61) hx hb hts in_Mod hown hK hP 0 rfl rfl 8 (by decide) (hts _ wd_1258) (fun _ h9 => h9) rfl d_Mod_link_187 ?_
                                    refine lv_if_ne (tgt := 204) hx hb d_Mod_link_190 (by decide) (fun h190 => ?_) (fun h190 => ?_)
                                    · exact tw_vret E hS (fa6, fp6) (⟨(fun h => absurd h h190), (fun h => absurd h h190), (fun h => absurd h h190), (fun h => absurd h h190), (fun h => absurd h h190), (fun h => absurd h h190), (fun h => absurd h h190)⟩) hP hD d_Mod_link_204
                                    · exact absurd h190 (fun h => h140 (hc6 h))
                              exact loop178 _ 0 fa7 fp7 ls _ _ rfl (fun h => h) (by omega) (fun _ j h2 => absurd h2 (Nat.not_lt_zero j)) (hl) hP hD hS
                            · exact absurd h140 (fun h => hp142_0 (hc7 h))
                      exact loop128 _ 0 u142.1 u142.2 ls _ _ rfl (fun h => h) (by omega) (fun _ j h2 => absurd h2 (Nat.not_lt_zero j)) (hl) hP hD hS
                · exact absurd h42 (fun h => h14 (hc8 h))
          exact loop30 _ 1 fa9 fp9 ls _ _ rfl (fun h => h) (Nat.le_refl _) (by omega) (fun _ j h1 h2 => absurd h2 (by omega)) (hl) hP hD hS
        · have hz143 := hc9 h14
          have hz144 := hLCk h14
          refine lv_aload_n hx hb d_Mod_link_17 rfl (lv_at hl 1 rfl) ?_
          refine lv_iload_n hx hb d_Mod_link_18 rfl (lv_at hl 0 rfl) ?_
          refine tw_wv (wr := [((q 22), aI g 320 fc), ((q 23), aI g 320 fq), ((q 27), aI g 160 fl), ((q 28), aI g 160 pl), ((q 29), aI g 160 na), ((q 30), aI g 160 ty), ((q 31), aI g 160 ca)]) (tw_runV (ws := [(h0, .inr (10, mob q rf n mm mb fa9 fp9 av ev wi mn tp tc sc nf fd me mp xn mt wh tq ag an ig)), ((q 2), aI g 600 bs), ((q 14), aI g 620 tg), ((q 15), aI g 620 tl), ((q 16), aI g 620 on), ((q 17), aI g 620 tw), ((q 22), aI g 320 fc), ((q 23), aI g 320 fq), ((q 27), aI g 160 fl), ((q 28), aI g 160 pl), ((q 29), aI g 160 na), ((q 30), aI g 160 ty), ((q 31), aI g 160 ca)]) (wc := [(h0, .inr (10, mob q rf n mm mb fa9 fp9 av ev wi mn tp tc sc nf fd me mp xn mt wh tq ag an ig)), ((q 2), aI g 600 bs), ((q 14), aI g 620 tg), ((q 15), aI g 620 tl), ((q 16), aI g 620 on), ((q 17), aI g 620 tw)]) (As := [.int (nI k)]) (rest := []) E hB hK hZ (g_Mod_linkConstant l g H.size h0 q rf n mm mb av ev wi mn tp tc sc nf fd me mp xn mt wh tq ag an ig bs tg tl on tw fa9 fp9 k (by omega) hTX (by omega) h14) mc_Mod_linkConstant mi_Mod_linkConstant me_Mod_linkConstant wd_1532 hP hD hS hA [0, 1, 2, 3, 4, 5] rfl (by decide) 0 rfl rfl rfl rfl rfl (by decide) rfl hl.1 rfl (Nat.le_of_ble_eq_true rfl) (by decide) d_Mod_link_19) hP hD hS hA [0, 1, 2, 3, 4, 5] [6, 7, 8, 9, 10, 11, 12] rfl rfl (by decide) (by decide) (fun u146 H locs hr145 hP hD hS => ?_)
          try dsimp only at hr145
          have hP : va_P g.1 classes [((q 22), aI g 320 fc), ((q 23), aI g 320 fq), ((q 27), aI g 160 fl), ((q 28), aI g 160 pl), ((q 29), aI g 160 na), ((q 30), aI g 160 ty), ((q 31), aI g 160 ca), (h0, .inr (10, mob q rf n mm mb u146.1 u146.2 av ev wi mn tp tc sc nf fd me mp xn mt wh tq ag an ig)), ((q 2), aI g 600 bs), ((q 14), aI g 620 tg), ((q 15), aI g 620 tl), ((q 16), aI g 620 on), ((q 17), aI g 620 tw)] H := hP
          have hD : va_D A [((q 22), aI g 320 fc), ((q 23), aI g 320 fq), ((q 27), aI g 160 fl), ((q 28), aI g 160 pl), ((q 29), aI g 160 na), ((q 30), aI g 160 ty), ((q 31), aI g 160 ca), (h0, .inr (10, mob q rf n mm mb u146.1 u146.2 av ev wi mn tp tc sc nf fd me mp xn mt wh tq ag an ig)), ((q 2), aI g 600 bs), ((q 14), aI g 620 tg), ((q 15), aI g 620 tl), ((q 16), aI g 620 on), ((q 17), aI g 620 tw)] := hD
          have hP : va_P g.1 classes [(h0, .inr (10, mob q rf n mm mb u146.1 u146.2 av ev wi mn tp tc sc nf fd me mp xn mt wh tq ag an ig)), ((q 2), aI g 600 bs), ((q 14), aI g 620 tg), ((q 15), aI g 620 tl), ((q 16), aI g 620 on), ((q 17), aI g 620 tw), ((q 22), aI g 320 fc), ((q 23), aI g 320 fq), ((q 27), aI g 160 fl), ((q 28), aI g 160 pl), ((q 29), aI g 160 na), ((q 30), aI g 160 ty), ((q 31), aI g 160 ca)] H := hP.sub [7, 8, 9, 10, 11, 12, 0, 1, 2, 3, 4, 5, 6] rfl
          have hD : va_D A [(h0, .inr (10, mob q rf n mm mb u146.1 u146.2 av ev wi mn tp tc sc nf fd me mp xn mt wh tq ag an ig)), ((q 2), aI g 600 bs), ((q 14), aI g 620 tg), ((q 15), aI g 620 tl), ((q 16), aI g 620 on), ((q 17), aI g 620 tw), ((q 22), aI g 320 fc), ((q 23), aI g 320 fq), ((q 27), aI g 160 fl), ((q 28), aI g 160 pl), ((q 29), aI g 160 na), ((q 30), aI g 160 ty), ((q 31), aI g 160 ca)] := hD.sub [7, 8, 9, 10, 11, 12, 0, 1, 2, 3, 4, 5, 6] (by decide) rfl
          obtain ⟨hp146_0, hp146_1⟩ := hr145
          refine lv_iinc (k := 0) (v := nI (k + 1)) hx hb d_Mod_link_22 hl rfl ((nI_succ k).symm) (by decide) rfl (fun ls hl => ?_)
          have hl : lv_has ls 2 [(1, .int (nI (k + 1))), (0, .ref h0)] := hl
          refine lv_goto (tgt := 2) hx hb d_Mod_link_25 (by decide) ?_
          have hP : va_P g.1 classes [(h0, .inr (10, mob q rf n mm mb u146.1 u146.2 av ev wi mn tp tc sc nf fd me mp xn mt wh tq ag an ig)), ((q 2), aI g 600 bs), ((q 14), aI g 620 tg), ((q 15), aI g 620 tl), ((q 16), aI g 620 on), ((q 17), aI g 620 tw), ((q 22), aI g 320 fc), ((q 23), aI g 320 fq), ((q 27), aI g 160 fl), ((q 28), aI g 160 pl), ((q 29), aI g 160 na), ((q 30), aI g 160 ty), ((q 31), aI g 160 ca)] H := hP.sub [0, 1, 2, 3, 4, 5, 6, 7, 8, 9, 10, 11, 12] rfl
          have hD : va_D A [(h0, .inr (10, mob q rf n mm mb u146.1 u146.2 av ev wi mn tp tc sc nf fd me mp xn mt wh tq ag an ig)), ((q 2), aI g 600 bs), ((q 14), aI g 620 tg), ((q 15), aI g 620 tl), ((q 16), aI g 620 on), ((q 17), aI g 620 tw), ((q 22), aI g 320 fc), ((q 23), aI g 320 fq), ((q 27), aI g 160 fl), ((q 28), aI g 160 pl), ((q 29), aI g 160 na), ((q 30), aI g 160 ty), ((q 31), aI g 160 ca)] := hD.sub [0, 1, 2, 3, 4, 5, 6, 7, 8, 9, 10, 11, 12] (by decide) rfl
          exact ih _ (by omega) (k + 1) u146.1 u146.2 ls _ _ rfl (fun _ => hz143) (by omega) (by omega) (fun hz => by have hz147 := hp146_0 hz; have hz148 := hc9 hz147; have hz149 := hLCk hz147; have hz150 := hp146_1 hz; exact fun j h1 h2 => by by_cases ej : j = k; (rw [ej]; exact hz150); (exact hz149 j h1 (by omega))) (lv_sub hl [0, 1] rfl) hP hD hS
  exact loop2 _ 1 fa fp ls _ _ rfl (fun h => h) (Nat.le_refl _) (by omega) (fun _ j h1 h2 => absurd h2 (by omega)) (hl) hP hD hS
end
section
theorem d_Mod_begins_0 : decode b_Mod_begins 0 = .ok (.iconst 0, 1) := by decide +kernel
theorem d_Mod_begins_1 : decode b_Mod_begins 1 = .ok (.istore_n 3, 1) := by decide +kernel
theorem d_Mod_begins_2 : decode b_Mod_begins 2 = .ok (.bipush 6, 2) := by decide +kernel
theorem d_Mod_begins_4 : decode b_Mod_begins 4 = .ok (.iload_n 2, 1) := by decide +kernel
theorem d_Mod_begins_5 : decode b_Mod_begins 5 = .ok (.imul, 1) := by decide +kernel
theorem d_Mod_begins_6 : decode b_Mod_begins 6 = .ok (.istore 4, 2) := by decide +kernel
theorem d_Mod_begins_8 : decode b_Mod_begins 8 = .ok (.iload 4, 2) := by decide +kernel
theorem d_Mod_begins_10 : decode b_Mod_begins 10 = .ok (.bipush 6, 2) := by decide +kernel
theorem d_Mod_begins_12 : decode b_Mod_begins 12 = .ok (.iload_n 2, 1) := by decide +kernel
theorem d_Mod_begins_13 : decode b_Mod_begins 13 = .ok (.imul, 1) := by decide +kernel
theorem d_Mod_begins_14 : decode b_Mod_begins 14 = .ok (.aload_n 0, 1) := by decide +kernel
theorem d_Mod_begins_15 : decode b_Mod_begins 15 = .ok (.getfield 13, 3) := by decide +kernel
theorem d_Mod_begins_18 : decode b_Mod_begins 18 = .ok (.iload_n 2, 1) := by decide +kernel
theorem d_Mod_begins_19 : decode b_Mod_begins 19 = .ok (.iaload, 1) := by decide +kernel
theorem d_Mod_begins_20 : decode b_Mod_begins 20 = .ok (.iadd, 1) := by decide +kernel
theorem d_Mod_begins_21 : decode b_Mod_begins 21 = .ok (.if_icmp .ge 110, 3) := by decide +kernel
theorem d_Mod_begins_24 : decode b_Mod_begins 24 = .ok (.aload_n 0, 1) := by decide +kernel
theorem d_Mod_begins_25 : decode b_Mod_begins 25 = .ok (.getfield 16, 3) := by decide +kernel
theorem d_Mod_begins_28 : decode b_Mod_begins 28 = .ok (.iload 4, 2) := by decide +kernel
theorem d_Mod_begins_30 : decode b_Mod_begins 30 = .ok (.iaload, 1) := by decide +kernel
theorem d_Mod_begins_31 : decode b_Mod_begins 31 = .ok (.aload_n 0, 1) := by decide +kernel
theorem d_Mod_begins_32 : decode b_Mod_begins 32 = .ok (.getfield 41, 3) := by decide +kernel
theorem d_Mod_begins_35 : decode b_Mod_begins 35 = .ok (.iload_n 1, 1) := by decide +kernel
theorem d_Mod_begins_36 : decode b_Mod_begins 36 = .ok (.iaload, 1) := by decide +kernel
theorem d_Mod_begins_37 : decode b_Mod_begins 37 = .ok (.if_icmp .gt 7, 3) := by decide +kernel
theorem d_Mod_begins_40 : decode b_Mod_begins 40 = .ok (.iconst 1, 1) := by decide +kernel
theorem d_Mod_begins_41 : decode b_Mod_begins 41 = .ok (.goto 4, 3) := by decide +kernel
theorem d_Mod_begins_44 : decode b_Mod_begins 44 = .ok (.iconst 0, 1) := by decide +kernel
theorem d_Mod_begins_45 : decode b_Mod_begins 45 = .ok (.istore 5, 2) := by decide +kernel
theorem d_Mod_begins_47 : decode b_Mod_begins 47 = .ok (.iconst 0, 1) := by decide +kernel
theorem d_Mod_begins_48 : decode b_Mod_begins 48 = .ok (.istore 6, 2) := by decide +kernel
theorem d_Mod_begins_50 : decode b_Mod_begins 50 = .ok (.iload 5, 2) := by decide +kernel
theorem d_Mod_begins_52 : decode b_Mod_begins 52 = .ok (.ifCond .eq 58, 3) := by decide +kernel
theorem d_Mod_begins_55 : decode b_Mod_begins 55 = .ok (.iload 6, 2) := by decide +kernel
theorem d_Mod_begins_57 : decode b_Mod_begins 57 = .ok (.aload_n 0, 1) := by decide +kernel
theorem d_Mod_begins_58 : decode b_Mod_begins 58 = .ok (.getfield 16, 3) := by decide +kernel
theorem d_Mod_begins_61 : decode b_Mod_begins 61 = .ok (.iload 4, 2) := by decide +kernel
theorem d_Mod_begins_63 : decode b_Mod_begins 63 = .ok (.iaload, 1) := by decide +kernel
theorem d_Mod_begins_64 : decode b_Mod_begins 64 = .ok (.if_icmp .ge 46, 3) := by decide +kernel
theorem d_Mod_begins_67 : decode b_Mod_begins 67 = .ok (.aload_n 0, 1) := by decide +kernel
theorem d_Mod_begins_68 : decode b_Mod_begins 68 = .ok (.getfield 7, 3) := by decide +kernel
theorem d_Mod_begins_71 : decode b_Mod_begins 71 = .ok (.aload_n 0, 1) := by decide +kernel
theorem d_Mod_begins_72 : decode b_Mod_begins 72 = .ok (.getfield 38, 3) := by decide +kernel
theorem d_Mod_begins_75 : decode b_Mod_begins 75 = .ok (.iload_n 1, 1) := by decide +kernel
theorem d_Mod_begins_76 : decode b_Mod_begins 76 = .ok (.iaload, 1) := by decide +kernel
theorem d_Mod_begins_77 : decode b_Mod_begins 77 = .ok (.iload 6, 2) := by decide +kernel
theorem d_Mod_begins_79 : decode b_Mod_begins 79 = .ok (.iadd, 1) := by decide +kernel
theorem d_Mod_begins_80 : decode b_Mod_begins 80 = .ok (.iaload, 1) := by decide +kernel
theorem d_Mod_begins_81 : decode b_Mod_begins 81 = .ok (.aload_n 0, 1) := by decide +kernel
theorem d_Mod_begins_82 : decode b_Mod_begins 82 = .ok (.getfield 19, 3) := by decide +kernel
theorem d_Mod_begins_85 : decode b_Mod_begins 85 = .ok (.bipush 40, 2) := by decide +kernel
theorem d_Mod_begins_87 : decode b_Mod_begins 87 = .ok (.iload 4, 2) := by decide +kernel
theorem d_Mod_begins_89 : decode b_Mod_begins 89 = .ok (.imul, 1) := by decide +kernel
theorem d_Mod_begins_90 : decode b_Mod_begins 90 = .ok (.iload 6, 2) := by decide +kernel
theorem d_Mod_begins_92 : decode b_Mod_begins 92 = .ok (.iadd, 1) := by decide +kernel
theorem d_Mod_begins_93 : decode b_Mod_begins 93 = .ok (.iaload, 1) := by decide +kernel
theorem d_Mod_begins_94 : decode b_Mod_begins 94 = .ok (.if_icmp .ne 7, 3) := by decide +kernel
theorem d_Mod_begins_97 : decode b_Mod_begins 97 = .ok (.iconst 1, 1) := by decide +kernel
theorem d_Mod_begins_98 : decode b_Mod_begins 98 = .ok (.goto 4, 3) := by decide +kernel
theorem d_Mod_begins_101 : decode b_Mod_begins 101 = .ok (.iconst 0, 1) := by decide +kernel
theorem d_Mod_begins_102 : decode b_Mod_begins 102 = .ok (.istore 5, 2) := by decide +kernel
theorem d_Mod_begins_104 : decode b_Mod_begins 104 = .ok (.iinc 6 1, 3) := by decide +kernel
theorem d_Mod_begins_107 : decode b_Mod_begins 107 = .ok (.goto (-57), 3) := by decide +kernel
theorem d_Mod_begins_110 : decode b_Mod_begins 110 = .ok (.iload_n 3, 1) := by decide +kernel
theorem d_Mod_begins_111 : decode b_Mod_begins 111 = .ok (.ifCond .ne 8, 3) := by decide +kernel
theorem d_Mod_begins_114 : decode b_Mod_begins 114 = .ok (.iload 5, 2) := by decide +kernel
theorem d_Mod_begins_116 : decode b_Mod_begins 116 = .ok (.ifCond .eq 7, 3) := by decide +kernel
theorem d_Mod_begins_119 : decode b_Mod_begins 119 = .ok (.iconst 1, 1) := by decide +kernel
theorem d_Mod_begins_120 : decode b_Mod_begins 120 = .ok (.goto 4, 3) := by decide +kernel
theorem d_Mod_begins_123 : decode b_Mod_begins 123 = .ok (.iconst 0, 1) := by decide +kernel
theorem d_Mod_begins_124 : decode b_Mod_begins 124 = .ok (.istore_n 3, 1) := by decide +kernel
theorem d_Mod_begins_125 : decode b_Mod_begins 125 = .ok (.iinc 4 1, 3) := by decide +kernel
theorem d_Mod_begins_128 : decode b_Mod_begins 128 = .ok (.goto (-120), 3) := by decide +kernel
theorem d_Mod_begins_131 : decode b_Mod_begins 131 = .ok (.iload_n 3, 1) := by decide +kernel
theorem d_Mod_begins_132 : decode b_Mod_begins 132 = .ok (.ireturn, 1) := by decide +kernel
theorem d_Mod_isFinalizer_0 : decode b_Mod_isFinalizer 0 = .ok (.aload_n 0, 1) := by decide +kernel
theorem d_Mod_isFinalizer_1 : decode b_Mod_isFinalizer 1 = .ok (.getfield 38, 3) := by decide +kernel
theorem d_Mod_isFinalizer_4 : decode b_Mod_isFinalizer 4 = .ok (.aload_n 0, 1) := by decide +kernel
theorem d_Mod_isFinalizer_5 : decode b_Mod_isFinalizer 5 = .ok (.getfield 56, 3) := by decide +kernel
theorem d_Mod_isFinalizer_8 : decode b_Mod_isFinalizer 8 = .ok (.iload_n 1, 1) := by decide +kernel
theorem d_Mod_isFinalizer_9 : decode b_Mod_isFinalizer 9 = .ok (.iaload, 1) := by decide +kernel
theorem d_Mod_isFinalizer_10 : decode b_Mod_isFinalizer 10 = .ok (.iaload, 1) := by decide +kernel
theorem d_Mod_isFinalizer_11 : decode b_Mod_isFinalizer 11 = .ok (.istore_n 2, 1) := by decide +kernel
theorem d_Mod_isFinalizer_12 : decode b_Mod_isFinalizer 12 = .ok (.aload_n 0, 1) := by decide +kernel
theorem d_Mod_isFinalizer_13 : decode b_Mod_isFinalizer 13 = .ok (.getfield 38, 3) := by decide +kernel
theorem d_Mod_isFinalizer_16 : decode b_Mod_isFinalizer 16 = .ok (.aload_n 0, 1) := by decide +kernel
theorem d_Mod_isFinalizer_17 : decode b_Mod_isFinalizer 17 = .ok (.getfield 59, 3) := by decide +kernel
theorem d_Mod_isFinalizer_20 : decode b_Mod_isFinalizer 20 = .ok (.iload_n 1, 1) := by decide +kernel
theorem d_Mod_isFinalizer_21 : decode b_Mod_isFinalizer 21 = .ok (.iaload, 1) := by decide +kernel
theorem d_Mod_isFinalizer_22 : decode b_Mod_isFinalizer 22 = .ok (.iaload, 1) := by decide +kernel
theorem d_Mod_isFinalizer_23 : decode b_Mod_isFinalizer 23 = .ok (.istore_n 3, 1) := by decide +kernel
theorem d_Mod_isFinalizer_24 : decode b_Mod_isFinalizer 24 = .ok (.aload_n 0, 1) := by decide +kernel
theorem d_Mod_isFinalizer_25 : decode b_Mod_isFinalizer 25 = .ok (.getfield 41, 3) := by decide +kernel
theorem d_Mod_isFinalizer_28 : decode b_Mod_isFinalizer 28 = .ok (.aload_n 0, 1) := by decide +kernel
theorem d_Mod_isFinalizer_29 : decode b_Mod_isFinalizer 29 = .ok (.getfield 56, 3) := by decide +kernel
theorem d_Mod_isFinalizer_32 : decode b_Mod_isFinalizer 32 = .ok (.iload_n 1, 1) := by decide +kernel
theorem d_Mod_isFinalizer_33 : decode b_Mod_isFinalizer 33 = .ok (.iaload, 1) := by decide +kernel
theorem d_Mod_isFinalizer_34 : decode b_Mod_isFinalizer 34 = .ok (.iaload, 1) := by decide +kernel
theorem d_Mod_isFinalizer_35 : decode b_Mod_isFinalizer 35 = .ok (.bipush 8, 2) := by decide +kernel
theorem d_Mod_isFinalizer_37 : decode b_Mod_isFinalizer 37 = .ok (.if_icmp .ne 111, 3) := by decide +kernel
theorem d_Mod_isFinalizer_40 : decode b_Mod_isFinalizer 40 = .ok (.aload_n 0, 1) := by decide +kernel
theorem d_Mod_isFinalizer_41 : decode b_Mod_isFinalizer 41 = .ok (.getfield 7, 3) := by decide +kernel
theorem d_Mod_isFinalizer_44 : decode b_Mod_isFinalizer 44 = .ok (.iload_n 2, 1) := by decide +kernel
theorem d_Mod_isFinalizer_45 : decode b_Mod_isFinalizer 45 = .ok (.iaload, 1) := by decide +kernel
theorem d_Mod_isFinalizer_46 : decode b_Mod_isFinalizer 46 = .ok (.bipush 102, 2) := by decide +kernel
theorem d_Mod_isFinalizer_48 : decode b_Mod_isFinalizer 48 = .ok (.if_icmp .ne 100, 3) := by decide +kernel
theorem d_Mod_isFinalizer_51 : decode b_Mod_isFinalizer 51 = .ok (.aload_n 0, 1) := by decide +kernel
theorem d_Mod_isFinalizer_52 : decode b_Mod_isFinalizer 52 = .ok (.getfield 7, 3) := by decide +kernel
theorem d_Mod_isFinalizer_55 : decode b_Mod_isFinalizer 55 = .ok (.iload_n 2, 1) := by decide +kernel
theorem d_Mod_isFinalizer_56 : decode b_Mod_isFinalizer 56 = .ok (.iconst 1, 1) := by decide +kernel
theorem d_Mod_isFinalizer_57 : decode b_Mod_isFinalizer 57 = .ok (.iadd, 1) := by decide +kernel
theorem d_Mod_isFinalizer_58 : decode b_Mod_isFinalizer 58 = .ok (.iaload, 1) := by decide +kernel
theorem d_Mod_isFinalizer_59 : decode b_Mod_isFinalizer 59 = .ok (.bipush 105, 2) := by decide +kernel
theorem d_Mod_isFinalizer_61 : decode b_Mod_isFinalizer 61 = .ok (.if_icmp .ne 87, 3) := by decide +kernel
theorem d_Mod_isFinalizer_64 : decode b_Mod_isFinalizer 64 = .ok (.aload_n 0, 1) := by decide +kernel
theorem d_Mod_isFinalizer_65 : decode b_Mod_isFinalizer 65 = .ok (.getfield 7, 3) := by decide +kernel
theorem d_Mod_isFinalizer_68 : decode b_Mod_isFinalizer 68 = .ok (.iload_n 2, 1) := by decide +kernel
theorem d_Mod_isFinalizer_69 : decode b_Mod_isFinalizer 69 = .ok (.iconst 2, 1) := by decide +kernel
theorem d_Mod_isFinalizer_70 : decode b_Mod_isFinalizer 70 = .ok (.iadd, 1) := by decide +kernel
theorem d_Mod_isFinalizer_71 : decode b_Mod_isFinalizer 71 = .ok (.iaload, 1) := by decide +kernel
theorem d_Mod_isFinalizer_72 : decode b_Mod_isFinalizer 72 = .ok (.bipush 110, 2) := by decide +kernel
theorem d_Mod_isFinalizer_74 : decode b_Mod_isFinalizer 74 = .ok (.if_icmp .ne 74, 3) := by decide +kernel
theorem d_Mod_isFinalizer_77 : decode b_Mod_isFinalizer 77 = .ok (.aload_n 0, 1) := by decide +kernel
theorem d_Mod_isFinalizer_78 : decode b_Mod_isFinalizer 78 = .ok (.getfield 7, 3) := by decide +kernel
theorem d_Mod_isFinalizer_81 : decode b_Mod_isFinalizer 81 = .ok (.iload_n 2, 1) := by decide +kernel
theorem d_Mod_isFinalizer_82 : decode b_Mod_isFinalizer 82 = .ok (.iconst 3, 1) := by decide +kernel
theorem d_Mod_isFinalizer_83 : decode b_Mod_isFinalizer 83 = .ok (.iadd, 1) := by decide +kernel
theorem d_Mod_isFinalizer_84 : decode b_Mod_isFinalizer 84 = .ok (.iaload, 1) := by decide +kernel
theorem d_Mod_isFinalizer_85 : decode b_Mod_isFinalizer 85 = .ok (.bipush 97, 2) := by decide +kernel
theorem d_Mod_isFinalizer_87 : decode b_Mod_isFinalizer 87 = .ok (.if_icmp .ne 61, 3) := by decide +kernel
theorem d_Mod_isFinalizer_90 : decode b_Mod_isFinalizer 90 = .ok (.aload_n 0, 1) := by decide +kernel
theorem d_Mod_isFinalizer_91 : decode b_Mod_isFinalizer 91 = .ok (.getfield 7, 3) := by decide +kernel
theorem d_Mod_isFinalizer_94 : decode b_Mod_isFinalizer 94 = .ok (.iload_n 2, 1) := by decide +kernel
theorem d_Mod_isFinalizer_95 : decode b_Mod_isFinalizer 95 = .ok (.iconst 4, 1) := by decide +kernel
theorem d_Mod_isFinalizer_96 : decode b_Mod_isFinalizer 96 = .ok (.iadd, 1) := by decide +kernel
theorem d_Mod_isFinalizer_97 : decode b_Mod_isFinalizer 97 = .ok (.iaload, 1) := by decide +kernel
theorem d_Mod_isFinalizer_98 : decode b_Mod_isFinalizer 98 = .ok (.bipush 108, 2) := by decide +kernel
theorem d_Mod_isFinalizer_100 : decode b_Mod_isFinalizer 100 = .ok (.if_icmp .ne 48, 3) := by decide +kernel
theorem d_Mod_isFinalizer_103 : decode b_Mod_isFinalizer 103 = .ok (.aload_n 0, 1) := by decide +kernel
theorem d_Mod_isFinalizer_104 : decode b_Mod_isFinalizer 104 = .ok (.getfield 7, 3) := by decide +kernel
theorem d_Mod_isFinalizer_107 : decode b_Mod_isFinalizer 107 = .ok (.iload_n 2, 1) := by decide +kernel
theorem d_Mod_isFinalizer_108 : decode b_Mod_isFinalizer 108 = .ok (.iconst 5, 1) := by decide +kernel
theorem d_Mod_isFinalizer_109 : decode b_Mod_isFinalizer 109 = .ok (.iadd, 1) := by decide +kernel
theorem d_Mod_isFinalizer_110 : decode b_Mod_isFinalizer 110 = .ok (.iaload, 1) := by decide +kernel
theorem d_Mod_isFinalizer_111 : decode b_Mod_isFinalizer 111 = .ok (.bipush 105, 2) := by decide +kernel
theorem d_Mod_isFinalizer_113 : decode b_Mod_isFinalizer 113 = .ok (.if_icmp .ne 35, 3) := by decide +kernel
theorem d_Mod_isFinalizer_116 : decode b_Mod_isFinalizer 116 = .ok (.aload_n 0, 1) := by decide +kernel
theorem d_Mod_isFinalizer_117 : decode b_Mod_isFinalizer 117 = .ok (.getfield 7, 3) := by decide +kernel
theorem d_Mod_isFinalizer_120 : decode b_Mod_isFinalizer 120 = .ok (.iload_n 2, 1) := by decide +kernel
theorem d_Mod_isFinalizer_121 : decode b_Mod_isFinalizer 121 = .ok (.bipush 6, 2) := by decide +kernel
theorem d_Mod_isFinalizer_123 : decode b_Mod_isFinalizer 123 = .ok (.iadd, 1) := by decide +kernel
theorem d_Mod_isFinalizer_124 : decode b_Mod_isFinalizer 124 = .ok (.iaload, 1) := by decide +kernel
theorem d_Mod_isFinalizer_125 : decode b_Mod_isFinalizer 125 = .ok (.bipush 122, 2) := by decide +kernel
theorem d_Mod_isFinalizer_127 : decode b_Mod_isFinalizer 127 = .ok (.if_icmp .ne 21, 3) := by decide +kernel
theorem d_Mod_isFinalizer_130 : decode b_Mod_isFinalizer 130 = .ok (.aload_n 0, 1) := by decide +kernel
theorem d_Mod_isFinalizer_131 : decode b_Mod_isFinalizer 131 = .ok (.getfield 7, 3) := by decide +kernel
theorem d_Mod_isFinalizer_134 : decode b_Mod_isFinalizer 134 = .ok (.iload_n 2, 1) := by decide +kernel
theorem d_Mod_isFinalizer_135 : decode b_Mod_isFinalizer 135 = .ok (.bipush 7, 2) := by decide +kernel
theorem d_Mod_isFinalizer_137 : decode b_Mod_isFinalizer 137 = .ok (.iadd, 1) := by decide +kernel
theorem d_Mod_isFinalizer_138 : decode b_Mod_isFinalizer 138 = .ok (.iaload, 1) := by decide +kernel
theorem d_Mod_isFinalizer_139 : decode b_Mod_isFinalizer 139 = .ok (.bipush 101, 2) := by decide +kernel
theorem d_Mod_isFinalizer_141 : decode b_Mod_isFinalizer 141 = .ok (.if_icmp .ne 7, 3) := by decide +kernel
theorem d_Mod_isFinalizer_144 : decode b_Mod_isFinalizer 144 = .ok (.iconst 1, 1) := by decide +kernel
theorem d_Mod_isFinalizer_145 : decode b_Mod_isFinalizer 145 = .ok (.goto 4, 3) := by decide +kernel
theorem d_Mod_isFinalizer_148 : decode b_Mod_isFinalizer 148 = .ok (.iconst 0, 1) := by decide +kernel
theorem d_Mod_isFinalizer_149 : decode b_Mod_isFinalizer 149 = .ok (.istore 4, 2) := by decide +kernel
theorem d_Mod_isFinalizer_151 : decode b_Mod_isFinalizer 151 = .ok (.iload 4, 2) := by decide +kernel
theorem d_Mod_isFinalizer_153 : decode b_Mod_isFinalizer 153 = .ok (.ifCond .eq 59, 3) := by decide +kernel
theorem d_Mod_isFinalizer_156 : decode b_Mod_isFinalizer 156 = .ok (.aload_n 0, 1) := by decide +kernel
theorem d_Mod_isFinalizer_157 : decode b_Mod_isFinalizer 157 = .ok (.getfield 41, 3) := by decide +kernel
theorem d_Mod_isFinalizer_160 : decode b_Mod_isFinalizer 160 = .ok (.aload_n 0, 1) := by decide +kernel
theorem d_Mod_isFinalizer_161 : decode b_Mod_isFinalizer 161 = .ok (.getfield 59, 3) := by decide +kernel
theorem d_Mod_isFinalizer_164 : decode b_Mod_isFinalizer 164 = .ok (.iload_n 1, 1) := by decide +kernel
theorem d_Mod_isFinalizer_165 : decode b_Mod_isFinalizer 165 = .ok (.iaload, 1) := by decide +kernel
theorem d_Mod_isFinalizer_166 : decode b_Mod_isFinalizer 166 = .ok (.iaload, 1) := by decide +kernel
theorem d_Mod_isFinalizer_167 : decode b_Mod_isFinalizer 167 = .ok (.iconst 3, 1) := by decide +kernel
theorem d_Mod_isFinalizer_168 : decode b_Mod_isFinalizer 168 = .ok (.if_icmp .ne 44, 3) := by decide +kernel
theorem d_Mod_isFinalizer_171 : decode b_Mod_isFinalizer 171 = .ok (.aload_n 0, 1) := by decide +kernel
theorem d_Mod_isFinalizer_172 : decode b_Mod_isFinalizer 172 = .ok (.getfield 7, 3) := by decide +kernel
theorem d_Mod_isFinalizer_175 : decode b_Mod_isFinalizer 175 = .ok (.iload_n 3, 1) := by decide +kernel
theorem d_Mod_isFinalizer_176 : decode b_Mod_isFinalizer 176 = .ok (.iaload, 1) := by decide +kernel
theorem d_Mod_isFinalizer_177 : decode b_Mod_isFinalizer 177 = .ok (.bipush 40, 2) := by decide +kernel
theorem d_Mod_isFinalizer_179 : decode b_Mod_isFinalizer 179 = .ok (.if_icmp .ne 33, 3) := by decide +kernel
theorem d_Mod_isFinalizer_182 : decode b_Mod_isFinalizer 182 = .ok (.aload_n 0, 1) := by decide +kernel
theorem d_Mod_isFinalizer_183 : decode b_Mod_isFinalizer 183 = .ok (.getfield 7, 3) := by decide +kernel
theorem d_Mod_isFinalizer_186 : decode b_Mod_isFinalizer 186 = .ok (.iload_n 3, 1) := by decide +kernel
theorem d_Mod_isFinalizer_187 : decode b_Mod_isFinalizer 187 = .ok (.iconst 1, 1) := by decide +kernel
theorem d_Mod_isFinalizer_188 : decode b_Mod_isFinalizer 188 = .ok (.iadd, 1) := by decide +kernel
theorem d_Mod_isFinalizer_189 : decode b_Mod_isFinalizer 189 = .ok (.iaload, 1) := by decide +kernel
theorem d_Mod_isFinalizer_190 : decode b_Mod_isFinalizer 190 = .ok (.bipush 41, 2) := by decide +kernel
theorem d_Mod_isFinalizer_192 : decode b_Mod_isFinalizer 192 = .ok (.if_icmp .ne 20, 3) := by decide +kernel
theorem d_Mod_isFinalizer_195 : decode b_Mod_isFinalizer 195 = .ok (.aload_n 0, 1) := by decide +kernel
theorem d_Mod_isFinalizer_196 : decode b_Mod_isFinalizer 196 = .ok (.getfield 7, 3) := by decide +kernel
theorem d_Mod_isFinalizer_199 : decode b_Mod_isFinalizer 199 = .ok (.iload_n 3, 1) := by decide +kernel
theorem d_Mod_isFinalizer_200 : decode b_Mod_isFinalizer 200 = .ok (.iconst 2, 1) := by decide +kernel
theorem d_Mod_isFinalizer_201 : decode b_Mod_isFinalizer 201 = .ok (.iadd, 1) := by decide +kernel
theorem d_Mod_isFinalizer_202 : decode b_Mod_isFinalizer 202 = .ok (.iaload, 1) := by decide +kernel
theorem d_Mod_isFinalizer_203 : decode b_Mod_isFinalizer 203 = .ok (.bipush 86, 2) := by decide +kernel
theorem d_Mod_isFinalizer_205 : decode b_Mod_isFinalizer 205 = .ok (.if_icmp .ne 7, 3) := by decide +kernel
theorem d_Mod_isFinalizer_208 : decode b_Mod_isFinalizer 208 = .ok (.iconst 1, 1) := by decide +kernel
theorem d_Mod_isFinalizer_209 : decode b_Mod_isFinalizer 209 = .ok (.goto 4, 3) := by decide +kernel
theorem d_Mod_isFinalizer_212 : decode b_Mod_isFinalizer 212 = .ok (.iconst 0, 1) := by decide +kernel
theorem d_Mod_isFinalizer_213 : decode b_Mod_isFinalizer 213 = .ok (.ireturn, 1) := by decide +kernel
end
section
set_option maxHeartbeats 4000000 in
set_option maxRecDepth 100000 in
theorem g_Mod_begins (l : Launch) (g : tw_G) (sz : Nat) (h0 : Nat) (q : Nat → Nat) (rf : Int32) (n : Nat) (mm : Int32) (mb : Int32) (fa : Int32) (fp : Int32) (av : Nat) (ev : Nat) (wi : Int32) (mn : Nat) (tp : Int32) (tc : Int32) (sc : Int32) (nf : Nat) (fd : Nat) (me : Nat) (mp : Int32) (xn : Nat) (mt : Nat) (wh : Nat) (tq : Nat) (ag : Nat) (an : Int32) (ig : Int32) (bs : Nat → Int32) (ru : Nat → Int32) (rs : Nat → Int32) (rt : Nat → Int32) (on : Nat → Int32) (tw : Nat → Int32) (k : Nat) (w2 : Nat) (p1 l1 : Nat) (k6k : k < 620) (q1k : on k = nI p1) (q2k : tw k = nI l1) (q3k : p1 + l1 ≤ 600) (hru : ∀ i, i < 2 → ∃ c, c ≤ 6 ∧ ru i = nI c) (hrs : ∀ i, i < 12 → ∃ c, c ≤ 40 ∧ rs i = nI c) (hw2 : w2 < 2) : Met l y_Mod_begins [.code y_Mod_begins b_Mod_begins 7 (some .boolean)] ({ frames := 0, cells := 0, slots := 0, locals := 0 }) (tw_P g [.ref h0, .int (nI k), .int (nI w2)] [(h0, .inr (10, mob q rf n mm mb fa fp av ev wi mn tp tc sc nf fd me mp xn mt wh tq ag an ig)), ((q 2), aI g 600 bs), ((q 3), aI g 2 ru), ((q 4), aI g 12 rs), ((q 5), aI g 480 rt), ((q 16), aI g 620 on), ((q 17), aI g 620 tw)] sz) (vp_Si (fun (r : Int32) => (r = 0 ∨ r = 1))) 0 0 (fun _ => False) := by
  refine tw_met (l := l) (g := g) (y := y_Mod_begins) (cc := b_Mod_begins) (maxL := 7) (ret := (some .boolean)) (rm := { frames := 0, cells := 0, slots := 0, locals := 0 }) (mc := 0) (ms := 0) (av := [.ref h0, .int (nI k), .int (nI w2)]) (ws := [(h0, .inr (10, mob q rf n mm mb fa fp av ev wi mn tp tc sc nf fd me mp xn mt wh tq ag an ig)), ((q 2), aI g 600 bs), ((q 3), aI g 2 ru), ((q 4), aI g 12 rs), ((q 5), aI g 480 rt), ((q 16), aI g 620 on), ((q 17), aI g 620 tw)]) (sz := sz) (Qc := fun _ => (vp_Si (fun (r : Int32) => (r = 0 ∨ r = 1)))) (free := fun _ _ => False) (by decide) (Nat.le_of_ble_eq_true rfl) ?_
  intro p e s m below meth c ls A E hB hK hZ hP hD hS hA hl
  obtain ⟨hx, hb, hml, hr, hown, hts, hlocks, hin⟩ := id E
  have hl : lv_has ls 7 [(0, .ref h0), (1, .int (nI k)), (2, .int (nI w2))] := hl
  obtain ⟨c1, hc1, ec1⟩ := hru w2 hw2
  refine lv_iconst (v := 0) hx hb d_Mod_begins_0 (by decide) ?_
  refine lv_istore_n hx hb d_Mod_begins_1 rfl hl (by decide) rfl (fun ls hl => ?_)
  have hl : lv_has ls 7 [(3, .int 0), (0, .ref h0), (1, .int (nI k)), (2, .int (nI w2))] := hl
  refine lv_bipush (v := 6) hx hb d_Mod_begins_2 (by decide) ?_
  refine lv_iload_n hx hb d_Mod_begins_4 rfl (lv_at hl 3 rfl) ?_
  refine lv_imul hx hb d_Mod_begins_5 ?_
  refine tw_ri (e2 := nI (6 * w2)) (pk_mul 6 w2) ?_
  refine lv_istore hx hb d_Mod_begins_6 hl (by decide) rfl (fun ls hl => ?_)
  have hl : lv_has ls 7 [(4, .int (nI (6 * w2))), (3, .int 0), (0, .ref h0), (1, .int (nI k)), (2, .int (nI w2))] := hl
  have loop8 : ∀ (kq : Nat) (g9 : Int32) (k4 : Nat) (ls : Array Slot) , 12 - k4 = kq → (hg : g9 = 0 ∨ g9 = 1) → (hk4 : k4 ≤ 12) → lv_has ls 7 [(4, .int (nI k4)), (3, .int g9), (0, .ref h0), (1, .int (nI k)), (2, .int (nI w2))] → W p l e ({ frames := 0, cells := 0, slots := 0, locals := 0 }) s m [.ref h0, .int (nI k), .int (nI w2)].toArray below meth c s.heap [] 0 0 (MQ below (vp_Si (fun (r : Int32) => (r = 0 ∨ r = 1))) [.ref h0, .int (nI k), .int (nI w2)].toArray s 0 0 (fun _ => False)) (F0 m 8 ls []) := by
    intro kq
    induction kq using Nat.strongRecOn with
    | _ kq ih =>
      intro g9 k4 ls hk hg hk4 hl 
      refine lv_iload hx hb d_Mod_begins_8 (lv_at hl 0 rfl) ?_
      refine lv_bipush (v := 6) hx hb d_Mod_begins_10 (by decide) ?_
      refine lv_iload_n hx hb d_Mod_begins_12 rfl (lv_at hl 4 rfl) ?_
      refine lv_imul hx hb d_Mod_begins_13 ?_
      refine tw_ri (e2 := nI (6 * w2)) (pk_mul 6 w2) ?_
      refine lv_aload_n hx hb d_Mod_begins_14 rfl (lv_at hl 2 rfl) ?_
      refine va_get (D := g.1) (ci := 10) (v := .ref (q 3)) (C := R_Mod) (T := F_Mod) (N := 61) hx hb hts in_Mod hown hK hP 0 rfl rfl 3 (by decide) (hts _ wd_1253) (fun _ h9 => h9) rfl d_Mod_begins_15 ?_
      refine lv_iload_n hx hb d_Mod_begins_18 rfl (lv_at hl 4 rfl) ?_
      refine va_iald hx hb hK hP 2 0 rfl rfl (vp_in_nI (by omega) (by decide)) d_Mod_begins_19 ?_
      refine tw_ri (e2 := nI c1) (by rw [nI_clamp (by omega)]; exact ec1) ?_
      refine lv_iadd hx hb d_Mod_begins_20 ?_
      refine tw_ri (e2 := nI (6 * w2 + c1)) (nI_add _ _) ?_
      refine lv_icmp_ge (tgt := 131) hx hb d_Mod_begins_21 (by decide) (fun h21 => ?_) (fun h21 => ?_)
      · refine lv_iload_n hx hb d_Mod_begins_131 rfl (lv_at hl 1 rfl) ?_
        exact tw_zsret E (tn_z hg) hg d_Mod_begins_132
      · have h21 := tn_nle h21 (by omega) (by omega)
        obtain ⟨zz, hzz, ezz⟩ := hrs k4 (by omega)
        refine lv_aload_n hx hb d_Mod_begins_24 rfl (lv_at hl 2 rfl) ?_
        refine va_get (D := g.1) (ci := 10) (v := .ref (q 4)) (C := R_Mod) (T := F_Mod) (N := 61) hx hb hts in_Mod hown hK hP 0 rfl rfl 4 (by decide) (hts _ wd_1254) (fun _ h9 => h9) rfl d_Mod_begins_25 ?_
        refine lv_iload hx hb d_Mod_begins_28 (lv_at hl 0 rfl) ?_
        refine va_iald hx hb hK hP 3 0 rfl rfl (vp_in_nI (by omega) (by decide)) d_Mod_begins_30 ?_
        refine tw_ri (e2 := nI zz) (by rw [nI_clamp (by omega)]; exact ezz) ?_
        refine lv_aload_n hx hb d_Mod_begins_31 rfl (lv_at hl 2 rfl) ?_
        refine va_get (D := g.1) (ci := 10) (v := .ref (q 17)) (C := R_Mod) (T := F_Mod) (N := 61) hx hb hts in_Mod hown hK hP 0 rfl rfl 17 (by decide) (hts _ wd_1267) (fun _ h9 => h9) rfl d_Mod_begins_32 ?_
        refine lv_iload_n hx hb d_Mod_begins_35 rfl (lv_at hl 3 rfl) ?_
        refine va_iald hx hb hK hP 6 0 rfl rfl (vp_in_nI (by omega) (by decide)) d_Mod_begins_36 ?_
        refine tw_ri (e2 := nI l1) (by rw [nI_clamp (by omega)]; exact q2k) ?_
        refine lv_icmp_gt (tgt := 44) hx hb d_Mod_begins_37 (by decide) (fun h37 => ?_) (fun h37 => ?_)
        · refine lv_iconst (v := 0) hx hb d_Mod_begins_44 (by decide) ?_
          refine lv_istore hx hb d_Mod_begins_45 hl (by decide) rfl (fun ls hl => ?_)
          have hl : lv_has ls 7 [(5, .int 0), (4, .int (nI k4)), (3, .int g9), (0, .ref h0), (1, .int (nI k)), (2, .int (nI w2))] := hl
          refine lv_iconst (v := 0) hx hb d_Mod_begins_47 (by decide) ?_
          refine lv_istore hx hb d_Mod_begins_48 hl (by decide) rfl (fun ls hl => ?_)
          have hl : lv_has ls 7 [(6, .int 0), (5, .int 0), (4, .int (nI k4)), (3, .int g9), (0, .ref h0), (1, .int (nI k)), (2, .int (nI w2))] := hl
          have loop50 : ∀ (kq : Nat) (s8 : Int32) (i : Nat) (ls : Array Slot) , zz - i = kq → (hi : i ≤ zz) → (hs8 : s8 = 0 ∨ s8 = 1) → (hsl : ¬ s8 = 0 → zz ≤ l1) → lv_has ls 7 [(6, .int (nI i)), (5, .int s8), (4, .int (nI k4)), (3, .int g9), (0, .ref h0), (1, .int (nI k)), (2, .int (nI w2))] → W p l e ({ frames := 0, cells := 0, slots := 0, locals := 0 }) s m [.ref h0, .int (nI k), .int (nI w2)].toArray below meth c s.heap [] 0 0 (MQ below (vp_Si (fun (r : Int32) => (r = 0 ∨ r = 1))) [.ref h0, .int (nI k), .int (nI w2)].toArray s 0 0 (fun _ => False)) (F0 m 50 ls []) := by
            intro kq
            induction kq using Nat.strongRecOn with
            | _ kq ih50 =>
              intro s8 i ls hk50 hi hs8 hsl hl 
              refine lv_iload hx hb d_Mod_begins_50 (lv_at hl 1 rfl) ?_
              refine lv_if_eq (tgt := 110) hx hb d_Mod_begins_52 (by decide) (fun h52 => ?_) (fun h52 => ?_)
              · refine lv_iload_n hx hb d_Mod_begins_110 rfl (lv_at hl 3 rfl) ?_
                refine lv_if_ne (tgt := 119) hx hb d_Mod_begins_111 (by decide) (fun h111 => ?_) (fun h111 => ?_)
                · refine lv_iconst (v := 1) hx hb d_Mod_begins_119 (by decide) ?_
                  refine lv_goto (tgt := 124) hx hb d_Mod_begins_120 (by decide) ?_
                  refine lv_istore_n hx hb d_Mod_begins_124 rfl hl (by decide) rfl (fun ls hl => ?_)
                  have hl : lv_has ls 7 [(3, .int 1), (6, .int (nI i)), (5, .int s8), (4, .int (nI k4)), (0, .ref h0), (1, .int (nI k)), (2, .int (nI w2))] := hl
                  refine lv_iinc (k := 3) (v := nI (k4 + 1)) hx hb d_Mod_begins_125 hl rfl ((nI_succ k4).symm) (by decide) rfl (fun ls hl => ?_)
                  have hl : lv_has ls 7 [(4, .int (nI (k4 + 1))), (3, .int 1), (6, .int (nI i)), (5, .int s8), (0, .ref h0), (1, .int (nI k)), (2, .int (nI w2))] := hl
                  refine lv_goto (tgt := 8) hx hb d_Mod_begins_128 (by decide) ?_
                  exact ih _ (by omega) 1 (k4 + 1) ls rfl (Or.inr rfl) (by omega) (lv_sub hl [0, 1, 4, 5, 6] rfl)
                · refine lv_iload hx hb d_Mod_begins_114 (lv_at hl 1 rfl) ?_
                  refine lv_if_eq (tgt := 123) hx hb d_Mod_begins_116 (by decide) (fun h116 => ?_) (fun h116 => ?_)
                  · refine lv_iconst (v := 0) hx hb d_Mod_begins_123 (by decide) ?_
                    refine lv_istore_n hx hb d_Mod_begins_124 rfl hl (by decide) rfl (fun ls hl => ?_)
                    have hl : lv_has ls 7 [(3, .int 0), (6, .int (nI i)), (5, .int s8), (4, .int (nI k4)), (0, .ref h0), (1, .int (nI k)), (2, .int (nI w2))] := hl
                    refine lv_iinc (k := 3) (v := nI (k4 + 1)) hx hb d_Mod_begins_125 hl rfl ((nI_succ k4).symm) (by decide) rfl (fun ls hl => ?_)
                    have hl : lv_has ls 7 [(4, .int (nI (k4 + 1))), (3, .int 0), (6, .int (nI i)), (5, .int s8), (0, .ref h0), (1, .int (nI k)), (2, .int (nI w2))] := hl
                    refine lv_goto (tgt := 8) hx hb d_Mod_begins_128 (by decide) ?_
                    exact ih _ (by omega) 0 (k4 + 1) ls rfl (Or.inl rfl) (by omega) (lv_sub hl [0, 1, 4, 5, 6] rfl)
                  · exact absurd h52 h116
              · refine lv_iload hx hb d_Mod_begins_55 (lv_at hl 0 rfl) ?_
                refine lv_aload_n hx hb d_Mod_begins_57 rfl (lv_at hl 4 rfl) ?_
                refine va_get (D := g.1) (ci := 10) (v := .ref (q 4)) (C := R_Mod) (T := F_Mod) (N := 61) hx hb hts in_Mod hown hK hP 0 rfl rfl 4 (by decide) (hts _ wd_1254) (fun _ h9 => h9) rfl d_Mod_begins_58 ?_
                refine lv_iload hx hb d_Mod_begins_61 (lv_at hl 2 rfl) ?_
                refine va_iald hx hb hK hP 3 0 rfl rfl (vp_in_nI (by omega) (by decide)) d_Mod_begins_63 ?_
                refine tw_ri (e2 := nI zz) (by rw [nI_clamp (by omega)]; exact ezz) ?_
                refine lv_icmp_ge (tgt := 110) hx hb d_Mod_begins_64 (by decide) (fun h64 => ?_) (fun h64 => ?_)
                · refine lv_iload_n hx hb d_Mod_begins_110 rfl (lv_at hl 3 rfl) ?_
                  refine lv_if_ne (tgt := 119) hx hb d_Mod_begins_111 (by decide) (fun h111 => ?_) (fun h111 => ?_)
                  · refine lv_iconst (v := 1) hx hb d_Mod_begins_119 (by decide) ?_
                    refine lv_goto (tgt := 124) hx hb d_Mod_begins_120 (by decide) ?_
                    refine lv_istore_n hx hb d_Mod_begins_124 rfl hl (by decide) rfl (fun ls hl => ?_)
                    have hl : lv_has ls 7 [(3, .int 1), (6, .int (nI i)), (5, .int s8), (4, .int (nI k4)), (0, .ref h0), (1, .int (nI k)), (2, .int (nI w2))] := hl
                    refine lv_iinc (k := 3) (v := nI (k4 + 1)) hx hb d_Mod_begins_125 hl rfl ((nI_succ k4).symm) (by decide) rfl (fun ls hl => ?_)
                    have hl : lv_has ls 7 [(4, .int (nI (k4 + 1))), (3, .int 1), (6, .int (nI i)), (5, .int s8), (0, .ref h0), (1, .int (nI k)), (2, .int (nI w2))] := hl
                    refine lv_goto (tgt := 8) hx hb d_Mod_begins_128 (by decide) ?_
                    exact ih _ (by omega) 1 (k4 + 1) ls rfl (Or.inr rfl) (by omega) (lv_sub hl [0, 1, 4, 5, 6] rfl)
                  · refine lv_iload hx hb d_Mod_begins_114 (lv_at hl 1 rfl) ?_
                    refine lv_if_eq (tgt := 123) hx hb d_Mod_begins_116 (by decide) (fun h116 => ?_) (fun h116 => ?_)
                    · exact absurd h116 h52
                    · refine lv_iconst (v := 1) hx hb d_Mod_begins_119 (by decide) ?_
                      refine lv_goto (tgt := 124) hx hb d_Mod_begins_120 (by decide) ?_
                      refine lv_istore_n hx hb d_Mod_begins_124 rfl hl (by decide) rfl (fun ls hl => ?_)
                      have hl : lv_has ls 7 [(3, .int 1), (6, .int (nI i)), (5, .int s8), (4, .int (nI k4)), (0, .ref h0), (1, .int (nI k)), (2, .int (nI w2))] := hl
                      refine lv_iinc (k := 3) (v := nI (k4 + 1)) hx hb d_Mod_begins_125 hl rfl ((nI_succ k4).symm) (by decide) rfl (fun ls hl => ?_)
                      have hl : lv_has ls 7 [(4, .int (nI (k4 + 1))), (3, .int 1), (6, .int (nI i)), (5, .int s8), (0, .ref h0), (1, .int (nI k)), (2, .int (nI w2))] := hl
                      refine lv_goto (tgt := 8) hx hb d_Mod_begins_128 (by decide) ?_
                      exact ih _ (by omega) 1 (k4 + 1) ls rfl (Or.inr rfl) (by omega) (lv_sub hl [0, 1, 4, 5, 6] rfl)
                · have h64 := tn_nle h64 (by omega) (by omega)
                  have hll := hsl h52
                  refine lv_aload_n hx hb d_Mod_begins_67 rfl (lv_at hl 4 rfl) ?_
                  refine va_get (D := g.1) (ci := 10) (v := .ref (q 2)) (C := R_Mod) (T := F_Mod) (N := 61) hx hb hts in_Mod hown hK hP 0 rfl rfl 2 (by decide) (hts _ wd_1252) (fun _ h9 => h9) rfl d_Mod_begins_68 ?_
                  refine lv_aload_n hx hb d_Mod_begins_71 rfl (lv_at hl 4 rfl) ?_
                  refine va_get (D := g.1) (ci := 10) (v := .ref (q 16)) (C := R_Mod) (T := F_Mod) (N := 61) hx hb hts in_Mod hown hK hP 0 rfl rfl 16 (by decide) (hts _ wd_1266) (fun _ h9 => h9) rfl d_Mod_begins_72 ?_
                  refine lv_iload_n hx hb d_Mod_begins_75 rfl (lv_at hl 5 rfl) ?_
                  refine va_iald hx hb hK hP 5 0 rfl rfl (vp_in_nI (by omega) (by decide)) d_Mod_begins_76 ?_
                  refine tw_ri (e2 := nI p1) (by rw [nI_clamp (by omega)]; exact q1k) ?_
                  refine lv_iload hx hb d_Mod_begins_77 (lv_at hl 0 rfl) ?_
                  refine lv_iadd hx hb d_Mod_begins_79 ?_
                  refine tw_ri (e2 := nI (p1 + i)) (nI_add _ _) ?_
                  refine va_iald hx hb hK hP 1 0 rfl rfl (vp_in_nI (by omega) (by decide)) d_Mod_begins_80 ?_
                  obtain ⟨x1, ex1⟩ : ∃ z : Int32, bs ((nI (p1 + i)).toNatClampNeg) = z := ⟨_, rfl⟩
                  refine tw_ri (e2 := x1) ex1 ?_
                  refine lv_aload_n hx hb d_Mod_begins_81 rfl (lv_at hl 4 rfl) ?_
                  refine va_get (D := g.1) (ci := 10) (v := .ref (q 5)) (C := R_Mod) (T := F_Mod) (N := 61) hx hb hts in_Mod hown hK hP 0 rfl rfl 5 (by decide) (hts _ wd_1255) (fun _ h9 => h9) rfl d_Mod_begins_82 ?_
                  refine lv_bipush (v := 40) hx hb d_Mod_begins_85 (by decide) ?_
                  refine lv_iload hx hb d_Mod_begins_87 (lv_at hl 2 rfl) ?_
                  refine lv_imul hx hb d_Mod_begins_89 ?_
                  refine tw_ri (e2 := nI (40 * k4)) (pk_mul 40 k4) ?_
                  refine lv_iload hx hb d_Mod_begins_90 (lv_at hl 0 rfl) ?_
                  refine lv_iadd hx hb d_Mod_begins_92 ?_
                  refine tw_ri (e2 := nI (40 * k4 + i)) (nI_add _ _) ?_
                  refine va_iald hx hb hK hP 4 0 rfl rfl (vp_in_nI (by omega) (by decide)) d_Mod_begins_93 ?_
                  obtain ⟨x2, ex2⟩ : ∃ z : Int32, rt ((nI (40 * k4 + i)).toNatClampNeg) = z := ⟨_, rfl⟩
                  refine tw_ri (e2 := x2) ex2 ?_
                  refine lv_icmp_ne (tgt := 101) hx hb d_Mod_begins_94 (by decide) (fun h94 => ?_) (fun h94 => ?_)
                  · refine lv_iconst (v := 0) hx hb d_Mod_begins_101 (by decide) ?_
                    refine lv_istore hx hb d_Mod_begins_102 hl (by decide) rfl (fun ls hl => ?_)
                    have hl : lv_has ls 7 [(5, .int 0), (6, .int (nI i)), (4, .int (nI k4)), (3, .int g9), (0, .ref h0), (1, .int (nI k)), (2, .int (nI w2))] := hl
                    refine lv_iinc (k := 1) (v := nI (i + 1)) hx hb d_Mod_begins_104 hl rfl ((nI_succ i).symm) (by decide) rfl (fun ls hl => ?_)
                    have hl : lv_has ls 7 [(6, .int (nI (i + 1))), (5, .int 0), (4, .int (nI k4)), (3, .int g9), (0, .ref h0), (1, .int (nI k)), (2, .int (nI w2))] := hl
                    refine lv_goto (tgt := 50) hx hb d_Mod_begins_107 (by decide) ?_
                    exact ih50 _ (by omega) 0 (i + 1) ls rfl (by omega) (Or.inl rfl) (fun _ => hll) (lv_sub hl [0, 1, 2, 3, 4, 5, 6] rfl)
                  · refine lv_iconst (v := 1) hx hb d_Mod_begins_97 (by decide) ?_
                    refine lv_goto (tgt := 102) hx hb d_Mod_begins_98 (by decide) ?_
                    refine lv_istore hx hb d_Mod_begins_102 hl (by decide) rfl (fun ls hl => ?_)
                    have hl : lv_has ls 7 [(5, .int 1), (6, .int (nI i)), (4, .int (nI k4)), (3, .int g9), (0, .ref h0), (1, .int (nI k)), (2, .int (nI w2))] := hl
                    refine lv_iinc (k := 1) (v := nI (i + 1)) hx hb d_Mod_begins_104 hl rfl ((nI_succ i).symm) (by decide) rfl (fun ls hl => ?_)
                    have hl : lv_has ls 7 [(6, .int (nI (i + 1))), (5, .int 1), (4, .int (nI k4)), (3, .int g9), (0, .ref h0), (1, .int (nI k)), (2, .int (nI w2))] := hl
                    refine lv_goto (tgt := 50) hx hb d_Mod_begins_107 (by decide) ?_
                    exact ih50 _ (by omega) 1 (i + 1) ls rfl (by omega) (Or.inr rfl) (fun _ => hll) (lv_sub hl [0, 1, 2, 3, 4, 5, 6] rfl)
          exact loop50 _ 0 0 ls rfl (Nat.zero_le _) (Or.inl rfl) (fun h => absurd rfl h) (hl)
        · have h37 := tn_nlt h37 (by omega) (by omega)
          refine lv_iconst (v := 1) hx hb d_Mod_begins_40 (by decide) ?_
          refine lv_goto (tgt := 45) hx hb d_Mod_begins_41 (by decide) ?_
          refine lv_istore hx hb d_Mod_begins_45 hl (by decide) rfl (fun ls hl => ?_)
          have hl : lv_has ls 7 [(5, .int 1), (4, .int (nI k4)), (3, .int g9), (0, .ref h0), (1, .int (nI k)), (2, .int (nI w2))] := hl
          refine lv_iconst (v := 0) hx hb d_Mod_begins_47 (by decide) ?_
          refine lv_istore hx hb d_Mod_begins_48 hl (by decide) rfl (fun ls hl => ?_)
          have hl : lv_has ls 7 [(6, .int 0), (5, .int 1), (4, .int (nI k4)), (3, .int g9), (0, .ref h0), (1, .int (nI k)), (2, .int (nI w2))] := hl
          have loop50 : ∀ (kq : Nat) (s8 : Int32) (i : Nat) (ls : Array Slot) , zz - i = kq → (hi : i ≤ zz) → (hs8 : s8 = 0 ∨ s8 = 1) → (hsl : ¬ s8 = 0 → zz ≤ l1) → lv_has ls 7 [(6, .int (nI i)), (5, .int s8), (4, .int (nI k4)), (3, .int g9), (0, .ref h0), (1, .int (nI k)), (2, .int (nI w2))] → W p l e ({ frames := 0, cells := 0, slots := 0, locals := 0 }) s m [.ref h0, .int (nI k), .int (nI w2)].toArray below meth c s.heap [] 0 0 (MQ below (vp_Si (fun (r : Int32) => (r = 0 ∨ r = 1))) [.ref h0, .int (nI k), .int (nI w2)].toArray s 0 0 (fun _ => False)) (F0 m 50 ls []) := by
            intro kq
            induction kq using Nat.strongRecOn with
            | _ kq ih50 =>
              intro s8 i ls hk50 hi hs8 hsl hl 
              refine lv_iload hx hb d_Mod_begins_50 (lv_at hl 1 rfl) ?_
              refine lv_if_eq (tgt := 110) hx hb d_Mod_begins_52 (by decide) (fun h52 => ?_) (fun h52 => ?_)
              · refine lv_iload_n hx hb d_Mod_begins_110 rfl (lv_at hl 3 rfl) ?_
                refine lv_if_ne (tgt := 119) hx hb d_Mod_begins_111 (by decide) (fun h111 => ?_) (fun h111 => ?_)
                · refine lv_iconst (v := 1) hx hb d_Mod_begins_119 (by decide) ?_
                  refine lv_goto (tgt := 124) hx hb d_Mod_begins_120 (by decide) ?_
                  refine lv_istore_n hx hb d_Mod_begins_124 rfl hl (by decide) rfl (fun ls hl => ?_)
                  have hl : lv_has ls 7 [(3, .int 1), (6, .int (nI i)), (5, .int s8), (4, .int (nI k4)), (0, .ref h0), (1, .int (nI k)), (2, .int (nI w2))] := hl
                  refine lv_iinc (k := 3) (v := nI (k4 + 1)) hx hb d_Mod_begins_125 hl rfl ((nI_succ k4).symm) (by decide) rfl (fun ls hl => ?_)
                  have hl : lv_has ls 7 [(4, .int (nI (k4 + 1))), (3, .int 1), (6, .int (nI i)), (5, .int s8), (0, .ref h0), (1, .int (nI k)), (2, .int (nI w2))] := hl
                  refine lv_goto (tgt := 8) hx hb d_Mod_begins_128 (by decide) ?_
                  exact ih _ (by omega) 1 (k4 + 1) ls rfl (Or.inr rfl) (by omega) (lv_sub hl [0, 1, 4, 5, 6] rfl)
                · refine lv_iload hx hb d_Mod_begins_114 (lv_at hl 1 rfl) ?_
                  refine lv_if_eq (tgt := 123) hx hb d_Mod_begins_116 (by decide) (fun h116 => ?_) (fun h116 => ?_)
                  · refine lv_iconst (v := 0) hx hb d_Mod_begins_123 (by decide) ?_
                    refine lv_istore_n hx hb d_Mod_begins_124 rfl hl (by decide) rfl (fun ls hl => ?_)
                    have hl : lv_has ls 7 [(3, .int 0), (6, .int (nI i)), (5, .int s8), (4, .int (nI k4)), (0, .ref h0), (1, .int (nI k)), (2, .int (nI w2))] := hl
                    refine lv_iinc (k := 3) (v := nI (k4 + 1)) hx hb d_Mod_begins_125 hl rfl ((nI_succ k4).symm) (by decide) rfl (fun ls hl => ?_)
                    have hl : lv_has ls 7 [(4, .int (nI (k4 + 1))), (3, .int 0), (6, .int (nI i)), (5, .int s8), (0, .ref h0), (1, .int (nI k)), (2, .int (nI w2))] := hl
                    refine lv_goto (tgt := 8) hx hb d_Mod_begins_128 (by decide) ?_
                    exact ih _ (by omega) 0 (k4 + 1) ls rfl (Or.inl rfl) (by omega) (lv_sub hl [0, 1, 4, 5, 6] rfl)
                  · exact absurd h52 h116
              · refine lv_iload hx hb d_Mod_begins_55 (lv_at hl 0 rfl) ?_
                refine lv_aload_n hx hb d_Mod_begins_57 rfl (lv_at hl 4 rfl) ?_
                refine va_get (D := g.1) (ci := 10) (v := .ref (q 4)) (C := R_Mod) (T := F_Mod) (N := 61) hx hb hts in_Mod hown hK hP 0 rfl rfl 4 (by decide) (hts _ wd_1254) (fun _ h9 => h9) rfl d_Mod_begins_58 ?_
                refine lv_iload hx hb d_Mod_begins_61 (lv_at hl 2 rfl) ?_
                refine va_iald hx hb hK hP 3 0 rfl rfl (vp_in_nI (by omega) (by decide)) d_Mod_begins_63 ?_
                refine tw_ri (e2 := nI zz) (by rw [nI_clamp (by omega)]; exact ezz) ?_
                refine lv_icmp_ge (tgt := 110) hx hb d_Mod_begins_64 (by decide) (fun h64 => ?_) (fun h64 => ?_)
                · refine lv_iload_n hx hb d_Mod_begins_110 rfl (lv_at hl 3 rfl) ?_
                  refine lv_if_ne (tgt := 119) hx hb d_Mod_begins_111 (by decide) (fun h111 => ?_) (fun h111 => ?_)
                  · refine lv_iconst (v := 1) hx hb d_Mod_begins_119 (by decide) ?_
                    refine lv_goto (tgt := 124) hx hb d_Mod_begins_120 (by decide) ?_
                    refine lv_istore_n hx hb d_Mod_begins_124 rfl hl (by decide) rfl (fun ls hl => ?_)
                    have hl : lv_has ls 7 [(3, .int 1), (6, .int (nI i)), (5, .int s8), (4, .int (nI k4)), (0, .ref h0), (1, .int (nI k)), (2, .int (nI w2))] := hl
                    refine lv_iinc (k := 3) (v := nI (k4 + 1)) hx hb d_Mod_begins_125 hl rfl ((nI_succ k4).symm) (by decide) rfl (fun ls hl => ?_)
                    have hl : lv_has ls 7 [(4, .int (nI (k4 + 1))), (3, .int 1), (6, .int (nI i)), (5, .int s8), (0, .ref h0), (1, .int (nI k)), (2, .int (nI w2))] := hl
                    refine lv_goto (tgt := 8) hx hb d_Mod_begins_128 (by decide) ?_
                    exact ih _ (by omega) 1 (k4 + 1) ls rfl (Or.inr rfl) (by omega) (lv_sub hl [0, 1, 4, 5, 6] rfl)
                  · refine lv_iload hx hb d_Mod_begins_114 (lv_at hl 1 rfl) ?_
                    refine lv_if_eq (tgt := 123) hx hb d_Mod_begins_116 (by decide) (fun h116 => ?_) (fun h116 => ?_)
                    · exact absurd h116 h52
                    · refine lv_iconst (v := 1) hx hb d_Mod_begins_119 (by decide) ?_
                      refine lv_goto (tgt := 124) hx hb d_Mod_begins_120 (by decide) ?_
                      refine lv_istore_n hx hb d_Mod_begins_124 rfl hl (by decide) rfl (fun ls hl => ?_)
                      have hl : lv_has ls 7 [(3, .int 1), (6, .int (nI i)), (5, .int s8), (4, .int (nI k4)), (0, .ref h0), (1, .int (nI k)), (2, .int (nI w2))] := hl
                      refine lv_iinc (k := 3) (v := nI (k4 + 1)) hx hb d_Mod_begins_125 hl rfl ((nI_succ k4).symm) (by decide) rfl (fun ls hl => ?_)
                      have hl : lv_has ls 7 [(4, .int (nI (k4 + 1))), (3, .int 1), (6, .int (nI i)), (5, .int s8), (0, .ref h0), (1, .int (nI k)), (2, .int (nI w2))] := hl
                      refine lv_goto (tgt := 8) hx hb d_Mod_begins_128 (by decide) ?_
                      exact ih _ (by omega) 1 (k4 + 1) ls rfl (Or.inr rfl) (by omega) (lv_sub hl [0, 1, 4, 5, 6] rfl)
                · have h64 := tn_nle h64 (by omega) (by omega)
                  have hll := hsl h52
                  refine lv_aload_n hx hb d_Mod_begins_67 rfl (lv_at hl 4 rfl) ?_
                  refine va_get (D := g.1) (ci := 10) (v := .ref (q 2)) (C := R_Mod) (T := F_Mod) (N := 61) hx hb hts in_Mod hown hK hP 0 rfl rfl 2 (by decide) (hts _ wd_1252) (fun _ h9 => h9) rfl d_Mod_begins_68 ?_
                  refine lv_aload_n hx hb d_Mod_begins_71 rfl (lv_at hl 4 rfl) ?_
                  refine va_get (D := g.1) (ci := 10) (v := .ref (q 16)) (C := R_Mod) (T := F_Mod) (N := 61) hx hb hts in_Mod hown hK hP 0 rfl rfl 16 (by decide) (hts _ wd_1266) (fun _ h9 => h9) rfl d_Mod_begins_72 ?_
                  refine lv_iload_n hx hb d_Mod_begins_75 rfl (lv_at hl 5 rfl) ?_
                  refine va_iald hx hb hK hP 5 0 rfl rfl (vp_in_nI (by omega) (by decide)) d_Mod_begins_76 ?_
                  refine tw_ri (e2 := nI p1) (by rw [nI_clamp (by omega)]; exact q1k) ?_
                  refine lv_iload hx hb d_Mod_begins_77 (lv_at hl 0 rfl) ?_
                  refine lv_iadd hx hb d_Mod_begins_79 ?_
                  refine tw_ri (e2 := nI (p1 + i)) (nI_add _ _) ?_
                  refine va_iald hx hb hK hP 1 0 rfl rfl (vp_in_nI (by omega) (by decide)) d_Mod_begins_80 ?_
                  obtain ⟨x3, ex3⟩ : ∃ z : Int32, bs ((nI (p1 + i)).toNatClampNeg) = z := ⟨_, rfl⟩
                  refine tw_ri (e2 := x3) ex3 ?_
                  refine lv_aload_n hx hb d_Mod_begins_81 rfl (lv_at hl 4 rfl) ?_
                  refine va_get (D := g.1) (ci := 10) (v := .ref (q 5)) (C := R_Mod) (T := F_Mod) (N := 61) hx hb hts in_Mod hown hK hP 0 rfl rfl 5 (by decide) (hts _ wd_1255) (fun _ h9 => h9) rfl d_Mod_begins_82 ?_
                  refine lv_bipush (v := 40) hx hb d_Mod_begins_85 (by decide) ?_
                  refine lv_iload hx hb d_Mod_begins_87 (lv_at hl 2 rfl) ?_
                  refine lv_imul hx hb d_Mod_begins_89 ?_
                  refine tw_ri (e2 := nI (40 * k4)) (pk_mul 40 k4) ?_
                  refine lv_iload hx hb d_Mod_begins_90 (lv_at hl 0 rfl) ?_
                  refine lv_iadd hx hb d_Mod_begins_92 ?_
                  refine tw_ri (e2 := nI (40 * k4 + i)) (nI_add _ _) ?_
                  refine va_iald hx hb hK hP 4 0 rfl rfl (vp_in_nI (by omega) (by decide)) d_Mod_begins_93 ?_
                  obtain ⟨x4, ex4⟩ : ∃ z : Int32, rt ((nI (40 * k4 + i)).toNatClampNeg) = z := ⟨_, rfl⟩
                  refine tw_ri (e2 := x4) ex4 ?_
                  refine lv_icmp_ne (tgt := 101) hx hb d_Mod_begins_94 (by decide) (fun h94 => ?_) (fun h94 => ?_)
                  · refine lv_iconst (v := 0) hx hb d_Mod_begins_101 (by decide) ?_
                    refine lv_istore hx hb d_Mod_begins_102 hl (by decide) rfl (fun ls hl => ?_)
                    have hl : lv_has ls 7 [(5, .int 0), (6, .int (nI i)), (4, .int (nI k4)), (3, .int g9), (0, .ref h0), (1, .int (nI k)), (2, .int (nI w2))] := hl
                    refine lv_iinc (k := 1) (v := nI (i + 1)) hx hb d_Mod_begins_104 hl rfl ((nI_succ i).symm) (by decide) rfl (fun ls hl => ?_)
                    have hl : lv_has ls 7 [(6, .int (nI (i + 1))), (5, .int 0), (4, .int (nI k4)), (3, .int g9), (0, .ref h0), (1, .int (nI k)), (2, .int (nI w2))] := hl
                    refine lv_goto (tgt := 50) hx hb d_Mod_begins_107 (by decide) ?_
                    exact ih50 _ (by omega) 0 (i + 1) ls rfl (by omega) (Or.inl rfl) (fun _ => hll) (lv_sub hl [0, 1, 2, 3, 4, 5, 6] rfl)
                  · refine lv_iconst (v := 1) hx hb d_Mod_begins_97 (by decide) ?_
                    refine lv_goto (tgt := 102) hx hb d_Mod_begins_98 (by decide) ?_
                    refine lv_istore hx hb d_Mod_begins_102 hl (by decide) rfl (fun ls hl => ?_)
                    have hl : lv_has ls 7 [(5, .int 1), (6, .int (nI i)), (4, .int (nI k4)), (3, .int g9), (0, .ref h0), (1, .int (nI k)), (2, .int (nI w2))] := hl
                    refine lv_iinc (k := 1) (v := nI (i + 1)) hx hb d_Mod_begins_104 hl rfl ((nI_succ i).symm) (by decide) rfl (fun ls hl => ?_)
                    have hl : lv_has ls 7 [(6, .int (nI (i + 1))), (5, .int 1), (4, .int (nI k4)), (3, .int g9), (0, .ref h0), (1, .int (nI k)), (2, .int (nI w2))] := hl
                    refine lv_goto (tgt := 50) hx hb d_Mod_begins_107 (by decide) ?_
                    exact ih50 _ (by omega) 1 (i + 1) ls rfl (by omega) (Or.inr rfl) (fun _ => hll) (lv_sub hl [0, 1, 2, 3, 4, 5, 6] rfl)
          exact loop50 _ 1 0 ls rfl (Nat.zero_le _) (Or.inr rfl) (fun _ => h37) (hl)
  exact loop8 _ 0 (6 * w2) ls rfl (Or.inl rfl) (by omega) (lv_sub hl [0, 1, 2, 3, 4] rfl)
set_option maxHeartbeats 4000000 in
set_option maxRecDepth 100000 in
theorem g_Mod_isFinalizer (l : Launch) (g : tw_G) (sz : Nat) (h0 : Nat) (q : Nat → Nat) (rf : Int32) (n : Nat) (mm : Int32) (mb : Int32) (fa : Int32) (fp : Int32) (av : Nat) (ev : Nat) (wi : Int32) (mn : Nat) (tp : Int32) (tc : Int32) (sc : Int32) (nf : Nat) (fd : Nat) (me : Nat) (mp : Int32) (xn : Nat) (mt : Nat) (wh : Nat) (tq : Nat) (ag : Nat) (an : Int32) (ig : Int32) (bs : Nat → Int32) (tg : Nat → Int32) (on : Nat → Int32) (tw : Nat → Int32) (na : Nat → Int32) (ty : Nat → Int32) (mi : Nat) (hmn : mn ≤ 620) (hTX : TXT tg on tw) (hmi : mi < 160) (hLM1 : LMB bs mn tg on tw fd na ty mi) : Met l y_Mod_isFinalizer [.code y_Mod_isFinalizer b_Mod_isFinalizer 5 (some .boolean)] ({ frames := 0, cells := 0, slots := 0, locals := 0 }) (tw_P g [.ref h0, .int (nI mi)] [(h0, .inr (10, mob q rf n mm mb fa fp av ev wi mn tp tc sc nf fd me mp xn mt wh tq ag an ig)), ((q 2), aI g 600 bs), ((q 14), aI g 620 tg), ((q 16), aI g 620 on), ((q 17), aI g 620 tw), ((q 29), aI g 160 na), ((q 30), aI g 160 ty)] sz) (vp_Si (fun (r : Int32) => (r = 0 ∨ r = 1))) 0 0 (fun _ => False) := by
  refine tw_met (l := l) (g := g) (y := y_Mod_isFinalizer) (cc := b_Mod_isFinalizer) (maxL := 5) (ret := (some .boolean)) (rm := { frames := 0, cells := 0, slots := 0, locals := 0 }) (mc := 0) (ms := 0) (av := [.ref h0, .int (nI mi)]) (ws := [(h0, .inr (10, mob q rf n mm mb fa fp av ev wi mn tp tc sc nf fd me mp xn mt wh tq ag an ig)), ((q 2), aI g 600 bs), ((q 14), aI g 620 tg), ((q 16), aI g 620 on), ((q 17), aI g 620 tw), ((q 29), aI g 160 na), ((q 30), aI g 160 ty)]) (sz := sz) (Qc := fun _ => (vp_Si (fun (r : Int32) => (r = 0 ∨ r = 1)))) (free := fun _ _ => False) (by decide) (Nat.le_of_ble_eq_true rfl) ?_
  intro p e s m below meth c ls A E hB hK hZ hP hD hS hA hl
  obtain ⟨hx, hb, hml, hr, hown, hts, hlocks, hin⟩ := id E
  have hl : lv_has ls 5 [(0, .ref h0), (1, .int (nI mi))] := hl
  obtain ⟨⟨jn, f0, f0b, f1, f1b⟩, ⟨jt, pt, lt1, f2a, f2b, f2, f2c, f5, f6, f7, f8⟩⟩ := hLM1
  obtain ⟨pn, ln1, f3, f4, f9⟩ := hTX jn (by omega) f1b
  refine lv_aload_n hx hb d_Mod_isFinalizer_0 rfl (lv_at hl 0 rfl) ?_
  refine va_get (D := g.1) (ci := 10) (v := .ref (q 16)) (C := R_Mod) (T := F_Mod) (N := 61) hx hb hts in_Mod hown hK hP 0 rfl rfl 16 (by decide) (hts _ wd_1266) (fun _ h9 => h9) rfl d_Mod_isFinalizer_1 ?_
  refine lv_aload_n hx hb d_Mod_isFinalizer_4 rfl (lv_at hl 0 rfl) ?_
  refine va_get (D := g.1) (ci := 10) (v := .ref (q 29)) (C := R_Mod) (T := F_Mod) (N := 61) hx hb hts in_Mod hown hK hP 0 rfl rfl 29 (by decide) (hts _ wd_1279) (fun _ h9 => h9) rfl d_Mod_isFinalizer_5 ?_
  refine lv_iload_n hx hb d_Mod_isFinalizer_8 rfl (lv_at hl 1 rfl) ?_
  refine va_iald hx hb hK hP 5 0 rfl rfl (vp_in_nI (by omega) (by decide)) d_Mod_isFinalizer_9 ?_
  refine tw_ri (e2 := nI jn) (by rw [nI_clamp (by omega)]; exact f1) ?_
  refine va_iald hx hb hK hP 3 0 rfl rfl (vp_in_nI (by omega) (by decide)) d_Mod_isFinalizer_10 ?_
  refine tw_ri (e2 := nI pn) (by rw [nI_clamp (by omega)]; exact f3) ?_
  refine lv_istore_n hx hb d_Mod_isFinalizer_11 rfl hl (by decide) rfl (fun ls hl => ?_)
  have hl : lv_has ls 5 [(2, .int (nI pn)), (0, .ref h0), (1, .int (nI mi))] := hl
  refine lv_aload_n hx hb d_Mod_isFinalizer_12 rfl (lv_at hl 1 rfl) ?_
  refine va_get (D := g.1) (ci := 10) (v := .ref (q 16)) (C := R_Mod) (T := F_Mod) (N := 61) hx hb hts in_Mod hown hK hP 0 rfl rfl 16 (by decide) (hts _ wd_1266) (fun _ h9 => h9) rfl d_Mod_isFinalizer_13 ?_
  refine lv_aload_n hx hb d_Mod_isFinalizer_16 rfl (lv_at hl 1 rfl) ?_
  refine va_get (D := g.1) (ci := 10) (v := .ref (q 30)) (C := R_Mod) (T := F_Mod) (N := 61) hx hb hts in_Mod hown hK hP 0 rfl rfl 30 (by decide) (hts _ wd_1280) (fun _ h9 => h9) rfl d_Mod_isFinalizer_17 ?_
  refine lv_iload_n hx hb d_Mod_isFinalizer_20 rfl (lv_at hl 2 rfl) ?_
  refine va_iald hx hb hK hP 6 0 rfl rfl (vp_in_nI (by omega) (by decide)) d_Mod_isFinalizer_21 ?_
  refine tw_ri (e2 := nI jt) (by rw [nI_clamp (by omega)]; exact f2) ?_
  refine va_iald hx hb hK hP 3 0 rfl rfl (vp_in_nI (by omega) (by decide)) d_Mod_isFinalizer_22 ?_
  refine tw_ri (e2 := nI pt) (by rw [nI_clamp (by omega)]; exact f5) ?_
  refine lv_istore_n hx hb d_Mod_isFinalizer_23 rfl hl (by decide) rfl (fun ls hl => ?_)
  have hl : lv_has ls 5 [(3, .int (nI pt)), (2, .int (nI pn)), (0, .ref h0), (1, .int (nI mi))] := hl
  refine lv_aload_n hx hb d_Mod_isFinalizer_24 rfl (lv_at hl 2 rfl) ?_
  refine va_get (D := g.1) (ci := 10) (v := .ref (q 17)) (C := R_Mod) (T := F_Mod) (N := 61) hx hb hts in_Mod hown hK hP 0 rfl rfl 17 (by decide) (hts _ wd_1267) (fun _ h9 => h9) rfl d_Mod_isFinalizer_25 ?_
  refine lv_aload_n hx hb d_Mod_isFinalizer_28 rfl (lv_at hl 2 rfl) ?_
  refine va_get (D := g.1) (ci := 10) (v := .ref (q 29)) (C := R_Mod) (T := F_Mod) (N := 61) hx hb hts in_Mod hown hK hP 0 rfl rfl 29 (by decide) (hts _ wd_1279) (fun _ h9 => h9) rfl d_Mod_isFinalizer_29 ?_
  refine lv_iload_n hx hb d_Mod_isFinalizer_32 rfl (lv_at hl 3 rfl) ?_
  refine va_iald hx hb hK hP 5 0 rfl rfl (vp_in_nI (by omega) (by decide)) d_Mod_isFinalizer_33 ?_
  refine tw_ri (e2 := nI jn) (by rw [nI_clamp (by omega)]; exact f1) ?_
  refine va_iald hx hb hK hP 4 0 rfl rfl (vp_in_nI (by omega) (by decide)) d_Mod_isFinalizer_34 ?_
  refine tw_ri (e2 := nI ln1) (by rw [nI_clamp (by omega)]; exact f4) ?_
  refine lv_bipush (v := 8) hx hb d_Mod_isFinalizer_35 (by decide) ?_
  refine lv_icmp_ne (tgt := 148) hx hb d_Mod_isFinalizer_37 (by decide) (fun h37 => ?_) (fun h37 => ?_)
  · refine lv_iconst (v := 0) hx hb d_Mod_isFinalizer_148 (by decide) ?_
    refine lv_istore hx hb d_Mod_isFinalizer_149 hl (by decide) rfl (fun ls hl => ?_)
    have hl : lv_has ls 5 [(4, .int 0), (3, .int (nI pt)), (2, .int (nI pn)), (0, .ref h0), (1, .int (nI mi))] := hl
    refine lv_iload hx hb d_Mod_isFinalizer_151 (lv_at hl 0 rfl) ?_
    refine lv_if_eq (tgt := 212) hx hb d_Mod_isFinalizer_153 (by decide) (fun h153 => ?_) (fun h153 => ?_)
    · refine lv_iconst (v := 0) hx hb d_Mod_isFinalizer_212 (by decide) ?_
      exact tw_zsret E (by decide) (by decide) d_Mod_isFinalizer_213
    · first | exact absurd h153 (by decide) | exact absurd (by decide) h153
  · have h37 := tn_eq (b := 8) h37 (by omega) (by decide)
    refine lv_aload_n hx hb d_Mod_isFinalizer_40 rfl (lv_at hl 2 rfl) ?_
    refine va_get (D := g.1) (ci := 10) (v := .ref (q 2)) (C := R_Mod) (T := F_Mod) (N := 61) hx hb hts in_Mod hown hK hP 0 rfl rfl 2 (by decide) (hts _ wd_1252) (fun _ h9 => h9) rfl d_Mod_isFinalizer_41 ?_
    refine lv_iload_n hx hb d_Mod_isFinalizer_44 rfl (lv_at hl 1 rfl) ?_
    refine va_iald hx hb hK hP 1 0 rfl rfl (vp_in_nI (by omega) (by decide)) d_Mod_isFinalizer_45 ?_
    obtain ⟨x1, ex1⟩ : ∃ z : Int32, bs ((nI pn).toNatClampNeg) = z := ⟨_, rfl⟩
    refine tw_ri (e2 := x1) ex1 ?_
    refine lv_bipush (v := 102) hx hb d_Mod_isFinalizer_46 (by decide) ?_
    refine lv_icmp_ne (tgt := 148) hx hb d_Mod_isFinalizer_48 (by decide) (fun h48 => ?_) (fun h48 => ?_)
    · refine lv_iconst (v := 0) hx hb d_Mod_isFinalizer_148 (by decide) ?_
      refine lv_istore hx hb d_Mod_isFinalizer_149 hl (by decide) rfl (fun ls hl => ?_)
      have hl : lv_has ls 5 [(4, .int 0), (3, .int (nI pt)), (2, .int (nI pn)), (0, .ref h0), (1, .int (nI mi))] := hl
      refine lv_iload hx hb d_Mod_isFinalizer_151 (lv_at hl 0 rfl) ?_
      refine lv_if_eq (tgt := 212) hx hb d_Mod_isFinalizer_153 (by decide) (fun h153 => ?_) (fun h153 => ?_)
      · refine lv_iconst (v := 0) hx hb d_Mod_isFinalizer_212 (by decide) ?_
        exact tw_zsret E (by decide) (by decide) d_Mod_isFinalizer_213
      · first | exact absurd h153 (by decide) | exact absurd (by decide) h153
    · refine lv_aload_n hx hb d_Mod_isFinalizer_51 rfl (lv_at hl 2 rfl) ?_
      refine va_get (D := g.1) (ci := 10) (v := .ref (q 2)) (C := R_Mod) (T := F_Mod) (N := 61) hx hb hts in_Mod hown hK hP 0 rfl rfl 2 (by decide) (hts _ wd_1252) (fun _ h9 => h9) rfl d_Mod_isFinalizer_52 ?_
      refine lv_iload_n hx hb d_Mod_isFinalizer_55 rfl (lv_at hl 1 rfl) ?_
      refine lv_iconst (v := 1) hx hb d_Mod_isFinalizer_56 (by decide) ?_
      refine lv_iadd hx hb d_Mod_isFinalizer_57 ?_
      refine tw_ri (e2 := nI (pn + 1)) (nI_add pn 1) ?_
      refine va_iald hx hb hK hP 1 0 rfl rfl (vp_in_nI (by omega) (by decide)) d_Mod_isFinalizer_58 ?_
      obtain ⟨x2, ex2⟩ : ∃ z : Int32, bs ((nI (pn + 1)).toNatClampNeg) = z := ⟨_, rfl⟩
      refine tw_ri (e2 := x2) ex2 ?_
      refine lv_bipush (v := 105) hx hb d_Mod_isFinalizer_59 (by decide) ?_
      refine lv_icmp_ne (tgt := 148) hx hb d_Mod_isFinalizer_61 (by decide) (fun h61 => ?_) (fun h61 => ?_)
      · refine lv_iconst (v := 0) hx hb d_Mod_isFinalizer_148 (by decide) ?_
        refine lv_istore hx hb d_Mod_isFinalizer_149 hl (by decide) rfl (fun ls hl => ?_)
        have hl : lv_has ls 5 [(4, .int 0), (3, .int (nI pt)), (2, .int (nI pn)), (0, .ref h0), (1, .int (nI mi))] := hl
        refine lv_iload hx hb d_Mod_isFinalizer_151 (lv_at hl 0 rfl) ?_
        refine lv_if_eq (tgt := 212) hx hb d_Mod_isFinalizer_153 (by decide) (fun h153 => ?_) (fun h153 => ?_)
        · refine lv_iconst (v := 0) hx hb d_Mod_isFinalizer_212 (by decide) ?_
          exact tw_zsret E (by decide) (by decide) d_Mod_isFinalizer_213
        · first | exact absurd h153 (by decide) | exact absurd (by decide) h153
      · refine lv_aload_n hx hb d_Mod_isFinalizer_64 rfl (lv_at hl 2 rfl) ?_
        refine va_get (D := g.1) (ci := 10) (v := .ref (q 2)) (C := R_Mod) (T := F_Mod) (N := 61) hx hb hts in_Mod hown hK hP 0 rfl rfl 2 (by decide) (hts _ wd_1252) (fun _ h9 => h9) rfl d_Mod_isFinalizer_65 ?_
        refine lv_iload_n hx hb d_Mod_isFinalizer_68 rfl (lv_at hl 1 rfl) ?_
        refine lv_iconst (v := 2) hx hb d_Mod_isFinalizer_69 (by decide) ?_
        refine lv_iadd hx hb d_Mod_isFinalizer_70 ?_
        refine tw_ri (e2 := nI (pn + 2)) (nI_add pn 2) ?_
        refine va_iald hx hb hK hP 1 0 rfl rfl (vp_in_nI (by omega) (by decide)) d_Mod_isFinalizer_71 ?_
        obtain ⟨x3, ex3⟩ : ∃ z : Int32, bs ((nI (pn + 2)).toNatClampNeg) = z := ⟨_, rfl⟩
        refine tw_ri (e2 := x3) ex3 ?_
        refine lv_bipush (v := 110) hx hb d_Mod_isFinalizer_72 (by decide) ?_
        refine lv_icmp_ne (tgt := 148) hx hb d_Mod_isFinalizer_74 (by decide) (fun h74 => ?_) (fun h74 => ?_)
        · refine lv_iconst (v := 0) hx hb d_Mod_isFinalizer_148 (by decide) ?_
          refine lv_istore hx hb d_Mod_isFinalizer_149 hl (by decide) rfl (fun ls hl => ?_)
          have hl : lv_has ls 5 [(4, .int 0), (3, .int (nI pt)), (2, .int (nI pn)), (0, .ref h0), (1, .int (nI mi))] := hl
          refine lv_iload hx hb d_Mod_isFinalizer_151 (lv_at hl 0 rfl) ?_
          refine lv_if_eq (tgt := 212) hx hb d_Mod_isFinalizer_153 (by decide) (fun h153 => ?_) (fun h153 => ?_)
          · refine lv_iconst (v := 0) hx hb d_Mod_isFinalizer_212 (by decide) ?_
            exact tw_zsret E (by decide) (by decide) d_Mod_isFinalizer_213
          · first | exact absurd h153 (by decide) | exact absurd (by decide) h153
        · refine lv_aload_n hx hb d_Mod_isFinalizer_77 rfl (lv_at hl 2 rfl) ?_
          refine va_get (D := g.1) (ci := 10) (v := .ref (q 2)) (C := R_Mod) (T := F_Mod) (N := 61) hx hb hts in_Mod hown hK hP 0 rfl rfl 2 (by decide) (hts _ wd_1252) (fun _ h9 => h9) rfl d_Mod_isFinalizer_78 ?_
          refine lv_iload_n hx hb d_Mod_isFinalizer_81 rfl (lv_at hl 1 rfl) ?_
          refine lv_iconst (v := 3) hx hb d_Mod_isFinalizer_82 (by decide) ?_
          refine lv_iadd hx hb d_Mod_isFinalizer_83 ?_
          refine tw_ri (e2 := nI (pn + 3)) (nI_add pn 3) ?_
          refine va_iald hx hb hK hP 1 0 rfl rfl (vp_in_nI (by omega) (by decide)) d_Mod_isFinalizer_84 ?_
          obtain ⟨x4, ex4⟩ : ∃ z : Int32, bs ((nI (pn + 3)).toNatClampNeg) = z := ⟨_, rfl⟩
          refine tw_ri (e2 := x4) ex4 ?_
          refine lv_bipush (v := 97) hx hb d_Mod_isFinalizer_85 (by decide) ?_
          refine lv_icmp_ne (tgt := 148) hx hb d_Mod_isFinalizer_87 (by decide) (fun h87 => ?_) (fun h87 => ?_)
          · refine lv_iconst (v := 0) hx hb d_Mod_isFinalizer_148 (by decide) ?_
            refine lv_istore hx hb d_Mod_isFinalizer_149 hl (by decide) rfl (fun ls hl => ?_)
            have hl : lv_has ls 5 [(4, .int 0), (3, .int (nI pt)), (2, .int (nI pn)), (0, .ref h0), (1, .int (nI mi))] := hl
            refine lv_iload hx hb d_Mod_isFinalizer_151 (lv_at hl 0 rfl) ?_
            refine lv_if_eq (tgt := 212) hx hb d_Mod_isFinalizer_153 (by decide) (fun h153 => ?_) (fun h153 => ?_)
            · refine lv_iconst (v := 0) hx hb d_Mod_isFinalizer_212 (by decide) ?_
              exact tw_zsret E (by decide) (by decide) d_Mod_isFinalizer_213
            · first | exact absurd h153 (by decide) | exact absurd (by decide) h153
          · refine lv_aload_n hx hb d_Mod_isFinalizer_90 rfl (lv_at hl 2 rfl) ?_
            refine va_get (D := g.1) (ci := 10) (v := .ref (q 2)) (C := R_Mod) (T := F_Mod) (N := 61) hx hb hts in_Mod hown hK hP 0 rfl rfl 2 (by decide) (hts _ wd_1252) (fun _ h9 => h9) rfl d_Mod_isFinalizer_91 ?_
            refine lv_iload_n hx hb d_Mod_isFinalizer_94 rfl (lv_at hl 1 rfl) ?_
            refine lv_iconst (v := 4) hx hb d_Mod_isFinalizer_95 (by decide) ?_
            refine lv_iadd hx hb d_Mod_isFinalizer_96 ?_
            refine tw_ri (e2 := nI (pn + 4)) (nI_add pn 4) ?_
            refine va_iald hx hb hK hP 1 0 rfl rfl (vp_in_nI (by omega) (by decide)) d_Mod_isFinalizer_97 ?_
            obtain ⟨x5, ex5⟩ : ∃ z : Int32, bs ((nI (pn + 4)).toNatClampNeg) = z := ⟨_, rfl⟩
            refine tw_ri (e2 := x5) ex5 ?_
            refine lv_bipush (v := 108) hx hb d_Mod_isFinalizer_98 (by decide) ?_
            refine lv_icmp_ne (tgt := 148) hx hb d_Mod_isFinalizer_100 (by decide) (fun h100 => ?_) (fun h100 => ?_)
            · refine lv_iconst (v := 0) hx hb d_Mod_isFinalizer_148 (by decide) ?_
              refine lv_istore hx hb d_Mod_isFinalizer_149 hl (by decide) rfl (fun ls hl => ?_)
              have hl : lv_has ls 5 [(4, .int 0), (3, .int (nI pt)), (2, .int (nI pn)), (0, .ref h0), (1, .int (nI mi))] := hl
              refine lv_iload hx hb d_Mod_isFinalizer_151 (lv_at hl 0 rfl) ?_
              refine lv_if_eq (tgt := 212) hx hb d_Mod_isFinalizer_153 (by decide) (fun h153 => ?_) (fun h153 => ?_)
              · refine lv_iconst (v := 0) hx hb d_Mod_isFinalizer_212 (by decide) ?_
                exact tw_zsret E (by decide) (by decide) d_Mod_isFinalizer_213
              · first | exact absurd h153 (by decide) | exact absurd (by decide) h153
            · refine lv_aload_n hx hb d_Mod_isFinalizer_103 rfl (lv_at hl 2 rfl) ?_
              refine va_get (D := g.1) (ci := 10) (v := .ref (q 2)) (C := R_Mod) (T := F_Mod) (N := 61) hx hb hts in_Mod hown hK hP 0 rfl rfl 2 (by decide) (hts _ wd_1252) (fun _ h9 => h9) rfl d_Mod_isFinalizer_104 ?_
              refine lv_iload_n hx hb d_Mod_isFinalizer_107 rfl (lv_at hl 1 rfl) ?_
              refine lv_iconst (v := 5) hx hb d_Mod_isFinalizer_108 (by decide) ?_
              refine lv_iadd hx hb d_Mod_isFinalizer_109 ?_
              refine tw_ri (e2 := nI (pn + 5)) (nI_add pn 5) ?_
              refine va_iald hx hb hK hP 1 0 rfl rfl (vp_in_nI (by omega) (by decide)) d_Mod_isFinalizer_110 ?_
              obtain ⟨x6, ex6⟩ : ∃ z : Int32, bs ((nI (pn + 5)).toNatClampNeg) = z := ⟨_, rfl⟩
              refine tw_ri (e2 := x6) ex6 ?_
              refine lv_bipush (v := 105) hx hb d_Mod_isFinalizer_111 (by decide) ?_
              refine lv_icmp_ne (tgt := 148) hx hb d_Mod_isFinalizer_113 (by decide) (fun h113 => ?_) (fun h113 => ?_)
              · refine lv_iconst (v := 0) hx hb d_Mod_isFinalizer_148 (by decide) ?_
                refine lv_istore hx hb d_Mod_isFinalizer_149 hl (by decide) rfl (fun ls hl => ?_)
                have hl : lv_has ls 5 [(4, .int 0), (3, .int (nI pt)), (2, .int (nI pn)), (0, .ref h0), (1, .int (nI mi))] := hl
                refine lv_iload hx hb d_Mod_isFinalizer_151 (lv_at hl 0 rfl) ?_
                refine lv_if_eq (tgt := 212) hx hb d_Mod_isFinalizer_153 (by decide) (fun h153 => ?_) (fun h153 => ?_)
                · refine lv_iconst (v := 0) hx hb d_Mod_isFinalizer_212 (by decide) ?_
                  exact tw_zsret E (by decide) (by decide) d_Mod_isFinalizer_213
                · first | exact absurd h153 (by decide) | exact absurd (by decide) h153
              · refine lv_aload_n hx hb d_Mod_isFinalizer_116 rfl (lv_at hl 2 rfl) ?_
                refine va_get (D := g.1) (ci := 10) (v := .ref (q 2)) (C := R_Mod) (T := F_Mod) (N := 61) hx hb hts in_Mod hown hK hP 0 rfl rfl 2 (by decide) (hts _ wd_1252) (fun _ h9 => h9) rfl d_Mod_isFinalizer_117 ?_
                refine lv_iload_n hx hb d_Mod_isFinalizer_120 rfl (lv_at hl 1 rfl) ?_
                refine lv_bipush (v := 6) hx hb d_Mod_isFinalizer_121 (by decide) ?_
                refine lv_iadd hx hb d_Mod_isFinalizer_123 ?_
                refine tw_ri (e2 := nI (pn + 6)) (nI_add pn 6) ?_
                refine va_iald hx hb hK hP 1 0 rfl rfl (vp_in_nI (by omega) (by decide)) d_Mod_isFinalizer_124 ?_
                obtain ⟨x7, ex7⟩ : ∃ z : Int32, bs ((nI (pn + 6)).toNatClampNeg) = z := ⟨_, rfl⟩
                refine tw_ri (e2 := x7) ex7 ?_
                refine lv_bipush (v := 122) hx hb d_Mod_isFinalizer_125 (by decide) ?_
                refine lv_icmp_ne (tgt := 148) hx hb d_Mod_isFinalizer_127 (by decide) (fun h127 => ?_) (fun h127 => ?_)
                · refine lv_iconst (v := 0) hx hb d_Mod_isFinalizer_148 (by decide) ?_
                  refine lv_istore hx hb d_Mod_isFinalizer_149 hl (by decide) rfl (fun ls hl => ?_)
                  have hl : lv_has ls 5 [(4, .int 0), (3, .int (nI pt)), (2, .int (nI pn)), (0, .ref h0), (1, .int (nI mi))] := hl
                  refine lv_iload hx hb d_Mod_isFinalizer_151 (lv_at hl 0 rfl) ?_
                  refine lv_if_eq (tgt := 212) hx hb d_Mod_isFinalizer_153 (by decide) (fun h153 => ?_) (fun h153 => ?_)
                  · refine lv_iconst (v := 0) hx hb d_Mod_isFinalizer_212 (by decide) ?_
                    exact tw_zsret E (by decide) (by decide) d_Mod_isFinalizer_213
                  · first | exact absurd h153 (by decide) | exact absurd (by decide) h153
                · refine lv_aload_n hx hb d_Mod_isFinalizer_130 rfl (lv_at hl 2 rfl) ?_
                  refine va_get (D := g.1) (ci := 10) (v := .ref (q 2)) (C := R_Mod) (T := F_Mod) (N := 61) hx hb hts in_Mod hown hK hP 0 rfl rfl 2 (by decide) (hts _ wd_1252) (fun _ h9 => h9) rfl d_Mod_isFinalizer_131 ?_
                  refine lv_iload_n hx hb d_Mod_isFinalizer_134 rfl (lv_at hl 1 rfl) ?_
                  refine lv_bipush (v := 7) hx hb d_Mod_isFinalizer_135 (by decide) ?_
                  refine lv_iadd hx hb d_Mod_isFinalizer_137 ?_
                  refine tw_ri (e2 := nI (pn + 7)) (nI_add pn 7) ?_
                  refine va_iald hx hb hK hP 1 0 rfl rfl (vp_in_nI (by omega) (by decide)) d_Mod_isFinalizer_138 ?_
                  obtain ⟨x8, ex8⟩ : ∃ z : Int32, bs ((nI (pn + 7)).toNatClampNeg) = z := ⟨_, rfl⟩
                  refine tw_ri (e2 := x8) ex8 ?_
                  refine lv_bipush (v := 101) hx hb d_Mod_isFinalizer_139 (by decide) ?_
                  refine lv_icmp_ne (tgt := 148) hx hb d_Mod_isFinalizer_141 (by decide) (fun h141 => ?_) (fun h141 => ?_)
                  · refine lv_iconst (v := 0) hx hb d_Mod_isFinalizer_148 (by decide) ?_
                    refine lv_istore hx hb d_Mod_isFinalizer_149 hl (by decide) rfl (fun ls hl => ?_)
                    have hl : lv_has ls 5 [(4, .int 0), (3, .int (nI pt)), (2, .int (nI pn)), (0, .ref h0), (1, .int (nI mi))] := hl
                    refine lv_iload hx hb d_Mod_isFinalizer_151 (lv_at hl 0 rfl) ?_
                    refine lv_if_eq (tgt := 212) hx hb d_Mod_isFinalizer_153 (by decide) (fun h153 => ?_) (fun h153 => ?_)
                    · refine lv_iconst (v := 0) hx hb d_Mod_isFinalizer_212 (by decide) ?_
                      exact tw_zsret E (by decide) (by decide) d_Mod_isFinalizer_213
                    · first | exact absurd h153 (by decide) | exact absurd (by decide) h153
                  · refine lv_iconst (v := 1) hx hb d_Mod_isFinalizer_144 (by decide) ?_
                    refine lv_goto (tgt := 149) hx hb d_Mod_isFinalizer_145 (by decide) ?_
                    refine lv_istore hx hb d_Mod_isFinalizer_149 hl (by decide) rfl (fun ls hl => ?_)
                    have hl : lv_has ls 5 [(4, .int 1), (3, .int (nI pt)), (2, .int (nI pn)), (0, .ref h0), (1, .int (nI mi))] := hl
                    refine lv_iload hx hb d_Mod_isFinalizer_151 (lv_at hl 0 rfl) ?_
                    refine lv_if_eq (tgt := 212) hx hb d_Mod_isFinalizer_153 (by decide) (fun h153 => ?_) (fun h153 => ?_)
                    · first | exact absurd h153 (by decide) | exact absurd (by decide) h153
                    · refine lv_aload_n hx hb d_Mod_isFinalizer_156 rfl (lv_at hl 3 rfl) ?_
                      refine va_get (D := g.1) (ci := 10) (v := .ref (q 17)) (C := R_Mod) (T := F_Mod) (N := 61) hx hb hts in_Mod hown hK hP 0 rfl rfl 17 (by decide) (hts _ wd_1267) (fun _ h9 => h9) rfl d_Mod_isFinalizer_157 ?_
                      refine lv_aload_n hx hb d_Mod_isFinalizer_160 rfl (lv_at hl 3 rfl) ?_
                      refine va_get (D := g.1) (ci := 10) (v := .ref (q 30)) (C := R_Mod) (T := F_Mod) (N := 61) hx hb hts in_Mod hown hK hP 0 rfl rfl 30 (by decide) (hts _ wd_1280) (fun _ h9 => h9) rfl d_Mod_isFinalizer_161 ?_
                      refine lv_iload_n hx hb d_Mod_isFinalizer_164 rfl (lv_at hl 4 rfl) ?_
                      refine va_iald hx hb hK hP 6 0 rfl rfl (vp_in_nI (by omega) (by decide)) d_Mod_isFinalizer_165 ?_
                      refine tw_ri (e2 := nI jt) (by rw [nI_clamp (by omega)]; exact f2) ?_
                      refine va_iald hx hb hK hP 4 0 rfl rfl (vp_in_nI (by omega) (by decide)) d_Mod_isFinalizer_166 ?_
                      refine tw_ri (e2 := nI lt1) (by rw [nI_clamp (by omega)]; exact f6) ?_
                      refine lv_iconst (v := 3) hx hb d_Mod_isFinalizer_167 (by decide) ?_
                      refine lv_icmp_ne (tgt := 212) hx hb d_Mod_isFinalizer_168 (by decide) (fun h168 => ?_) (fun h168 => ?_)
                      · refine lv_iconst (v := 0) hx hb d_Mod_isFinalizer_212 (by decide) ?_
                        exact tw_zsret E (by decide) (by decide) d_Mod_isFinalizer_213
                      · have h168 := tn_eq (b := 3) h168 (by omega) (by decide)
                        refine lv_aload_n hx hb d_Mod_isFinalizer_171 rfl (lv_at hl 3 rfl) ?_
                        refine va_get (D := g.1) (ci := 10) (v := .ref (q 2)) (C := R_Mod) (T := F_Mod) (N := 61) hx hb hts in_Mod hown hK hP 0 rfl rfl 2 (by decide) (hts _ wd_1252) (fun _ h9 => h9) rfl d_Mod_isFinalizer_172 ?_
                        refine lv_iload_n hx hb d_Mod_isFinalizer_175 rfl (lv_at hl 1 rfl) ?_
                        refine va_iald hx hb hK hP 1 0 rfl rfl (vp_in_nI (by omega) (by decide)) d_Mod_isFinalizer_176 ?_
                        obtain ⟨x9, ex9⟩ : ∃ z : Int32, bs ((nI pt).toNatClampNeg) = z := ⟨_, rfl⟩
                        refine tw_ri (e2 := x9) ex9 ?_
                        refine lv_bipush (v := 40) hx hb d_Mod_isFinalizer_177 (by decide) ?_
                        refine lv_icmp_ne (tgt := 212) hx hb d_Mod_isFinalizer_179 (by decide) (fun h179 => ?_) (fun h179 => ?_)
                        · refine lv_iconst (v := 0) hx hb d_Mod_isFinalizer_212 (by decide) ?_
                          exact tw_zsret E (by decide) (by decide) d_Mod_isFinalizer_213
                        · refine lv_aload_n hx hb d_Mod_isFinalizer_182 rfl (lv_at hl 3 rfl) ?_
                          refine va_get (D := g.1) (ci := 10) (v := .ref (q 2)) (C := R_Mod) (T := F_Mod) (N := 61) hx hb hts in_Mod hown hK hP 0 rfl rfl 2 (by decide) (hts _ wd_1252) (fun _ h9 => h9) rfl d_Mod_isFinalizer_183 ?_
                          refine lv_iload_n hx hb d_Mod_isFinalizer_186 rfl (lv_at hl 1 rfl) ?_
                          refine lv_iconst (v := 1) hx hb d_Mod_isFinalizer_187 (by decide) ?_
                          refine lv_iadd hx hb d_Mod_isFinalizer_188 ?_
                          refine tw_ri (e2 := nI (pt + 1)) (nI_add pt 1) ?_
                          refine va_iald hx hb hK hP 1 0 rfl rfl (vp_in_nI (by omega) (by decide)) d_Mod_isFinalizer_189 ?_
                          obtain ⟨x10, ex10⟩ : ∃ z : Int32, bs ((nI (pt + 1)).toNatClampNeg) = z := ⟨_, rfl⟩
                          refine tw_ri (e2 := x10) ex10 ?_
                          refine lv_bipush (v := 41) hx hb d_Mod_isFinalizer_190 (by decide) ?_
                          refine lv_icmp_ne (tgt := 212) hx hb d_Mod_isFinalizer_192 (by decide) (fun h192 => ?_) (fun h192 => ?_)
                          · refine lv_iconst (v := 0) hx hb d_Mod_isFinalizer_212 (by decide) ?_
                            exact tw_zsret E (by decide) (by decide) d_Mod_isFinalizer_213
                          · refine lv_aload_n hx hb d_Mod_isFinalizer_195 rfl (lv_at hl 3 rfl) ?_
                            refine va_get (D := g.1) (ci := 10) (v := .ref (q 2)) (C := R_Mod) (T := F_Mod) (N := 61) hx hb hts in_Mod hown hK hP 0 rfl rfl 2 (by decide) (hts _ wd_1252) (fun _ h9 => h9) rfl d_Mod_isFinalizer_196 ?_
                            refine lv_iload_n hx hb d_Mod_isFinalizer_199 rfl (lv_at hl 1 rfl) ?_
                            refine lv_iconst (v := 2) hx hb d_Mod_isFinalizer_200 (by decide) ?_
                            refine lv_iadd hx hb d_Mod_isFinalizer_201 ?_
                            refine tw_ri (e2 := nI (pt + 2)) (nI_add pt 2) ?_
                            refine va_iald hx hb hK hP 1 0 rfl rfl (vp_in_nI (by omega) (by decide)) d_Mod_isFinalizer_202 ?_
                            obtain ⟨x11, ex11⟩ : ∃ z : Int32, bs ((nI (pt + 2)).toNatClampNeg) = z := ⟨_, rfl⟩
                            refine tw_ri (e2 := x11) ex11 ?_
                            refine lv_bipush (v := 86) hx hb d_Mod_isFinalizer_203 (by decide) ?_
                            refine lv_icmp_ne (tgt := 212) hx hb d_Mod_isFinalizer_205 (by decide) (fun h205 => ?_) (fun h205 => ?_)
                            · refine lv_iconst (v := 0) hx hb d_Mod_isFinalizer_212 (by decide) ?_
                              exact tw_zsret E (by decide) (by decide) d_Mod_isFinalizer_213
                            · refine lv_iconst (v := 1) hx hb d_Mod_isFinalizer_208 (by decide) ?_
                              refine lv_goto (tgt := 213) hx hb d_Mod_isFinalizer_209 (by decide) ?_
                              exact tw_zsret E (by decide) (by decide) d_Mod_isFinalizer_213
end
section
def SL64 (sk lo : Nat → Int32) (i : Nat) : Prop := ∃ s o, sk i = nI s ∧ s ≤ 64 ∧ lo i = nI o ∧ o ≤ 64
theorem rl_cdx {ca sk lo bg ln xf xt : Nat → Int32} {xn i : Nat} (h : CDX ca sk lo bg ln xf xt xn i) (hc : ¬ ca i ≤ 0) : CDO sk lo bg ln xf xt xn i := h.resolve_left (fun e => hc (by rw [e]; decide))
end
section
theorem d_Mod_judge_0 : decode b_Mod_judge 0 = .ok (.aload_n 0, 1) := by decide +kernel
theorem d_Mod_judge_1 : decode b_Mod_judge 1 = .ok (.getfield 205, 3) := by decide +kernel
theorem d_Mod_judge_4 : decode b_Mod_judge 4 = .ok (.aload_n 0, 1) := by decide +kernel
theorem d_Mod_judge_5 : decode b_Mod_judge 5 = .ok (.getfield 232, 3) := by decide +kernel
theorem d_Mod_judge_8 : decode b_Mod_judge 8 = .ok (.isub, 1) := by decide +kernel
theorem d_Mod_judge_9 : decode b_Mod_judge 9 = .ok (.aload_n 0, 1) := by decide +kernel
theorem d_Mod_judge_10 : decode b_Mod_judge 10 = .ok (.getfield 22, 3) := by decide +kernel
theorem d_Mod_judge_13 : decode b_Mod_judge 13 = .ok (.if_icmp .le 14, 3) := by decide +kernel
theorem d_Mod_judge_16 : decode b_Mod_judge 16 = .ok (.aload_n 0, 1) := by decide +kernel
theorem d_Mod_judge_17 : decode b_Mod_judge 17 = .ok (.bipush 13, 2) := by decide +kernel
theorem d_Mod_judge_19 : decode b_Mod_judge 19 = .ok (.aload_n 0, 1) := by decide +kernel
theorem d_Mod_judge_20 : decode b_Mod_judge 20 = .ok (.getfield 235, 3) := by decide +kernel
theorem d_Mod_judge_23 : decode b_Mod_judge 23 = .ok (.invokevirtual 159, 3) := by decide +kernel
theorem d_Mod_judge_26 : decode b_Mod_judge 26 = .ok (.return_, 1) := by decide +kernel
theorem d_Mod_judge_27 : decode b_Mod_judge 27 = .ok (.aload_n 0, 1) := by decide +kernel
theorem d_Mod_judge_28 : decode b_Mod_judge 28 = .ok (.aload_n 0, 1) := by decide +kernel
theorem d_Mod_judge_29 : decode b_Mod_judge 29 = .ok (.getfield 38, 3) := by decide +kernel
theorem d_Mod_judge_32 : decode b_Mod_judge 32 = .ok (.aload_n 0, 1) := by decide +kernel
theorem d_Mod_judge_33 : decode b_Mod_judge 33 = .ok (.getfield 219, 3) := by decide +kernel
theorem d_Mod_judge_36 : decode b_Mod_judge 36 = .ok (.iaload, 1) := by decide +kernel
theorem d_Mod_judge_37 : decode b_Mod_judge 37 = .ok (.iconst 0, 1) := by decide +kernel
theorem d_Mod_judge_38 : decode b_Mod_judge 38 = .ok (.invokevirtual 279, 3) := by decide +kernel
theorem d_Mod_judge_41 : decode b_Mod_judge 41 = .ok (.ifCond .eq 13, 3) := by decide +kernel
theorem d_Mod_judge_44 : decode b_Mod_judge 44 = .ok (.aload_n 0, 1) := by decide +kernel
theorem d_Mod_judge_45 : decode b_Mod_judge 45 = .ok (.bipush 14, 2) := by decide +kernel
theorem d_Mod_judge_47 : decode b_Mod_judge 47 = .ok (.aload_n 0, 1) := by decide +kernel
theorem d_Mod_judge_48 : decode b_Mod_judge 48 = .ok (.getfield 216, 3) := by decide +kernel
theorem d_Mod_judge_51 : decode b_Mod_judge 51 = .ok (.invokevirtual 159, 3) := by decide +kernel
theorem d_Mod_judge_54 : decode b_Mod_judge 54 = .ok (.iconst 1, 1) := by decide +kernel
theorem d_Mod_judge_55 : decode b_Mod_judge 55 = .ok (.istore_n 1, 1) := by decide +kernel
theorem d_Mod_judge_56 : decode b_Mod_judge 56 = .ok (.iload_n 1, 1) := by decide +kernel
theorem d_Mod_judge_57 : decode b_Mod_judge 57 = .ok (.aload_n 0, 1) := by decide +kernel
theorem d_Mod_judge_58 : decode b_Mod_judge 58 = .ok (.getfield 169, 3) := by decide +kernel
theorem d_Mod_judge_61 : decode b_Mod_judge 61 = .ok (.if_icmp .ge 96, 3) := by decide +kernel
theorem d_Mod_judge_64 : decode b_Mod_judge 64 = .ok (.aload_n 0, 1) := by decide +kernel
theorem d_Mod_judge_65 : decode b_Mod_judge 65 = .ok (.getfield 147, 3) := by decide +kernel
theorem d_Mod_judge_68 : decode b_Mod_judge 68 = .ok (.ifCond .ne 89, 3) := by decide +kernel
theorem d_Mod_judge_71 : decode b_Mod_judge 71 = .ok (.aload_n 0, 1) := by decide +kernel
theorem d_Mod_judge_72 : decode b_Mod_judge 72 = .ok (.getfield 32, 3) := by decide +kernel
theorem d_Mod_judge_75 : decode b_Mod_judge 75 = .ok (.iload_n 1, 1) := by decide +kernel
theorem d_Mod_judge_76 : decode b_Mod_judge 76 = .ok (.iaload, 1) := by decide +kernel
theorem d_Mod_judge_77 : decode b_Mod_judge 77 = .ok (.bipush 9, 2) := by decide +kernel
theorem d_Mod_judge_79 : decode b_Mod_judge 79 = .ok (.if_icmp .eq 14, 3) := by decide +kernel
theorem d_Mod_judge_82 : decode b_Mod_judge 82 = .ok (.aload_n 0, 1) := by decide +kernel
theorem d_Mod_judge_83 : decode b_Mod_judge 83 = .ok (.getfield 32, 3) := by decide +kernel
theorem d_Mod_judge_86 : decode b_Mod_judge 86 = .ok (.iload_n 1, 1) := by decide +kernel
theorem d_Mod_judge_87 : decode b_Mod_judge 87 = .ok (.iaload, 1) := by decide +kernel
theorem d_Mod_judge_88 : decode b_Mod_judge 88 = .ok (.bipush 10, 2) := by decide +kernel
theorem d_Mod_judge_90 : decode b_Mod_judge 90 = .ok (.if_icmp .ne 61, 3) := by decide +kernel
theorem d_Mod_judge_93 : decode b_Mod_judge 93 = .ok (.aload_n 0, 1) := by decide +kernel
theorem d_Mod_judge_94 : decode b_Mod_judge 94 = .ok (.aload_n 0, 1) := by decide +kernel
theorem d_Mod_judge_95 : decode b_Mod_judge 95 = .ok (.getfield 38, 3) := by decide +kernel
theorem d_Mod_judge_98 : decode b_Mod_judge 98 = .ok (.aload_n 0, 1) := by decide +kernel
theorem d_Mod_judge_99 : decode b_Mod_judge 99 = .ok (.getfield 38, 3) := by decide +kernel
theorem d_Mod_judge_102 : decode b_Mod_judge 102 = .ok (.iload_n 1, 1) := by decide +kernel
theorem d_Mod_judge_103 : decode b_Mod_judge 103 = .ok (.iaload, 1) := by decide +kernel
theorem d_Mod_judge_104 : decode b_Mod_judge 104 = .ok (.iaload, 1) := by decide +kernel
theorem d_Mod_judge_105 : decode b_Mod_judge 105 = .ok (.aload_n 0, 1) := by decide +kernel
theorem d_Mod_judge_106 : decode b_Mod_judge 106 = .ok (.getfield 38, 3) := by decide +kernel
theorem d_Mod_judge_109 : decode b_Mod_judge 109 = .ok (.aload_n 0, 1) := by decide +kernel
theorem d_Mod_judge_110 : decode b_Mod_judge 110 = .ok (.getfield 219, 3) := by decide +kernel
theorem d_Mod_judge_113 : decode b_Mod_judge 113 = .ok (.iaload, 1) := by decide +kernel
theorem d_Mod_judge_114 : decode b_Mod_judge 114 = .ok (.invokevirtual 267, 3) := by decide +kernel
theorem d_Mod_judge_117 : decode b_Mod_judge 117 = .ok (.ifCond .ne 34, 3) := by decide +kernel
theorem d_Mod_judge_120 : decode b_Mod_judge 120 = .ok (.aload_n 0, 1) := by decide +kernel
theorem d_Mod_judge_121 : decode b_Mod_judge 121 = .ok (.aload_n 0, 1) := by decide +kernel
theorem d_Mod_judge_122 : decode b_Mod_judge 122 = .ok (.getfield 38, 3) := by decide +kernel
theorem d_Mod_judge_125 : decode b_Mod_judge 125 = .ok (.aload_n 0, 1) := by decide +kernel
theorem d_Mod_judge_126 : decode b_Mod_judge 126 = .ok (.getfield 38, 3) := by decide +kernel
theorem d_Mod_judge_129 : decode b_Mod_judge 129 = .ok (.iload_n 1, 1) := by decide +kernel
theorem d_Mod_judge_130 : decode b_Mod_judge 130 = .ok (.iaload, 1) := by decide +kernel
theorem d_Mod_judge_131 : decode b_Mod_judge 131 = .ok (.iaload, 1) := by decide +kernel
theorem d_Mod_judge_132 : decode b_Mod_judge 132 = .ok (.iconst 1, 1) := by decide +kernel
theorem d_Mod_judge_133 : decode b_Mod_judge 133 = .ok (.invokevirtual 279, 3) := by decide +kernel
theorem d_Mod_judge_136 : decode b_Mod_judge 136 = .ok (.ifCond .ne 15, 3) := by decide +kernel
theorem d_Mod_judge_139 : decode b_Mod_judge 139 = .ok (.aload_n 0, 1) := by decide +kernel
theorem d_Mod_judge_140 : decode b_Mod_judge 140 = .ok (.bipush 15, 2) := by decide +kernel
theorem d_Mod_judge_142 : decode b_Mod_judge 142 = .ok (.aload_n 0, 1) := by decide +kernel
theorem d_Mod_judge_143 : decode b_Mod_judge 143 = .ok (.getfield 35, 3) := by decide +kernel
theorem d_Mod_judge_146 : decode b_Mod_judge 146 = .ok (.iload_n 1, 1) := by decide +kernel
theorem d_Mod_judge_147 : decode b_Mod_judge 147 = .ok (.iaload, 1) := by decide +kernel
theorem d_Mod_judge_148 : decode b_Mod_judge 148 = .ok (.invokevirtual 159, 3) := by decide +kernel
theorem d_Mod_judge_151 : decode b_Mod_judge 151 = .ok (.iinc 1 1, 3) := by decide +kernel
theorem d_Mod_judge_154 : decode b_Mod_judge 154 = .ok (.goto (-98), 3) := by decide +kernel
theorem d_Mod_judge_157 : decode b_Mod_judge 157 = .ok (.aload_n 0, 1) := by decide +kernel
theorem d_Mod_judge_158 : decode b_Mod_judge 158 = .ok (.getfield 232, 3) := by decide +kernel
theorem d_Mod_judge_161 : decode b_Mod_judge 161 = .ok (.istore_n 1, 1) := by decide +kernel
theorem d_Mod_judge_162 : decode b_Mod_judge 162 = .ok (.iload_n 1, 1) := by decide +kernel
theorem d_Mod_judge_163 : decode b_Mod_judge 163 = .ok (.aload_n 0, 1) := by decide +kernel
theorem d_Mod_judge_164 : decode b_Mod_judge 164 = .ok (.getfield 205, 3) := by decide +kernel
theorem d_Mod_judge_167 : decode b_Mod_judge 167 = .ok (.if_icmp .ge 123, 3) := by decide +kernel
theorem d_Mod_judge_170 : decode b_Mod_judge 170 = .ok (.aload_n 0, 1) := by decide +kernel
theorem d_Mod_judge_171 : decode b_Mod_judge 171 = .ok (.getfield 147, 3) := by decide +kernel
theorem d_Mod_judge_174 : decode b_Mod_judge 174 = .ok (.ifCond .ne 116, 3) := by decide +kernel
theorem d_Mod_judge_177 : decode b_Mod_judge 177 = .ok (.aload_n 0, 1) := by decide +kernel
theorem d_Mod_judge_178 : decode b_Mod_judge 178 = .ok (.getfield 50, 3) := by decide +kernel
theorem d_Mod_judge_181 : decode b_Mod_judge 181 = .ok (.iload_n 1, 1) := by decide +kernel
theorem d_Mod_judge_182 : decode b_Mod_judge 182 = .ok (.iaload, 1) := by decide +kernel
theorem d_Mod_judge_183 : decode b_Mod_judge 183 = .ok (.sipush 256, 3) := by decide +kernel
theorem d_Mod_judge_186 : decode b_Mod_judge 186 = .ok (.iand, 1) := by decide +kernel
theorem d_Mod_judge_187 : decode b_Mod_judge 187 = .ok (.ifCond .eq 18, 3) := by decide +kernel
theorem d_Mod_judge_190 : decode b_Mod_judge 190 = .ok (.aload_n 0, 1) := by decide +kernel
theorem d_Mod_judge_191 : decode b_Mod_judge 191 = .ok (.bipush 16, 2) := by decide +kernel
theorem d_Mod_judge_193 : decode b_Mod_judge 193 = .ok (.aload_n 0, 1) := by decide +kernel
theorem d_Mod_judge_194 : decode b_Mod_judge 194 = .ok (.getfield 53, 3) := by decide +kernel
theorem d_Mod_judge_197 : decode b_Mod_judge 197 = .ok (.iload_n 1, 1) := by decide +kernel
theorem d_Mod_judge_198 : decode b_Mod_judge 198 = .ok (.iaload, 1) := by decide +kernel
theorem d_Mod_judge_199 : decode b_Mod_judge 199 = .ok (.invokevirtual 159, 3) := by decide +kernel
theorem d_Mod_judge_202 : decode b_Mod_judge 202 = .ok (.goto 82, 3) := by decide +kernel
theorem d_Mod_judge_205 : decode b_Mod_judge 205 = .ok (.aload_n 0, 1) := by decide +kernel
theorem d_Mod_judge_206 : decode b_Mod_judge 206 = .ok (.iload_n 1, 1) := by decide +kernel
theorem d_Mod_judge_207 : decode b_Mod_judge 207 = .ok (.invokevirtual 282, 3) := by decide +kernel
theorem d_Mod_judge_210 : decode b_Mod_judge 210 = .ok (.ifCond .eq 18, 3) := by decide +kernel
theorem d_Mod_judge_213 : decode b_Mod_judge 213 = .ok (.aload_n 0, 1) := by decide +kernel
theorem d_Mod_judge_214 : decode b_Mod_judge 214 = .ok (.bipush 17, 2) := by decide +kernel
theorem d_Mod_judge_216 : decode b_Mod_judge 216 = .ok (.aload_n 0, 1) := by decide +kernel
theorem d_Mod_judge_217 : decode b_Mod_judge 217 = .ok (.getfield 53, 3) := by decide +kernel
theorem d_Mod_judge_220 : decode b_Mod_judge 220 = .ok (.iload_n 1, 1) := by decide +kernel
theorem d_Mod_judge_221 : decode b_Mod_judge 221 = .ok (.iaload, 1) := by decide +kernel
theorem d_Mod_judge_222 : decode b_Mod_judge 222 = .ok (.invokevirtual 159, 3) := by decide +kernel
theorem d_Mod_judge_225 : decode b_Mod_judge 225 = .ok (.goto 59, 3) := by decide +kernel
theorem d_Mod_judge_228 : decode b_Mod_judge 228 = .ok (.aload_n 0, 1) := by decide +kernel
theorem d_Mod_judge_229 : decode b_Mod_judge 229 = .ok (.getfield 62, 3) := by decide +kernel
theorem d_Mod_judge_232 : decode b_Mod_judge 232 = .ok (.iload_n 1, 1) := by decide +kernel
theorem d_Mod_judge_233 : decode b_Mod_judge 233 = .ok (.iaload, 1) := by decide +kernel
theorem d_Mod_judge_234 : decode b_Mod_judge 234 = .ok (.ifCond .le 50, 3) := by decide +kernel
theorem d_Mod_judge_237 : decode b_Mod_judge 237 = .ok (.aload_n 0, 1) := by decide +kernel
theorem d_Mod_judge_238 : decode b_Mod_judge 238 = .ok (.getfield 74, 3) := by decide +kernel
theorem d_Mod_judge_241 : decode b_Mod_judge 241 = .ok (.iload_n 1, 1) := by decide +kernel
theorem d_Mod_judge_242 : decode b_Mod_judge 242 = .ok (.iaload, 1) := by decide +kernel
theorem d_Mod_judge_243 : decode b_Mod_judge 243 = .ok (.aload_n 0, 1) := by decide +kernel
theorem d_Mod_judge_244 : decode b_Mod_judge 244 = .ok (.getfield 26, 3) := by decide +kernel
theorem d_Mod_judge_247 : decode b_Mod_judge 247 = .ok (.if_icmp .gt 25, 3) := by decide +kernel
theorem d_Mod_judge_250 : decode b_Mod_judge 250 = .ok (.aload_n 0, 1) := by decide +kernel
theorem d_Mod_judge_251 : decode b_Mod_judge 251 = .ok (.getfield 65, 3) := by decide +kernel
theorem d_Mod_judge_254 : decode b_Mod_judge 254 = .ok (.iload_n 1, 1) := by decide +kernel
theorem d_Mod_judge_255 : decode b_Mod_judge 255 = .ok (.iaload, 1) := by decide +kernel
theorem d_Mod_judge_256 : decode b_Mod_judge 256 = .ok (.bipush 64, 2) := by decide +kernel
theorem d_Mod_judge_258 : decode b_Mod_judge 258 = .ok (.if_icmp .gt 14, 3) := by decide +kernel
theorem d_Mod_judge_261 : decode b_Mod_judge 261 = .ok (.aload_n 0, 1) := by decide +kernel
theorem d_Mod_judge_262 : decode b_Mod_judge 262 = .ok (.getfield 68, 3) := by decide +kernel
theorem d_Mod_judge_265 : decode b_Mod_judge 265 = .ok (.iload_n 1, 1) := by decide +kernel
theorem d_Mod_judge_266 : decode b_Mod_judge 266 = .ok (.iaload, 1) := by decide +kernel
theorem d_Mod_judge_267 : decode b_Mod_judge 267 = .ok (.bipush 64, 2) := by decide +kernel
theorem d_Mod_judge_269 : decode b_Mod_judge 269 = .ok (.if_icmp .le 15, 3) := by decide +kernel
theorem d_Mod_judge_272 : decode b_Mod_judge 272 = .ok (.aload_n 0, 1) := by decide +kernel
theorem d_Mod_judge_273 : decode b_Mod_judge 273 = .ok (.bipush 13, 2) := by decide +kernel
theorem d_Mod_judge_275 : decode b_Mod_judge 275 = .ok (.aload_n 0, 1) := by decide +kernel
theorem d_Mod_judge_276 : decode b_Mod_judge 276 = .ok (.getfield 53, 3) := by decide +kernel
theorem d_Mod_judge_279 : decode b_Mod_judge 279 = .ok (.iload_n 1, 1) := by decide +kernel
theorem d_Mod_judge_280 : decode b_Mod_judge 280 = .ok (.iaload, 1) := by decide +kernel
theorem d_Mod_judge_281 : decode b_Mod_judge 281 = .ok (.invokevirtual 159, 3) := by decide +kernel
theorem d_Mod_judge_284 : decode b_Mod_judge 284 = .ok (.iinc 1 1, 3) := by decide +kernel
theorem d_Mod_judge_287 : decode b_Mod_judge 287 = .ok (.goto (-125), 3) := by decide +kernel
theorem d_Mod_judge_290 : decode b_Mod_judge 290 = .ok (.return_, 1) := by decide +kernel
end
